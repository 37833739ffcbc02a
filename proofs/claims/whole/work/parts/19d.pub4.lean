/-! the class's calls: loads, water, seed, years, mend -/
theorem ok_lay2 {l : Launch} {M : Mm} {R W b c : Nat} {ld : Int32} {g B : Nat → Int32} {x : Sx} (hb : isSt b) (hp : Plan M R W) (hc : c < R * W) : Ov GC l mX2_lay [.ref 35, .int (nI c), .int ld] (pC (setA (setA M 36 g) 37 B) b x) (pC (setA (setA M 36 g) 37 (layS g R W c ld B)) b x) := by
  have h := ok_X2_lay (l := l) (M := pC (setA M 36 g) b x) (R := R) (W := W) (c := c) (ld := ld) (B := B) (pC_plan hb (pl_set hp (by decide))) hc
  rw [set_o (st_out hb (by decide)), set_o (st_out hb (by decide)), pC_o (st_out hb (by decide)), sA_s] at h
  exact h
def beS (g : Sg) (a ld : Int32) : Nat → Int32 := layS (fun c => gpI (sK (gX g) c)) (gR g) (gW g) (ce a) ld (fun _ => 0)
noncomputable def fBorne (g : Sg) (a ld b : Int32) : Int32 × Sg := (ifC (vp_in a (gN g) ∧ vp_in b (gN g)) (ifC (okL ld) (beS g a ld (ce b)) (-102)) (-101), g)
theorem CS.nowx {g : Sg} {M : Mm} (h : CS g M) : CS g (pC M 15 (vC M 15)) := by rw [pC_vC]; exact h
theorem vC_sA {M : Mm} {h : Nat} {f : Nat → Int32} (hh : h < 15 ∨ 20 < h) : vC (setA M h f) 15 = vC M 15 := by
  unfold vC
  rw [sA_n (by omega), sA_n (by omega), sA_n (by omega), sA_n (by omega), sA_n (by omega), sA_n (by omega)]
theorem CS.st {g : Sg} {M : Mm} {y : Sx} (h : CS g M) (e : vC M 15 = y) : CS g (pC M 15 y) := by rw [← e, pC_vC]; exact h
theorem pub_borne {l : Launch} {M : Mm} {g : Sg} {a ld b : Int32} (h : CS g M) : Ok GC l mX11_borne [.ref 0, .int a, .int ld, .int b] M (qP (fBorne g a ld b)) := by
  have hb : isSt 15 := Or.inl rfl
  have h30 := h.p.1.le
  refine ok_of (by decide +kernel) rfl rfl ?_
  refine g_aload0 1 rfl dX11_borne_0 ?_
  refine g_iload1 2 rfl dX11_borne_1 ?_
  refine g_callV 5 1 rfl kX11_159 (by first | rfl | exact st_o hb | exact st_1 hb | exact st_2 hb | exact st_3 hb | exact st_4 hb | exact st_5 hb | exact st_o hb2 | exact st_1 hb2 | exact st_2 hb2 | exact st_3 hb2 | exact st_4 hb2 | exact st_5 hb2) dX11_borne_2 ⟨rfl, rfl⟩ (ok_isCell h.p) rfl rfl rfl (fun r M1 hq => ?_)
  obtain ⟨rfl, ⟨rfl, hq⟩ | ⟨rfl, hq⟩⟩ := hq
  try simp only [rV, Option.toList, List.cons_append, List.nil_append]
  · refine g_ifeq 16 8 rfl dX11_borne_5 (by decide) (fun h => absurd h (by decide)) (fun _ => ?_)
    refine g_aload0 9 rfl dX11_borne_8 ?_
    refine g_iload3 10 rfl dX11_borne_9 ?_
    refine g_callV 13 1 rfl kX11_159 (by first | rfl | exact st_o hb | exact st_1 hb | exact st_2 hb | exact st_3 hb | exact st_4 hb | exact st_5 hb | exact st_o hb2 | exact st_1 hb2 | exact st_2 hb2 | exact st_3 hb2 | exact st_4 hb2 | exact st_5 hb2) dX11_borne_10 ⟨rfl, rfl⟩ (ok_isCell h.p) rfl rfl rfl (fun r M1 hq => ?_)
    obtain ⟨rfl, ⟨rfl, hq2⟩ | ⟨rfl, hq2⟩⟩ := hq
    try simp only [rV, Option.toList, List.cons_append, List.nil_append]
    · refine g_ifne 19 16 rfl dX11_borne_13 (by decide) (fun _ => ?_) (fun h => absurd h (by decide))
      refine g_iload2 20 rfl dX11_borne_19 ?_
      refine g_callS 23 1 rfl kX11_219 dX11_borne_20 ⟨rfl, rfl⟩ ok_isLoad rfl rfl rfl (fun r M1 hq => ?_)
      obtain ⟨rfl, ⟨rfl, hw⟩ | ⟨rfl, hw⟩⟩ := hq
      try simp only [rV, Option.toList, List.cons_append, List.nil_append]
      · rename_i M1
        obtain ⟨c, hc, rfl⟩ := vp_in_of hq (by omega)
        obtain ⟨d, hd, rfl⟩ := vp_in_of hq2 (by omega)
        have ht := ok_X2_begin (l := l) (x := vC M1 15) hb h.p
        rw [pC_vC] at ht
        refine g_ifne 29 26 rfl dX11_borne_23 (by decide) (fun _ => ?_) (fun h => absurd h (by decide))
        refine g_aload0 30 rfl dX11_borne_29 ?_
        refine g_getR 33 rfl fX11_65 (by first | rfl | exact st_o hb | exact st_1 hb | exact st_2 hb | exact st_3 hb | exact st_4 hb | exact st_5 hb | exact st_o hb2 | exact st_1 hb2 | exact st_2 hb2 | exact st_3 hb2 | exact st_4 hb2 | exact st_5 hb2) rfl dX11_borne_30 ?_
        refine g_aload0 34 rfl dX11_borne_33 ?_
        refine g_getR 37 rfl fX11_45 (by first | rfl | exact st_o hb | exact st_1 hb | exact st_2 hb | exact st_3 hb | exact st_4 hb | exact st_5 hb | exact st_o hb2 | exact st_1 hb2 | exact st_2 hb2 | exact st_3 hb2 | exact st_4 hb2 | exact st_5 hb2) rfl dX11_borne_34 ?_
        refine g_callV 40 1 rfl kX11_222 (by first | rfl | exact st_o hb | exact st_1 hb | exact st_2 hb | exact st_3 hb | exact st_4 hb | exact st_5 hb | exact st_o hb2 | exact st_1 hb2 | exact st_2 hb2 | exact st_3 hb2 | exact st_4 hb2 | exact st_5 hb2) dX11_borne_37 ⟨rfl, rfl⟩ ht rfl rfl rfl (fun r M1 hq => ?_)
        obtain ⟨rfl, gr, B, rfl, hg, hB⟩ := hq
        try simp only [rV, Option.toList, List.cons_append, List.nil_append]
        refine g_aload0 41 rfl dX11_borne_40 ?_
        refine g_getR 44 rfl fX11_65 (by first | rfl | exact st_o hb | exact st_1 hb | exact st_2 hb | exact st_3 hb | exact st_4 hb | exact st_5 hb | exact st_o hb2 | exact st_1 hb2 | exact st_2 hb2 | exact st_3 hb2 | exact st_4 hb2 | exact st_5 hb2) rfl dX11_borne_41 ?_
        refine g_iload1 45 rfl dX11_borne_44 ?_
        refine g_iload2 46 rfl dX11_borne_45 ?_
        refine g_callVv 49 2 rfl kX11_225 (by first | rfl | exact st_o hb | exact st_1 hb | exact st_2 hb | exact st_3 hb | exact st_4 hb | exact st_5 hb | exact st_o hb2 | exact st_1 hb2 | exact st_2 hb2 | exact st_3 hb2 | exact st_4 hb2 | exact st_5 hb2) dX11_borne_46 ⟨rfl, rfl⟩ (ok_lay2 hb h.p hc) rfl rfl rfl ?_
        refine g_aload0 50 rfl dX11_borne_49 ?_
        refine g_getR 53 rfl fX11_65 (by first | rfl | exact st_o hb | exact st_1 hb | exact st_2 hb | exact st_3 hb | exact st_4 hb | exact st_5 hb | exact st_o hb2 | exact st_1 hb2 | exact st_2 hb2 | exact st_3 hb2 | exact st_4 hb2 | exact st_5 hb2) rfl dX11_borne_50 ?_
        refine g_getR 56 rfl fX11_228 (by first | rfl | exact st_o hb | exact st_1 hb | exact st_2 hb | exact st_3 hb | exact st_4 hb | exact st_5 hb | exact st_o hb2 | exact st_1 hb2 | exact st_2 hb2 | exact st_3 hb2 | exact st_4 hb2 | exact st_5 hb2) rfl dX11_borne_53 ?_
        refine g_iload3 57 rfl dX11_borne_56 ?_
        refine g_iald 58 rfl dX11_borne_57 (by first | rfl | exact st_o hb | exact st_1 hb | exact st_2 hb | exact st_3 hb | exact st_4 hb | exact st_5 hb | exact st_o hb2 | exact st_1 hb2 | exact st_2 hb2 | exact st_3 hb2 | exact st_4 hb2 | exact st_5 hb2) rfl rfl (by first | assumption | omega) ?_
        refine g_iret rfl dX11_borne_58 ?_
        rw [fBorne, ifC_t ⟨hq, hq2⟩, ifC_t hw, beS, ce_nI (by omega), ce_nI (by omega)]
        refine ⟨?_, (((h.sA nk36).sA nk37)).st (by rw [vC_sA (by omega), vC_sA (by omega)])⟩
        rw [pC_o (by decide), sA_s, layS_E (k := fun c => gpI (sK (gX g) c)) (C := fun _ => 0) (fun c' hc' => by rw [hg c' hc', h.x.K hc']) hB hc d hd]
      · refine g_ifne 29 26 rfl dX11_borne_23 (by decide) (fun h => absurd rfl h) (fun _ => ?_)
        refine g_bipush 28 rfl (v := (-102)) dX11_borne_26 (by decide) ?_
        refine g_iret rfl dX11_borne_28 ?_
        rw [fBorne, ifC_t ⟨hq, hq2⟩, ifC_f hw]
        exact ⟨rfl, h⟩
    · refine g_ifne 19 16 rfl dX11_borne_13 (by decide) (fun h => absurd rfl h) (fun _ => ?_)
      refine g_bipush 18 rfl (v := (-101)) dX11_borne_16 (by decide) ?_
      refine g_iret rfl dX11_borne_18 ?_
      rw [fBorne, ifC_f (fun z => hq2 z.2)]
      exact ⟨rfl, h⟩
  · refine g_ifeq 16 8 rfl dX11_borne_5 (by decide) (fun _ => ?_) (fun h => absurd rfl h)
    refine g_bipush 18 rfl (v := (-101)) dX11_borne_16 (by decide) ?_
    refine g_iret rfl dX11_borne_18 ?_
    rw [fBorne, ifC_f (fun z => hq z.1)]
    exact ⟨rfl, h⟩
theorem grtN_E {n : Nat} {B C : Nat → Int32} (h : eqN n B C) : ∀ i, i ≤ n → grtN B i = grtN C i
  | 0, _ => rfl
  | i + 1, hi => by rw [grtN, grtN, grtN_E h i (by omega), h i (by omega)]
noncomputable def fBearer (g : Sg) (a ld : Int32) : Int32 × Sg := (ifC (vp_in a (gN g)) (ifC (okL ld) (grtN (beS g a ld) (gN g)).1 (-102)) (-101), g)
theorem pub_bearer {l : Launch} {M : Mm} {g : Sg} {a ld : Int32} (h : CS g M) : Ok GC l mX11_bearer [.ref 0, .int a, .int ld] M (qP (fBearer g a ld)) := by
  have hb : isSt 15 := Or.inl rfl
  have h30 := h.p.1.le
  refine ok_of (by decide +kernel) rfl rfl ?_
  refine g_aload0 1 rfl dX11_bearer_0 ?_
  refine g_iload1 2 rfl dX11_bearer_1 ?_
  refine g_callV 5 1 rfl kX11_159 (by first | rfl | exact st_o hb | exact st_1 hb | exact st_2 hb | exact st_3 hb | exact st_4 hb | exact st_5 hb | exact st_o hb2 | exact st_1 hb2 | exact st_2 hb2 | exact st_3 hb2 | exact st_4 hb2 | exact st_5 hb2) dX11_bearer_2 ⟨rfl, rfl⟩ (ok_isCell h.p) rfl rfl rfl (fun r M1 hq => ?_)
  obtain ⟨rfl, ⟨rfl, hq⟩ | ⟨rfl, hq⟩⟩ := hq
  try simp only [rV, Option.toList, List.cons_append, List.nil_append]
  · refine g_ifne 11 8 rfl dX11_bearer_5 (by decide) (fun _ => ?_) (fun h => absurd h (by decide))
    refine g_iload2 12 rfl dX11_bearer_11 ?_
    refine g_callS 15 1 rfl kX11_219 dX11_bearer_12 ⟨rfl, rfl⟩ ok_isLoad rfl rfl rfl (fun r M1 hq => ?_)
    obtain ⟨rfl, ⟨rfl, hw⟩ | ⟨rfl, hw⟩⟩ := hq
    try simp only [rV, Option.toList, List.cons_append, List.nil_append]
    · rename_i M1
      obtain ⟨c, hc, rfl⟩ := vp_in_of hq (by omega)
      have ht := ok_X2_begin (l := l) (x := vC M1 15) hb h.p
      rw [pC_vC] at ht
      refine g_ifne 21 18 rfl dX11_bearer_15 (by decide) (fun _ => ?_) (fun h => absurd h (by decide))
      refine g_aload0 22 rfl dX11_bearer_21 ?_
      refine g_getR 25 rfl fX11_65 (by first | rfl | exact st_o hb | exact st_1 hb | exact st_2 hb | exact st_3 hb | exact st_4 hb | exact st_5 hb | exact st_o hb2 | exact st_1 hb2 | exact st_2 hb2 | exact st_3 hb2 | exact st_4 hb2 | exact st_5 hb2) rfl dX11_bearer_22 ?_
      refine g_aload0 26 rfl dX11_bearer_25 ?_
      refine g_getR 29 rfl fX11_45 (by first | rfl | exact st_o hb | exact st_1 hb | exact st_2 hb | exact st_3 hb | exact st_4 hb | exact st_5 hb | exact st_o hb2 | exact st_1 hb2 | exact st_2 hb2 | exact st_3 hb2 | exact st_4 hb2 | exact st_5 hb2) rfl dX11_bearer_26 ?_
      refine g_callV 32 1 rfl kX11_222 (by first | rfl | exact st_o hb | exact st_1 hb | exact st_2 hb | exact st_3 hb | exact st_4 hb | exact st_5 hb | exact st_o hb2 | exact st_1 hb2 | exact st_2 hb2 | exact st_3 hb2 | exact st_4 hb2 | exact st_5 hb2) dX11_bearer_29 ⟨rfl, rfl⟩ ht rfl rfl rfl (fun r M1 hq => ?_)
      obtain ⟨rfl, gr, B, rfl, hg, hB⟩ := hq
      try simp only [rV, Option.toList, List.cons_append, List.nil_append]
      have hp2 := pC_plan (x := vC M1 15) hb (pl_set (f := layS gr (gR g) (gW g) c ld B) (h := 37) (pl_set (f := gr) (h := 36) h.p (by decide)) (by decide))
      refine g_aload0 33 rfl dX11_bearer_32 ?_
      refine g_getR 36 rfl fX11_65 (by first | rfl | exact st_o hb | exact st_1 hb | exact st_2 hb | exact st_3 hb | exact st_4 hb | exact st_5 hb | exact st_o hb2 | exact st_1 hb2 | exact st_2 hb2 | exact st_3 hb2 | exact st_4 hb2 | exact st_5 hb2) rfl dX11_bearer_33 ?_
      refine g_iload1 37 rfl dX11_bearer_36 ?_
      refine g_iload2 38 rfl dX11_bearer_37 ?_
      refine g_callVv 41 2 rfl kX11_225 (by first | rfl | exact st_o hb | exact st_1 hb | exact st_2 hb | exact st_3 hb | exact st_4 hb | exact st_5 hb | exact st_o hb2 | exact st_1 hb2 | exact st_2 hb2 | exact st_3 hb2 | exact st_4 hb2 | exact st_5 hb2) dX11_bearer_38 ⟨rfl, rfl⟩ (ok_lay2 hb h.p hc) rfl rfl rfl ?_
      refine g_aload0 42 rfl dX11_bearer_41 ?_
      refine g_getR 45 rfl fX11_65 (by first | rfl | exact st_o hb | exact st_1 hb | exact st_2 hb | exact st_3 hb | exact st_4 hb | exact st_5 hb | exact st_o hb2 | exact st_1 hb2 | exact st_2 hb2 | exact st_3 hb2 | exact st_4 hb2 | exact st_5 hb2) rfl dX11_bearer_42 ?_
      refine g_callVi 48 0 rfl kX11_231 (by first | rfl | exact st_o hb | exact st_1 hb | exact st_2 hb | exact st_3 hb | exact st_4 hb | exact st_5 hb | exact st_o hb2 | exact st_1 hb2 | exact st_2 hb2 | exact st_3 hb2 | exact st_4 hb2 | exact st_5 hb2) dX11_bearer_45 ⟨rfl, rfl⟩ (ok_X2_greatest hp2) rfl rfl rfl ?_
      refine g_iret rfl dX11_bearer_48 ?_
      rw [fBearer, ifC_t hq, ifC_t hw, beS, ce_nI (by omega)]
      refine ⟨?_, (((h.sA nk36).sA nk37)).st (by rw [vC_sA (by omega), vC_sA (by omega)])⟩
      rw [pC_o (by decide), sA_s, grtN_E (layS_E (k := fun c => gpI (sK (gX g) c)) (C := fun _ => 0) (fun c' hc' => by rw [hg c' hc', h.x.K hc']) hB hc) _ (Nat.le_refl _)]
    · refine g_ifne 21 18 rfl dX11_bearer_15 (by decide) (fun h => absurd rfl h) (fun _ => ?_)
      refine g_bipush 20 rfl (v := (-102)) dX11_bearer_18 (by decide) ?_
      refine g_iret rfl dX11_bearer_20 ?_
      rw [fBearer, ifC_t hq, ifC_f hw]
      exact ⟨rfl, h⟩
  · refine g_ifne 11 8 rfl dX11_bearer_5 (by decide) (fun h => absurd rfl h) (fun _ => ?_)
    refine g_bipush 10 rfl (v := (-101)) dX11_bearer_8 (by decide) ?_
    refine g_iret rfl dX11_bearer_10 ?_
    rw [fBearer, ifC_f hq]
    exact ⟨rfl, h⟩
noncomputable def watS (R W : Nat) (x : Sx) (c : Nat) : Int32 := filS R W (sH x) (fun _ => 0) c - sH x c
theorem watS_E {R W c : Nat} {x y : Sx} {L : Nat → Int32} (h : sxE (R * W) x y) (hc : c < R * W) : filS R W (sH x) L c - sH x c = watS R W y c := by
  unfold watS
  rw [filS_E h.2.2.1 L (fun _ => 0) c hc, h.H hc]
noncomputable def fWater (g : Sg) (a : Int32) : Int32 × Sg := (ifC (vp_in a (gN g)) (watS (gR g) (gW g) (gX g) (ce a)) (-101), g)
theorem pub_water {l : Launch} {M : Mm} {g : Sg} {a : Int32} (h : CS g M) : Ok GC l mX11_water [.ref 0, .int a] M (qP (fWater g a)) := by
  have hb : isSt 15 := Or.inl rfl
  have h30 := h.p.1.le
  refine ok_of (by decide +kernel) rfl rfl ?_
  refine g_aload0 1 rfl dX11_water_0 ?_
  refine g_iload1 2 rfl dX11_water_1 ?_
  refine g_callV 5 1 rfl kX11_159 (by first | rfl | exact st_o hb | exact st_1 hb | exact st_2 hb | exact st_3 hb | exact st_4 hb | exact st_5 hb | exact st_o hb2 | exact st_1 hb2 | exact st_2 hb2 | exact st_3 hb2 | exact st_4 hb2 | exact st_5 hb2) dX11_water_2 ⟨rfl, rfl⟩ (ok_isCell h.p) rfl rfl rfl (fun r M1 hq => ?_)
  obtain ⟨rfl, ⟨rfl, hq⟩ | ⟨rfl, hq⟩⟩ := hq
  try simp only [rV, Option.toList, List.cons_append, List.nil_append]
  · obtain ⟨c, hc, rfl⟩ := vp_in_of hq (by omega)
    have ht := ok_X9_fill (l := l) (M := M1) (x := vC M1 15) (L := M1.1 39) hb h.p
    rw [sA_id, pC_vC] at ht
    refine g_ifne 11 8 rfl dX11_water_5 (by decide) (fun _ => ?_) (fun h => absurd h (by decide))
    refine g_aload0 12 rfl dX11_water_11 ?_
    refine g_getR 15 rfl fX11_72 (by first | rfl | exact st_o hb | exact st_1 hb | exact st_2 hb | exact st_3 hb | exact st_4 hb | exact st_5 hb | exact st_o hb2 | exact st_1 hb2 | exact st_2 hb2 | exact st_3 hb2 | exact st_4 hb2 | exact st_5 hb2) rfl dX11_water_12 ?_
    refine g_aload0 16 rfl dX11_water_15 ?_
    refine g_getR 19 rfl fX11_45 (by first | rfl | exact st_o hb | exact st_1 hb | exact st_2 hb | exact st_3 hb | exact st_4 hb | exact st_5 hb | exact st_o hb2 | exact st_1 hb2 | exact st_2 hb2 | exact st_3 hb2 | exact st_4 hb2 | exact st_5 hb2) rfl dX11_water_16 ?_
    refine g_callVv 22 1 rfl kX11_234 (by first | rfl | exact st_o hb | exact st_1 hb | exact st_2 hb | exact st_3 hb | exact st_4 hb | exact st_5 hb | exact st_o hb2 | exact st_1 hb2 | exact st_2 hb2 | exact st_3 hb2 | exact st_4 hb2 | exact st_5 hb2) dX11_water_19 ⟨rfl, rfl⟩ ht rfl rfl rfl ?_
    refine g_aload0 23 rfl dX11_water_22 ?_
    refine g_getR 26 rfl fX11_72 (by first | rfl | exact st_o hb | exact st_1 hb | exact st_2 hb | exact st_3 hb | exact st_4 hb | exact st_5 hb | exact st_o hb2 | exact st_1 hb2 | exact st_2 hb2 | exact st_3 hb2 | exact st_4 hb2 | exact st_5 hb2) rfl dX11_water_23 ?_
    refine g_aload0 27 rfl dX11_water_26 ?_
    refine g_getR 30 rfl fX11_45 (by first | rfl | exact st_o hb | exact st_1 hb | exact st_2 hb | exact st_3 hb | exact st_4 hb | exact st_5 hb | exact st_o hb2 | exact st_1 hb2 | exact st_2 hb2 | exact st_3 hb2 | exact st_4 hb2 | exact st_5 hb2) rfl dX11_water_27 ?_
    refine g_iload1 31 rfl dX11_water_30 ?_
    refine g_callVi 34 2 rfl kX11_237 (by first | rfl | exact st_o hb | exact st_1 hb | exact st_2 hb | exact st_3 hb | exact st_4 hb | exact st_5 hb | exact st_o hb2 | exact st_1 hb2 | exact st_2 hb2 | exact st_3 hb2 | exact st_4 hb2 | exact st_5 hb2) dX11_water_31 ⟨rfl, rfl⟩ (ok_X9_depth hb (by omega)) rfl rfl rfl ?_
    refine g_iret rfl dX11_water_34 ?_
    rw [fWater, ifC_t hq, ce_nI (by omega)]
    exact ⟨by rw [watS_E h.x hc], (h.sA nk39).st (by rw [vC_sA (by omega)])⟩
  · refine g_ifne 11 8 rfl dX11_water_5 (by decide) (fun h => absurd rfl h) (fun _ => ?_)
    refine g_bipush 10 rfl (v := (-101)) dX11_water_8 (by decide) ?_
    refine g_iret rfl dX11_water_10 ?_
    rw [fWater, ifC_f hq]
    exact ⟨rfl, h⟩
noncomputable def fSeed (g : Sg) (v : Int32) : Int32 × Sg := ifC (0 ≤ v) (sD (gX g), sgX g (wD (gX g) v)) (-102, g)
theorem pub_seed {l : Launch} {M : Mm} {g : Sg} {v : Int32} (h : CS g M) : Ok GC l mX11_seed [.ref 0, .int v] M (qP (fSeed g v)) := by
  have hb : isSt 15 := Or.inl rfl
  refine ok_of (by decide +kernel) rfl rfl ?_
  refine g_mem (pC M 15 (vC M 15)) (pC_vC M 15).symm ?_
  refine g_iload1 1 rfl dX11_seed_0 ?_
  refine g_ifge 7 4 rfl dX11_seed_1 (by decide) (fun h1 => ?_) (fun h1 => ?_)
  · refine g_aload0 8 rfl dX11_seed_7 ?_
    refine g_getR 11 rfl fX11_45 (by first | rfl | exact st_o hb | exact st_1 hb | exact st_2 hb | exact st_3 hb | exact st_4 hb | exact st_5 hb | exact st_o hb2 | exact st_1 hb2 | exact st_2 hb2 | exact st_3 hb2 | exact st_4 hb2 | exact st_5 hb2) rfl dX11_seed_8 ?_
    refine g_getI 14 rfl fX11_241 (by first | rfl | exact st_o hb | exact st_1 hb | exact st_2 hb | exact st_3 hb | exact st_4 hb | exact st_5 hb | exact st_o hb2 | exact st_1 hb2 | exact st_2 hb2 | exact st_3 hb2 | exact st_4 hb2 | exact st_5 hb2) rfl dX11_seed_11 ?_
    try simp only [pC_6 (b := 15), set_6 (b := 15)]
    refine g_istore2 15 rfl dX11_seed_14 rfl rfl ?_
    refine g_aload0 16 rfl dX11_seed_15 ?_
    refine g_getR 19 rfl fX11_45 (by first | rfl | exact st_o hb | exact st_1 hb | exact st_2 hb | exact st_3 hb | exact st_4 hb | exact st_5 hb | exact st_o hb2 | exact st_1 hb2 | exact st_2 hb2 | exact st_3 hb2 | exact st_4 hb2 | exact st_5 hb2) rfl dX11_seed_16 ?_
    refine g_iload1 20 rfl dX11_seed_19 ?_
    refine g_putI 23 rfl fX11_241 (by first | rfl | exact st_o hb | exact st_1 hb | exact st_2 hb | exact st_3 hb | exact st_4 hb | exact st_5 hb | exact st_o hb2 | exact st_1 hb2 | exact st_2 hb2 | exact st_3 hb2 | exact st_4 hb2 | exact st_5 hb2) rfl dX11_seed_20 ?_
    try simp only [pC_6 (b := 15), set_6 (b := 15)]
    refine g_iload2 24 rfl dX11_seed_23 ?_
    refine g_iret rfl dX11_seed_24 ?_
    rw [fSeed, ifC_t h1]
    exact ⟨by rw [← h.x.D], h.now (h.x.wD rfl)⟩
  · refine g_bipush 6 rfl (v := (-102)) dX11_seed_4 (by decide) ?_
    refine g_iret rfl dX11_seed_6 ?_
    rw [fSeed, ifC_f h1]
    exact ⟨rfl, h.nowx⟩
/-- there is a street and there are carts -/
abbrev isT (g : Sg) : Prop := 0 < gN g ∧ 0 < (gK g).1
noncomputable def yrG (g : Sg) (y f : Int32) : Sx × Int32 := yrsS (gR g) (gW g) (gK g) f (ce y) (gX g)
noncomputable def fYears (g : Sg) (y f : Int32) : Int32 × Sg := ifC (isT g) (ifC (okY y f) ((yrG g y f).2, sgX g (yrG g y f).1) (-102, g)) (-103, g)
noncomputable def fWould (g : Sg) (y f : Int32) : Int32 × Sg := (ifC (isT g) (ifC (okY y f) (yrG g y f).2 (-102)) (-103), g)
theorem okY_nI {y f : Int32} (h : okY y f) : ∃ k, k < 21 ∧ y = nI k := by
  have h1 := h.1
  have h2 := h.2.1
  rw [Int32.le_iff_toInt_le] at h1 h2
  have h20 : (20 : Int32).toInt = 20 := by decide
  rw [tI1] at h1
  obtain ⟨j, hj, rfl⟩ := vp_in_of (x := y) (n := 21) (vp_in_iff.mpr (by omega)) (by decide)
  exact ⟨j, hj, rfl⟩
theorem CS.f4 {g : Sg} {M N : Mm} (h : CS g M) (hF : Fr4 M N) : CS g N := h.fr (fun q hq => hF.1 q (fun e => nk36 (e ▸ hq)) (fun e => nk37 (e ▸ hq)) (fun e => nk39 (e ▸ hq)) (fun e => nk41 (e ▸ hq)))
theorem pub_years {l : Launch} {M : Mm} {g : Sg} {y f : Int32} (h : CS g M) : Ok GC l mX11_years [.ref 0, .int y, .int f] M (qP (fYears g y f)) := by
  have hb : isSt 15 := Or.inl rfl
  refine ok_of (by decide +kernel) rfl rfl ?_
  refine g_aload0 1 rfl dX11_years_0 ?_
  refine g_callV 4 0 rfl kX11_244 (by first | rfl | exact st_o hb | exact st_1 hb | exact st_2 hb | exact st_3 hb | exact st_4 hb | exact st_5 hb | exact st_o hb2 | exact st_1 hb2 | exact st_2 hb2 | exact st_3 hb2 | exact st_4 hb2 | exact st_5 hb2) dX11_years_1 ⟨rfl, rfl⟩ (ok_hasTraffic h.p h.k) rfl rfl rfl (fun r M1 hq => ?_)
  obtain ⟨rfl, ⟨rfl, hq⟩ | ⟨rfl, hq⟩⟩ := hq
  try simp only [rV, Option.toList, List.cons_append, List.nil_append]
  · refine g_ifne 10 7 rfl dX11_years_4 (by decide) (fun _ => ?_) (fun h => absurd h (by decide))
    refine g_iload1 11 rfl dX11_years_10 ?_
    refine g_iload2 12 rfl dX11_years_11 ?_
    refine g_callS 15 2 rfl kX11_247 dX11_years_12 ⟨rfl, rfl⟩ ok_areYears rfl rfl rfl (fun r M1 hq => ?_)
    obtain ⟨rfl, ⟨rfl, hw⟩ | ⟨rfl, hw⟩⟩ := hq
    try simp only [rV, Option.toList, List.cons_append, List.nil_append]
    · rename_i M1
      obtain ⟨k, hk, rfl⟩ := okY_nI hw
      have ht := ok_X10_pass (l := l) (x := vC M1 15) (fr := f) hb h.p h.k (show k < 100 by omega)
      rw [pC_vC] at ht
      refine g_ifne 21 18 rfl dX11_years_15 (by decide) (fun _ => ?_) (fun h => absurd h (by decide))
      refine g_aload0 22 rfl dX11_years_21 ?_
      refine g_getR 25 rfl fX11_81 (by first | rfl | exact st_o hb | exact st_1 hb | exact st_2 hb | exact st_3 hb | exact st_4 hb | exact st_5 hb | exact st_o hb2 | exact st_1 hb2 | exact st_2 hb2 | exact st_3 hb2 | exact st_4 hb2 | exact st_5 hb2) rfl dX11_years_22 ?_
      refine g_aload0 26 rfl dX11_years_25 ?_
      refine g_getR 29 rfl fX11_45 (by first | rfl | exact st_o hb | exact st_1 hb | exact st_2 hb | exact st_3 hb | exact st_4 hb | exact st_5 hb | exact st_o hb2 | exact st_1 hb2 | exact st_2 hb2 | exact st_3 hb2 | exact st_4 hb2 | exact st_5 hb2) rfl dX11_years_26 ?_
      refine g_aload0 30 rfl dX11_years_29 ?_
      refine g_getR 33 rfl fX11_30 (by first | rfl | exact st_o hb | exact st_1 hb | exact st_2 hb | exact st_3 hb | exact st_4 hb | exact st_5 hb | exact st_o hb2 | exact st_1 hb2 | exact st_2 hb2 | exact st_3 hb2 | exact st_4 hb2 | exact st_5 hb2) rfl dX11_years_30 ?_
      refine g_iload1 34 rfl dX11_years_33 ?_
      refine g_iload2 35 rfl dX11_years_34 ?_
      refine g_callV 38 4 rfl kX11_250 (by first | rfl | exact st_o hb | exact st_1 hb | exact st_2 hb | exact st_3 hb | exact st_4 hb | exact st_5 hb | exact st_o hb2 | exact st_1 hb2 | exact st_2 hb2 | exact st_3 hb2 | exact st_4 hb2 | exact st_5 hb2) dX11_years_35 ⟨rfl, rfl⟩ ht rfl rfl rfl (fun r M1 hq => ?_)
      obtain ⟨rfl, N, u, rfl, hF, hu⟩ := hq
      try simp only [rV, Option.toList, List.cons_append, List.nil_append]
      refine g_iret rfl dX11_years_38 ?_
      have e := yrsS_E (n := k) (k := gK g) (fr := f) h.x
      rw [fYears, ifC_t hq, ifC_t hw, yrG, ce_nI (by omega)]
      exact ⟨by rw [e.2], (h.f4 hF).now (hu.tr e.1)⟩
    · refine g_ifne 21 18 rfl dX11_years_15 (by decide) (fun h => absurd rfl h) (fun _ => ?_)
      refine g_bipush 20 rfl (v := (-102)) dX11_years_18 (by decide) ?_
      refine g_iret rfl dX11_years_20 ?_
      rw [fYears, ifC_t hq, ifC_f hw]
      exact ⟨rfl, h⟩
  · refine g_ifne 10 7 rfl dX11_years_4 (by decide) (fun h => absurd rfl h) (fun _ => ?_)
    refine g_bipush 9 rfl (v := (-103)) dX11_years_7 (by decide) ?_
    refine g_iret rfl dX11_years_9 ?_
    rw [fYears, ifC_f hq]
    exact ⟨rfl, h⟩
theorem pub_would {l : Launch} {M : Mm} {g : Sg} {y f : Int32} (h : CS g M) : Ok GC l mX11_would [.ref 0, .int y, .int f] M (qP (fWould g y f)) := by
  have hb : isSt 15 := Or.inl rfl
  have hb2 : isSt 21 := Or.inr (Or.inl rfl)
  refine ok_of (by decide +kernel) rfl rfl ?_
  refine g_aload0 1 rfl dX11_would_0 ?_
  refine g_callV 4 0 rfl kX11_244 (by first | rfl | exact st_o hb | exact st_1 hb | exact st_2 hb | exact st_3 hb | exact st_4 hb | exact st_5 hb | exact st_o hb2 | exact st_1 hb2 | exact st_2 hb2 | exact st_3 hb2 | exact st_4 hb2 | exact st_5 hb2) dX11_would_1 ⟨rfl, rfl⟩ (ok_hasTraffic h.p h.k) rfl rfl rfl (fun r M1 hq => ?_)
  obtain ⟨rfl, ⟨rfl, hq⟩ | ⟨rfl, hq⟩⟩ := hq
  try simp only [rV, Option.toList, List.cons_append, List.nil_append]
  · refine g_ifne 10 7 rfl dX11_would_4 (by decide) (fun _ => ?_) (fun h => absurd h (by decide))
    refine g_iload1 11 rfl dX11_would_10 ?_
    refine g_iload2 12 rfl dX11_would_11 ?_
    refine g_callS 15 2 rfl kX11_247 dX11_would_12 ⟨rfl, rfl⟩ ok_areYears rfl rfl rfl (fun r M1 hq => ?_)
    obtain ⟨rfl, ⟨rfl, hw⟩ | ⟨rfl, hw⟩⟩ := hq
    try simp only [rV, Option.toList, List.cons_append, List.nil_append]
    · rename_i M1
      obtain ⟨k, hk, rfl⟩ := okY_nI hw
      have ht := ok_X7_copyFrom (l := l) (x := vC M1 21) hb2 hb ap21 h.p
      rw [pC_vC] at ht
      refine g_ifne 21 18 rfl dX11_would_15 (by decide) (fun _ => ?_) (fun h => absurd h (by decide))
      refine g_aload0 22 rfl dX11_would_21 ?_
      refine g_getR 25 rfl fX11_49 (by first | rfl | exact st_o hb | exact st_1 hb | exact st_2 hb | exact st_3 hb | exact st_4 hb | exact st_5 hb | exact st_o hb2 | exact st_1 hb2 | exact st_2 hb2 | exact st_3 hb2 | exact st_4 hb2 | exact st_5 hb2) rfl dX11_would_22 ?_
      refine g_aload0 26 rfl dX11_would_25 ?_
      refine g_getR 29 rfl fX11_45 (by first | rfl | exact st_o hb | exact st_1 hb | exact st_2 hb | exact st_3 hb | exact st_4 hb | exact st_5 hb | exact st_o hb2 | exact st_1 hb2 | exact st_2 hb2 | exact st_3 hb2 | exact st_4 hb2 | exact st_5 hb2) rfl dX11_would_26 ?_
      refine g_callV 32 1 rfl kX11_205 (by first | rfl | exact st_o hb | exact st_1 hb | exact st_2 hb | exact st_3 hb | exact st_4 hb | exact st_5 hb | exact st_o hb2 | exact st_1 hb2 | exact st_2 hb2 | exact st_3 hb2 | exact st_4 hb2 | exact st_5 hb2) dX11_would_29 ⟨rfl, rfl⟩ ht rfl rfl rfl (fun r M1 hq => ?_)
      obtain ⟨rfl, v, rfl, hv⟩ := hq
      try simp only [rV, Option.toList, List.cons_append, List.nil_append]
      refine g_aload0 33 rfl dX11_would_32 ?_
      refine g_getR 36 rfl fX11_81 (by first | rfl | exact st_o hb | exact st_1 hb | exact st_2 hb | exact st_3 hb | exact st_4 hb | exact st_5 hb | exact st_o hb2 | exact st_1 hb2 | exact st_2 hb2 | exact st_3 hb2 | exact st_4 hb2 | exact st_5 hb2) rfl dX11_would_33 ?_
      refine g_aload0 37 rfl dX11_would_36 ?_
      refine g_getR 40 rfl fX11_49 (by first | rfl | exact st_o hb | exact st_1 hb | exact st_2 hb | exact st_3 hb | exact st_4 hb | exact st_5 hb | exact st_o hb2 | exact st_1 hb2 | exact st_2 hb2 | exact st_3 hb2 | exact st_4 hb2 | exact st_5 hb2) rfl dX11_would_37 ?_
      refine g_aload0 41 rfl dX11_would_40 ?_
      refine g_getR 44 rfl fX11_30 (by first | rfl | exact st_o hb | exact st_1 hb | exact st_2 hb | exact st_3 hb | exact st_4 hb | exact st_5 hb | exact st_o hb2 | exact st_1 hb2 | exact st_2 hb2 | exact st_3 hb2 | exact st_4 hb2 | exact st_5 hb2) rfl dX11_would_41 ?_
      refine g_iload1 45 rfl dX11_would_44 ?_
      refine g_iload2 46 rfl dX11_would_45 ?_
      refine g_callV 49 4 rfl kX11_250 (by first | rfl | exact st_o hb | exact st_1 hb | exact st_2 hb | exact st_3 hb | exact st_4 hb | exact st_5 hb | exact st_o hb2 | exact st_1 hb2 | exact st_2 hb2 | exact st_3 hb2 | exact st_4 hb2 | exact st_5 hb2) dX11_would_46 ⟨rfl, rfl⟩ (ok_X10_pass hb2 h.p h.k (show k < 100 by omega)) rfl rfl rfl (fun r M1 hq => ?_)
      obtain ⟨rfl, N, u, rfl, hF, hu⟩ := hq
      try simp only [rV, Option.toList, List.cons_append, List.nil_append]
      refine g_iret rfl dX11_would_49 ?_
      have e := yrsS_E (n := k) (k := gK g) (fr := f) (hv.tr h.x)
      rw [fWould, ifC_t hq, ifC_t hw, yrG, ce_nI (by omega)]
      exact ⟨by rw [e.2], (h.f4 hF).tri⟩
    · refine g_ifne 21 18 rfl dX11_would_15 (by decide) (fun h => absurd rfl h) (fun _ => ?_)
      refine g_bipush 20 rfl (v := (-102)) dX11_would_18 (by decide) ?_
      refine g_iret rfl dX11_would_20 ?_
      rw [fWould, ifC_t hq, ifC_f hw]
      exact ⟨rfl, h⟩
  · refine g_ifne 10 7 rfl dX11_would_4 (by decide) (fun h => absurd rfl h) (fun _ => ?_)
    refine g_bipush 9 rfl (v := (-103)) dX11_would_7 (by decide) ?_
    refine g_iret rfl dX11_would_9 ?_
    rw [fWould, ifC_f hq]
    exact ⟨rfl, h⟩
theorem repS_E {n c : Nat} {x y : Sx} {z : Int32} (h : sxE n x y) (hc : c < n) : sxE n (repS c z x) (repS c z y) := by
  unfold repS
  rw [h.K hc]
  split
  · exact (((h.wK (h.1.up c rfl)).wZ (h.2.1.up c rfl)).wH (h.2.2.1.up c rfl)).wS (h.2.2.2.1.up c rfl)
  · exact ((h.wK (h.1.up c rfl)).wH (h.2.2.1.up c rfl)).wS (h.2.2.2.1.up c rfl)
theorem canS_E {n c : Nat} {x y : Sx} (h : sxE n x y) (hc : c < n) : canS x c = canS y c := by unfold canS; rw [h.K hc]
noncomputable def fMend (g : Sg) (a z : Int32) : Int32 × Sg := ifC (vp_in a (gN g)) (ifC (okZ z) (ifC (canS (gX g) (ce a) = 0) (-103, g) (sK (repS (ce a) z (gX g)) (ce a), sgX g (repS (ce a) z (gX g)))) (-102, g)) (-101, g)
theorem pub_mend {l : Launch} {M : Mm} {g : Sg} {a z : Int32} (h : CS g M) : Ok GC l mX11_mend [.ref 0, .int a, .int z] M (qP (fMend g a z)) := by
  have hb : isSt 15 := Or.inl rfl
  have h30 := h.p.1.le
  refine ok_of (by decide +kernel) rfl rfl ?_
  refine g_aload0 1 rfl dX11_mend_0 ?_
  refine g_iload1 2 rfl dX11_mend_1 ?_
  refine g_callV 5 1 rfl kX11_159 (by first | rfl | exact st_o hb | exact st_1 hb | exact st_2 hb | exact st_3 hb | exact st_4 hb | exact st_5 hb | exact st_o hb2 | exact st_1 hb2 | exact st_2 hb2 | exact st_3 hb2 | exact st_4 hb2 | exact st_5 hb2) dX11_mend_2 ⟨rfl, rfl⟩ (ok_isCell h.p) rfl rfl rfl (fun r M1 hq => ?_)
  obtain ⟨rfl, ⟨rfl, hq⟩ | ⟨rfl, hq⟩⟩ := hq
  try simp only [rV, Option.toList, List.cons_append, List.nil_append]
  · refine g_ifne 11 8 rfl dX11_mend_5 (by decide) (fun _ => ?_) (fun h => absurd h (by decide))
    refine g_iload2 12 rfl dX11_mend_11 ?_
    refine g_callS 15 1 rfl kX11_254 dX11_mend_12 ⟨rfl, rfl⟩ ok_isSize rfl rfl rfl (fun r M1 hq => ?_)
    obtain ⟨rfl, ⟨rfl, hw⟩ | ⟨rfl, hw⟩⟩ := hq
    try simp only [rV, Option.toList, List.cons_append, List.nil_append]
    · rename_i M1
      obtain ⟨c, hc, rfl⟩ := vp_in_of hq (by omega)
      have ht := ok_X7_canBeMended (l := l) (x := vC M1 15) hb h.p hc
      rw [pC_vC] at ht
      have ht2 := ok_X7_repair (l := l) (x := vC M1 15) (z := z) hb h.p hc
      rw [pC_vC] at ht2
      refine g_ifne 21 18 rfl dX11_mend_15 (by decide) (fun _ => ?_) (fun h => absurd h (by decide))
      refine g_aload0 22 rfl dX11_mend_21 ?_
      refine g_getR 25 rfl fX11_45 (by first | rfl | exact st_o hb | exact st_1 hb | exact st_2 hb | exact st_3 hb | exact st_4 hb | exact st_5 hb | exact st_o hb2 | exact st_1 hb2 | exact st_2 hb2 | exact st_3 hb2 | exact st_4 hb2 | exact st_5 hb2) rfl dX11_mend_22 ?_
      refine g_iload1 26 rfl dX11_mend_25 ?_
      refine g_callVi 29 1 rfl kX11_257 (by first | rfl | exact st_o hb | exact st_1 hb | exact st_2 hb | exact st_3 hb | exact st_4 hb | exact st_5 hb | exact st_o hb2 | exact st_1 hb2 | exact st_2 hb2 | exact st_3 hb2 | exact st_4 hb2 | exact st_5 hb2) dX11_mend_26 ⟨rfl, rfl⟩ ht rfl rfl rfl ?_
      rw [canS_E h.x hc]
      refine g_ifne 35 32 rfl dX11_mend_29 (by decide) (fun h29 => ?_) (fun h29 => ?_)
      · refine g_aload0 36 rfl dX11_mend_35 ?_
        refine g_getR 39 rfl fX11_45 (by first | rfl | exact st_o hb | exact st_1 hb | exact st_2 hb | exact st_3 hb | exact st_4 hb | exact st_5 hb | exact st_o hb2 | exact st_1 hb2 | exact st_2 hb2 | exact st_3 hb2 | exact st_4 hb2 | exact st_5 hb2) rfl dX11_mend_36 ?_
        refine g_iload1 40 rfl dX11_mend_39 ?_
        refine g_iload2 41 rfl dX11_mend_40 ?_
        refine g_callVv 44 2 rfl kX11_260 (by first | rfl | exact st_o hb | exact st_1 hb | exact st_2 hb | exact st_3 hb | exact st_4 hb | exact st_5 hb | exact st_o hb2 | exact st_1 hb2 | exact st_2 hb2 | exact st_3 hb2 | exact st_4 hb2 | exact st_5 hb2) dX11_mend_41 ⟨rfl, rfl⟩ ht2 rfl rfl rfl ?_
        refine g_aload0 45 rfl dX11_mend_44 ?_
        refine g_getR 48 rfl fX11_45 (by first | rfl | exact st_o hb | exact st_1 hb | exact st_2 hb | exact st_3 hb | exact st_4 hb | exact st_5 hb | exact st_o hb2 | exact st_1 hb2 | exact st_2 hb2 | exact st_3 hb2 | exact st_4 hb2 | exact st_5 hb2) rfl dX11_mend_45 ?_
        refine g_getR 51 rfl fX11_263 (by first | rfl | exact st_o hb | exact st_1 hb | exact st_2 hb | exact st_3 hb | exact st_4 hb | exact st_5 hb | exact st_o hb2 | exact st_1 hb2 | exact st_2 hb2 | exact st_3 hb2 | exact st_4 hb2 | exact st_5 hb2) rfl dX11_mend_48 ?_
        refine g_iload1 52 rfl dX11_mend_51 ?_
        refine g_iald 53 rfl dX11_mend_52 (by first | rfl | exact st_o hb | exact st_1 hb | exact st_2 hb | exact st_3 hb | exact st_4 hb | exact st_5 hb | exact st_o hb2 | exact st_1 hb2 | exact st_2 hb2 | exact st_3 hb2 | exact st_4 hb2 | exact st_5 hb2) rfl rfl (by first | assumption | omega) ?_
        refine g_iret rfl dX11_mend_53 ?_
        rw [fMend, ifC_t hq, ifC_t hw, ce_nI (by omega), ifC_f h29]
        exact ⟨by rw [show (pC M1 15 (repS c z (vC M1 15))).1 16 = sK (repS c z (vC M1 15)) from pC_1 (b := 15), (repS_E h.x hc).K hc], h.now (repS_E h.x hc)⟩
      · refine g_bipush 34 rfl (v := (-103)) dX11_mend_32 (by decide) ?_
        refine g_iret rfl dX11_mend_34 ?_
        rw [fMend, ifC_t hq, ifC_t hw, ce_nI (by omega), ifC_t h29]
        exact ⟨rfl, h⟩
    · refine g_ifne 21 18 rfl dX11_mend_15 (by decide) (fun h => absurd rfl h) (fun _ => ?_)
      refine g_bipush 20 rfl (v := (-102)) dX11_mend_18 (by decide) ?_
      refine g_iret rfl dX11_mend_20 ?_
      rw [fMend, ifC_t hq, ifC_f hw]
      exact ⟨rfl, h⟩
  · refine g_ifne 11 8 rfl dX11_mend_5 (by decide) (fun h => absurd rfl h) (fun _ => ?_)
    refine g_bipush 10 rfl (v := (-101)) dX11_mend_8 (by decide) ?_
    refine g_iret rfl dX11_mend_10 ?_
    rw [fMend, ifC_f hq]
    exact ⟨rfl, h⟩
