/-! the class's calls: ramming, on -/
theorem fr_pC {M : Mm} {y : Sx} : ∀ q, kpC q → (pC M 21 y).1 q = M.1 q := fun q hq => pC_o (by unfold kpC at hq; omega)
theorem fr_sA {M : Mm} {h : Nat} {f : Nat → Int32} (hh : ¬ kpC h) : ∀ q, kpC q → (setA M h f).1 q = M.1 q := fun q hq => sA_n (fun e => hh (e ▸ hq))
theorem nk34 : ¬ kpC 34 := by unfold kpC; omega
theorem nk36 : ¬ kpC 36 := by unfold kpC; omega
theorem nk37 : ¬ kpC 37 := by unfold kpC; omega
theorem nk39 : ¬ kpC 39 := by unfold kpC; omega
theorem nk41 : ¬ kpC 41 := by unfold kpC; omega
theorem nk45 : ¬ kpC 45 := by unfold kpC; omega
theorem CS.tri {g : Sg} {M : Mm} {y : Sx} (h : CS g M) : CS g (pC M 21 y) := h.fr fr_pC
theorem CS.sA {g : Sg} {M : Mm} {q : Nat} {f : Nat → Int32} (h : CS g M) (hq : ¬ kpC q) : CS g (setA M q f) := h.fr (fr_sA hq)
/-- so many rounds: 1 to 40 -/
def okR (lo : Int32) (r : Int32) : Prop := lo ≤ r ∧ r ≤ 40
theorem okR_nI {lo r : Int32} (h : okR lo r) (hlo : 0 ≤ lo) : ∃ k, k < 41 ∧ r = nI k := by
  have h1 := h.1
  have h2 := h.2
  rw [Int32.le_iff_toInt_le] at h1 h2 hlo
  rw [tI0] at hlo
  have h40 : (40 : Int32).toInt = 40 := by decide
  obtain ⟨j, hj, rfl⟩ := vp_in_of (x := r) (n := 41) (vp_in_iff.mpr (by omega)) (by decide)
  exact ⟨j, hj, rfl⟩
noncomputable def rouS (g : Sg) (w r o : Int32) : Sx × Int32 := itN (rouB (gR g) (gW g) (ce o) w) (ce r) (gX g, 0)
noncomputable def fRam (g : Sg) (w r o : Int32) : Int32 × Sg := ifC (0 < gN g) (ifC (okW w ∧ okR 1 r ∧ vp_in o 4) ((rouS g w r o).2, sgX g (rouS g w r o).1) (-102, g)) (-103, g)
theorem pub_ram {l : Launch} {M : Mm} {g : Sg} {w r o : Int32} (h : CS g M) : Ok GC l mX11_ram [.ref 0, .int w, .int r, .int o] M (qP (fRam g w r o)) := by
  have hb : isSt 15 := Or.inl rfl
  refine ok_of (by decide +kernel) rfl rfl ?_
  refine g_aload0 1 rfl dX11_ram_0 ?_
  refine g_callV 4 0 rfl kX11_171 (by first | rfl | exact st_o hb | exact st_1 hb | exact st_2 hb | exact st_3 hb | exact st_4 hb | exact st_5 hb | exact st_o hb2 | exact st_1 hb2 | exact st_2 hb2 | exact st_3 hb2 | exact st_4 hb2 | exact st_5 hb2) dX11_ram_1 ⟨rfl, rfl⟩ (ok_hasStreet h.p) rfl rfl rfl (fun r M1 hq => ?_)
  obtain ⟨rfl, ⟨rfl, hq⟩ | ⟨rfl, hq⟩⟩ := hq
  try simp only [rV, Option.toList, List.cons_append, List.nil_append]
  · refine g_ifne 10 7 rfl dX11_ram_4 (by decide) (fun _ => ?_) (fun h => absurd h (by decide))
    have bad : ¬ (okW w ∧ okR 1 r ∧ vp_in o 4) → Go GC l mX11_ram 35 [.ref 0, .int w, .int r, .int o] [] M1 (qP (fRam g w r o)) := by
      intro hn
      refine g_bipush 37 rfl (v := (-102)) dX11_ram_35 (by decide) ?_
      refine g_iret rfl dX11_ram_37 ?_
      rw [fRam, ifC_t hq, ifC_f hn]
      exact ⟨rfl, h⟩
    refine g_iload1 11 rfl dX11_ram_10 ?_
    refine g_callS 14 1 rfl kX11_188 dX11_ram_11 ⟨rfl, rfl⟩ ok_isWeight rfl rfl rfl (fun r M1 hq => ?_)
    obtain ⟨rfl, ⟨rfl, hw⟩ | ⟨rfl, hw⟩⟩ := hq
    try simp only [rV, Option.toList, List.cons_append, List.nil_append]
    · refine g_ifeq 35 17 rfl dX11_ram_14 (by decide) (fun h => absurd h (by decide)) (fun _ => ?_)
      refine g_iload2 18 rfl dX11_ram_17 ?_
      refine g_iconst 19 rfl (v := 1) dX11_ram_18 (by decide) ?_
      refine g_cmplt 35 22 rfl dX11_ram_19 (by decide) (fun q => bad (fun z => absurd q (Int32.not_lt.mpr z.2.1.1))) (fun h19 => ?_)
      refine g_iload2 23 rfl dX11_ram_22 ?_
      refine g_bipush 25 rfl (v := 40) dX11_ram_23 (by decide) ?_
      refine g_cmpgt 35 28 rfl dX11_ram_25 (by decide) (fun q => bad (fun z => absurd q (Int32.not_lt.mpr z.2.1.2))) (fun h25 => ?_)
      refine g_iload3 29 rfl dX11_ram_28 ?_
      refine g_callS 32 1 rfl kX11_194 dX11_ram_29 ⟨rfl, rfl⟩ ok_isOrder rfl rfl rfl (fun r M1 hq => ?_)
      obtain ⟨rfl, ⟨rfl, ho⟩ | ⟨rfl, ho⟩⟩ := hq
      try simp only [rV, Option.toList, List.cons_append, List.nil_append]
      · refine g_ifne 38 35 rfl dX11_ram_32 (by decide) (fun _ => ?_) (fun h => absurd h (by decide))
        have hR : okR 1 r := ⟨Int32.not_lt.mp h19, Int32.not_lt.mp h25⟩
        obtain ⟨k, hk, rfl⟩ := okR_nI hR (by decide)
        obtain ⟨j, hj, rfl⟩ := vp_in_of ho (by decide)
        have ht := ok_X5_go (l := l) (x := vC M1 15) (w := w) hb h.p hj (show k < 100 by omega)
        rw [pC_vC] at ht
        refine g_aload0 39 rfl dX11_ram_38 ?_
        refine g_getR 42 rfl fX11_58 (by first | rfl | exact st_o hb | exact st_1 hb | exact st_2 hb | exact st_3 hb | exact st_4 hb | exact st_5 hb | exact st_o hb2 | exact st_1 hb2 | exact st_2 hb2 | exact st_3 hb2 | exact st_4 hb2 | exact st_5 hb2) rfl dX11_ram_39 ?_
        refine g_aload0 43 rfl dX11_ram_42 ?_
        refine g_getR 46 rfl fX11_45 (by first | rfl | exact st_o hb | exact st_1 hb | exact st_2 hb | exact st_3 hb | exact st_4 hb | exact st_5 hb | exact st_o hb2 | exact st_1 hb2 | exact st_2 hb2 | exact st_3 hb2 | exact st_4 hb2 | exact st_5 hb2) rfl dX11_ram_43 ?_
        refine g_iload1 47 rfl dX11_ram_46 ?_
        refine g_iload2 48 rfl dX11_ram_47 ?_
        refine g_iload3 49 rfl dX11_ram_48 ?_
        refine g_callV 52 4 rfl kX11_197 (by first | rfl | exact st_o hb | exact st_1 hb | exact st_2 hb | exact st_3 hb | exact st_4 hb | exact st_5 hb | exact st_o hb2 | exact st_1 hb2 | exact st_2 hb2 | exact st_3 hb2 | exact st_4 hb2 | exact st_5 hb2) dX11_ram_49 ⟨rfl, rfl⟩ ht rfl rfl rfl (fun r M1 hq => ?_)
        obtain ⟨rfl, f, rfl⟩ := hq
        try simp only [rV, Option.toList, List.cons_append, List.nil_append]
        refine g_iret rfl dX11_ram_52 ?_
        have e := rouN_E (o := j) (k := k) (w := w) (s := 0) (t := 0) h.x rfl
        rw [fRam, ifC_t hq, ifC_t ⟨hw, hR, ho⟩, rouS, ce_nI (by omega), ce_nI (by omega)]
        exact ⟨by rw [e.2], (h.sA nk34).now e.1⟩
      · refine g_ifne 38 35 rfl dX11_ram_32 (by decide) (fun h => absurd rfl h) (fun _ => ?_)
        exact bad (fun z => ho z.2.2)
    · refine g_ifeq 35 17 rfl dX11_ram_14 (by decide) (fun _ => ?_) (fun h => absurd rfl h)
      exact bad (fun z => hw z.1)
  · refine g_ifne 10 7 rfl dX11_ram_4 (by decide) (fun h => absurd rfl h) (fun _ => ?_)
    refine g_bipush 9 rfl (v := (-103)) dX11_ram_7 (by decide) ?_
    refine g_iret rfl dX11_ram_9 ?_
    rw [fRam, ifC_f hq]
    exact ⟨rfl, h⟩
theorem ap21 : apart 21 15 := by unfold apart; omega
theorem vC_pC21 {M : Mm} {y : Sx} : vC (pC M 21 y) 15 = vC M 15 := by
  unfold vC
  rw [pC_o (by omega), pC_o (by omega), pC_o (by omega), pC_o (by omega), pC_o (by omega), pC_o (by omega)]
noncomputable def fProud (g : Sg) (a w r o : Int32) : Int32 × Sg := (ifC (isSn g a) (ifC (okW w ∧ okR 0 r ∧ vp_in o 4) (sH (gX g) (ce a) - sH (rouS g w r o).1 (ce a)) (-102)) (-101), g)
theorem pub_proud {l : Launch} {M : Mm} {g : Sg} {a w r o : Int32} (h : CS g M) : Ok GC l mX11_proud [.ref 0, .int a, .int w, .int r, .int o] M (qP (fProud g a w r o)) := by
  have hb : isSt 15 := Or.inl rfl
  have hb2 : isSt 21 := Or.inr (Or.inl rfl)
  have h30 := h.p.1.le
  refine ok_of (by decide +kernel) rfl rfl ?_
  refine g_aload0 1 rfl dX11_proud_0 ?_
  refine g_iload1 2 rfl dX11_proud_1 ?_
  refine g_callV 5 1 rfl kX11_185 (by first | rfl | exact st_o hb | exact st_1 hb | exact st_2 hb | exact st_3 hb | exact st_4 hb | exact st_5 hb | exact st_o hb2 | exact st_1 hb2 | exact st_2 hb2 | exact st_3 hb2 | exact st_4 hb2 | exact st_5 hb2) dX11_proud_2 ⟨rfl, rfl⟩ (ok_isStn h) rfl rfl rfl (fun r M1 hq => ?_)
  obtain ⟨rfl, ⟨rfl, hq⟩ | ⟨rfl, hq⟩⟩ := hq
  try simp only [rV, Option.toList, List.cons_append, List.nil_append]
  · obtain ⟨c, hc, rfl⟩ := vp_in_of hq.1 (Nat.lt_of_le_of_lt h30 (by decide))
    have hc : c < gR g * gW g := hc
    refine g_ifne 11 8 rfl dX11_proud_5 (by decide) (fun _ => ?_) (fun h => absurd h (by decide))
    have bad : ¬ (okW w ∧ okR 0 r ∧ vp_in o 4) → Go GC l mX11_proud 36 [.ref 0, .int (nI c), .int w, .int r, .int o] [] M1 (qP (fProud g (nI c) w r o)) := by
      intro hn
      refine g_bipush 38 rfl (v := (-102)) dX11_proud_36 (by decide) ?_
      refine g_iret rfl dX11_proud_38 ?_
      rw [fProud, ifC_t hq, ifC_f hn]
      exact ⟨rfl, h⟩
    refine g_iload2 12 rfl dX11_proud_11 ?_
    refine g_callS 15 1 rfl kX11_188 dX11_proud_12 ⟨rfl, rfl⟩ ok_isWeight rfl rfl rfl (fun r M1 hq => ?_)
    obtain ⟨rfl, ⟨rfl, hw⟩ | ⟨rfl, hw⟩⟩ := hq
    try simp only [rV, Option.toList, List.cons_append, List.nil_append]
    · refine g_ifeq 36 18 rfl dX11_proud_15 (by decide) (fun h => absurd h (by decide)) (fun _ => ?_)
      refine g_iload3 19 rfl dX11_proud_18 ?_
      refine g_iflt 36 22 rfl dX11_proud_19 (by decide) (fun q => bad (fun z => absurd q (Int32.not_lt.mpr z.2.1.1))) (fun h19 => ?_)
      refine g_iload3 23 rfl dX11_proud_22 ?_
      refine g_bipush 25 rfl (v := 40) dX11_proud_23 (by decide) ?_
      refine g_cmpgt 36 28 rfl dX11_proud_25 (by decide) (fun q => bad (fun z => absurd q (Int32.not_lt.mpr z.2.1.2))) (fun h25 => ?_)
      refine g_iload4 30 rfl dX11_proud_28 ?_
      refine g_callS 33 1 rfl kX11_194 dX11_proud_30 ⟨rfl, rfl⟩ ok_isOrder rfl rfl rfl (fun r M1 hq => ?_)
      obtain ⟨rfl, ⟨rfl, ho⟩ | ⟨rfl, ho⟩⟩ := hq
      try simp only [rV, Option.toList, List.cons_append, List.nil_append]
      · refine g_ifne 39 36 rfl dX11_proud_33 (by decide) (fun _ => ?_) (fun h => absurd h (by decide))
        have hR : okR 0 r := ⟨Int32.not_lt.mp h19, Int32.not_lt.mp h25⟩
        obtain ⟨k, hk, rfl⟩ := okR_nI hR (by decide)
        obtain ⟨j, hj, rfl⟩ := vp_in_of ho (by decide)
        have ht := ok_X7_copyFrom (l := l) (x := vC M1 21) hb2 hb ap21 h.p
        rw [pC_vC] at ht
        refine g_aload0 40 rfl dX11_proud_39 ?_
        refine g_getR 43 rfl fX11_49 (by first | rfl | exact st_o hb | exact st_1 hb | exact st_2 hb | exact st_3 hb | exact st_4 hb | exact st_5 hb | exact st_o hb2 | exact st_1 hb2 | exact st_2 hb2 | exact st_3 hb2 | exact st_4 hb2 | exact st_5 hb2) rfl dX11_proud_40 ?_
        refine g_aload0 44 rfl dX11_proud_43 ?_
        refine g_getR 47 rfl fX11_45 (by first | rfl | exact st_o hb | exact st_1 hb | exact st_2 hb | exact st_3 hb | exact st_4 hb | exact st_5 hb | exact st_o hb2 | exact st_1 hb2 | exact st_2 hb2 | exact st_3 hb2 | exact st_4 hb2 | exact st_5 hb2) rfl dX11_proud_44 ?_
        refine g_callV 50 1 rfl kX11_205 (by first | rfl | exact st_o hb | exact st_1 hb | exact st_2 hb | exact st_3 hb | exact st_4 hb | exact st_5 hb | exact st_o hb2 | exact st_1 hb2 | exact st_2 hb2 | exact st_3 hb2 | exact st_4 hb2 | exact st_5 hb2) dX11_proud_47 ⟨rfl, rfl⟩ ht rfl rfl rfl (fun r M1 hq => ?_)
        obtain ⟨rfl, y, rfl, hy⟩ := hq
        try simp only [rV, Option.toList, List.cons_append, List.nil_append]
        refine g_aload0 51 rfl dX11_proud_50 ?_
        refine g_getR 54 rfl fX11_58 (by first | rfl | exact st_o hb | exact st_1 hb | exact st_2 hb | exact st_3 hb | exact st_4 hb | exact st_5 hb | exact st_o hb2 | exact st_1 hb2 | exact st_2 hb2 | exact st_3 hb2 | exact st_4 hb2 | exact st_5 hb2) rfl dX11_proud_51 ?_
        refine g_aload0 55 rfl dX11_proud_54 ?_
        refine g_getR 58 rfl fX11_49 (by first | rfl | exact st_o hb | exact st_1 hb | exact st_2 hb | exact st_3 hb | exact st_4 hb | exact st_5 hb | exact st_o hb2 | exact st_1 hb2 | exact st_2 hb2 | exact st_3 hb2 | exact st_4 hb2 | exact st_5 hb2) rfl dX11_proud_55 ?_
        refine g_iload2 59 rfl dX11_proud_58 ?_
        refine g_iload3 60 rfl dX11_proud_59 ?_
        refine g_iload4 62 rfl dX11_proud_60 ?_
        refine g_callV 65 4 rfl kX11_197 (by first | rfl | exact st_o hb | exact st_1 hb | exact st_2 hb | exact st_3 hb | exact st_4 hb | exact st_5 hb | exact st_o hb2 | exact st_1 hb2 | exact st_2 hb2 | exact st_3 hb2 | exact st_4 hb2 | exact st_5 hb2) dX11_proud_62 ⟨rfl, rfl⟩ (ok_X5_go hb2 h.p hj (show k < 100 by omega)) rfl rfl rfl (fun r M1 hq => ?_)
        obtain ⟨rfl, f, rfl⟩ := hq
        try simp only [rV, Option.toList, List.cons_append, List.nil_append]
        rename_i M1 _ _
        have e18 : ∀ N : Mm, ∀ u, (pC (setA N 34 f) 21 u).1 18 = N.1 18 := fun N u => by rw [pC_o (by decide), sA_n (by decide)]
        have e24 : ∀ N : Mm, ∀ u, (pC (setA N 34 f) 21 u).1 24 = sH u := fun N u => pC_3 (b := 21)
        refine g_pop 66 rfl dX11_proud_65 rfl ?_
        refine g_aload0 67 rfl dX11_proud_66 ?_
        refine g_getR 70 rfl fX11_45 (by first | rfl | exact st_o hb | exact st_1 hb | exact st_2 hb | exact st_3 hb | exact st_4 hb | exact st_5 hb | exact st_o hb2 | exact st_1 hb2 | exact st_2 hb2 | exact st_3 hb2 | exact st_4 hb2 | exact st_5 hb2) rfl dX11_proud_67 ?_
        refine g_getR 73 rfl fX11_208 (by first | rfl | exact st_o hb | exact st_1 hb | exact st_2 hb | exact st_3 hb | exact st_4 hb | exact st_5 hb | exact st_o hb2 | exact st_1 hb2 | exact st_2 hb2 | exact st_3 hb2 | exact st_4 hb2 | exact st_5 hb2) rfl dX11_proud_70 ?_
        refine g_iload1 74 rfl dX11_proud_73 ?_
        refine g_iald 75 rfl dX11_proud_74 (by first | rfl | exact st_o hb | exact st_1 hb | exact st_2 hb | exact st_3 hb | exact st_4 hb | exact st_5 hb | exact st_o hb2 | exact st_1 hb2 | exact st_2 hb2 | exact st_3 hb2 | exact st_4 hb2 | exact st_5 hb2) rfl rfl (by first | assumption | omega) ?_
        refine g_aload0 76 rfl dX11_proud_75 ?_
        refine g_getR 79 rfl fX11_49 (by first | rfl | exact st_o hb | exact st_1 hb | exact st_2 hb | exact st_3 hb | exact st_4 hb | exact st_5 hb | exact st_o hb2 | exact st_1 hb2 | exact st_2 hb2 | exact st_3 hb2 | exact st_4 hb2 | exact st_5 hb2) rfl dX11_proud_76 ?_
        refine g_getR 82 rfl fX11_208 (by first | rfl | exact st_o hb | exact st_1 hb | exact st_2 hb | exact st_3 hb | exact st_4 hb | exact st_5 hb | exact st_o hb2 | exact st_1 hb2 | exact st_2 hb2 | exact st_3 hb2 | exact st_4 hb2 | exact st_5 hb2) rfl dX11_proud_79 ?_
        refine g_iload1 83 rfl dX11_proud_82 ?_
        refine g_iald 84 rfl dX11_proud_83 (by first | rfl | exact st_o hb | exact st_1 hb | exact st_2 hb | exact st_3 hb | exact st_4 hb | exact st_5 hb | exact st_o hb2 | exact st_1 hb2 | exact st_2 hb2 | exact st_3 hb2 | exact st_4 hb2 | exact st_5 hb2) rfl rfl (by first | assumption | omega) ?_
        refine g_isub 85 rfl dX11_proud_84 ?_
        refine g_iret rfl dX11_proud_85 ?_
        have e := rouN_E (o := j) (k := k) (w := w) (s := 0) (t := 0) (hy.tr h.x) rfl
        rw [fProud, ifC_t hq, ifC_t ⟨hw, hR, ho⟩, rouS, ce_nI (by omega), ce_nI (by omega), ce_nI (by omega)]
        refine ⟨?_, (h.sA nk34).tri⟩
        rw [e18, e24, e.1.H hc, ← h.x.H hc]
        rfl
      · refine g_ifne 39 36 rfl dX11_proud_33 (by decide) (fun h => absurd rfl h) (fun _ => ?_)
        exact bad (fun z => ho z.2.2)
    · refine g_ifeq 36 18 rfl dX11_proud_15 (by decide) (fun _ => ?_) (fun h => absurd rfl h)
      exact bad (fun z => hw z.1)
  · refine g_ifne 11 8 rfl dX11_proud_5 (by decide) (fun h => absurd rfl h) (fun _ => ?_)
    refine g_bipush 10 rfl (v := (-101)) dX11_proud_8 (by decide) ?_
    refine g_iret rfl dX11_proud_10 ?_
    rw [fProud, ifC_f hq]
    exact ⟨rfl, h⟩
noncomputable def fUntil (g : Sg) (w o : Int32) : Int32 × Sg := (ifC (0 < gN g) (ifC (okW w ∧ vp_in o 4) (untF (gR g) (gW g) (ce o) w (stoN (gX g) (gN g)) 100 (gX g) 0) (-102)) (-103), g)
theorem pub_until {l : Launch} {M : Mm} {g : Sg} {w o : Int32} (h : CS g M) : Ok GC l mX11_until [.ref 0, .int w, .int o] M (qP (fUntil g w o)) := by
  have hb : isSt 15 := Or.inl rfl
  have hb2 : isSt 21 := Or.inr (Or.inl rfl)
  refine ok_of (by decide +kernel) rfl rfl ?_
  refine g_aload0 1 rfl dX11_until_0 ?_
  refine g_callV 4 0 rfl kX11_171 (by first | rfl | exact st_o hb | exact st_1 hb | exact st_2 hb | exact st_3 hb | exact st_4 hb | exact st_5 hb | exact st_o hb2 | exact st_1 hb2 | exact st_2 hb2 | exact st_3 hb2 | exact st_4 hb2 | exact st_5 hb2) dX11_until_1 ⟨rfl, rfl⟩ (ok_hasStreet h.p) rfl rfl rfl (fun r M1 hq => ?_)
  obtain ⟨rfl, ⟨rfl, hq⟩ | ⟨rfl, hq⟩⟩ := hq
  try simp only [rV, Option.toList, List.cons_append, List.nil_append]
  · refine g_ifne 10 7 rfl dX11_until_4 (by decide) (fun _ => ?_) (fun h => absurd h (by decide))
    have bad : ¬ (okW w ∧ vp_in o 4) → Go GC l mX11_until 24 [.ref 0, .int w, .int o] [] M1 (qP (fUntil g w o)) := by
      intro hn
      refine g_bipush 26 rfl (v := (-102)) dX11_until_24 (by decide) ?_
      refine g_iret rfl dX11_until_26 ?_
      rw [fUntil, ifC_t hq, ifC_f hn]
      exact ⟨rfl, h⟩
    refine g_iload1 11 rfl dX11_until_10 ?_
    refine g_callS 14 1 rfl kX11_188 dX11_until_11 ⟨rfl, rfl⟩ ok_isWeight rfl rfl rfl (fun r M1 hq => ?_)
    obtain ⟨rfl, ⟨rfl, hw⟩ | ⟨rfl, hw⟩⟩ := hq
    try simp only [rV, Option.toList, List.cons_append, List.nil_append]
    · refine g_ifeq 24 17 rfl dX11_until_14 (by decide) (fun h => absurd h (by decide)) (fun _ => ?_)
      refine g_iload2 18 rfl dX11_until_17 ?_
      refine g_callS 21 1 rfl kX11_194 dX11_until_18 ⟨rfl, rfl⟩ ok_isOrder rfl rfl rfl (fun r M1 hq => ?_)
      obtain ⟨rfl, ⟨rfl, ho⟩ | ⟨rfl, ho⟩⟩ := hq
      try simp only [rV, Option.toList, List.cons_append, List.nil_append]
      · refine g_ifne 27 24 rfl dX11_until_21 (by decide) (fun _ => ?_) (fun h => absurd h (by decide))
        obtain ⟨j, hj, rfl⟩ := vp_in_of ho (by decide)
        have ht := ok_X7_copyFrom (l := l) (x := vC M1 21) hb2 hb ap21 h.p
        rw [pC_vC] at ht
        refine g_aload0 28 rfl dX11_until_27 ?_
        refine g_getR 31 rfl fX11_49 (by first | rfl | exact st_o hb | exact st_1 hb | exact st_2 hb | exact st_3 hb | exact st_4 hb | exact st_5 hb | exact st_o hb2 | exact st_1 hb2 | exact st_2 hb2 | exact st_3 hb2 | exact st_4 hb2 | exact st_5 hb2) rfl dX11_until_28 ?_
        refine g_aload0 32 rfl dX11_until_31 ?_
        refine g_getR 35 rfl fX11_45 (by first | rfl | exact st_o hb | exact st_1 hb | exact st_2 hb | exact st_3 hb | exact st_4 hb | exact st_5 hb | exact st_o hb2 | exact st_1 hb2 | exact st_2 hb2 | exact st_3 hb2 | exact st_4 hb2 | exact st_5 hb2) rfl dX11_until_32 ?_
        refine g_callV 38 1 rfl kX11_205 (by first | rfl | exact st_o hb | exact st_1 hb | exact st_2 hb | exact st_3 hb | exact st_4 hb | exact st_5 hb | exact st_o hb2 | exact st_1 hb2 | exact st_2 hb2 | exact st_3 hb2 | exact st_4 hb2 | exact st_5 hb2) dX11_until_35 ⟨rfl, rfl⟩ ht rfl rfl rfl (fun r M1 hq => ?_)
        obtain ⟨rfl, y, rfl, hy⟩ := hq
        try simp only [rV, Option.toList, List.cons_append, List.nil_append]
        refine g_aload0 39 rfl dX11_until_38 ?_
        refine g_getR 42 rfl fX11_58 (by first | rfl | exact st_o hb | exact st_1 hb | exact st_2 hb | exact st_3 hb | exact st_4 hb | exact st_5 hb | exact st_o hb2 | exact st_1 hb2 | exact st_2 hb2 | exact st_3 hb2 | exact st_4 hb2 | exact st_5 hb2) rfl dX11_until_39 ?_
        refine g_aload0 43 rfl dX11_until_42 ?_
        refine g_getR 46 rfl fX11_49 (by first | rfl | exact st_o hb | exact st_1 hb | exact st_2 hb | exact st_3 hb | exact st_4 hb | exact st_5 hb | exact st_o hb2 | exact st_1 hb2 | exact st_2 hb2 | exact st_3 hb2 | exact st_4 hb2 | exact st_5 hb2) rfl dX11_until_43 ?_
        refine g_iload1 47 rfl dX11_until_46 ?_
        refine g_iload2 48 rfl dX11_until_47 ?_
        refine g_callV 51 3 rfl kX11_211 (by first | rfl | exact st_o hb | exact st_1 hb | exact st_2 hb | exact st_3 hb | exact st_4 hb | exact st_5 hb | exact st_o hb2 | exact st_1 hb2 | exact st_2 hb2 | exact st_3 hb2 | exact st_4 hb2 | exact st_5 hb2) dX11_until_48 ⟨rfl, rfl⟩ (ok_X5_until hb2 h.p hj) rfl rfl rfl (fun r M1 hq => ?_)
        obtain ⟨rfl, f, u, rfl⟩ := hq
        try simp only [rV, Option.toList, List.cons_append, List.nil_append]
        refine g_iret rfl dX11_until_51 ?_
        have e := hy.tr h.x
        rw [fUntil, ifC_t hq, ifC_t ⟨hw, ho⟩, ce_nI (by omega)]
        exact ⟨by rw [stoN_E e _ (Nat.le_refl _), untF_E 100 0 e], (h.sA nk34).tri⟩
      · refine g_ifne 27 24 rfl dX11_until_21 (by decide) (fun h => absurd rfl h) (fun _ => ?_)
        exact bad (fun z => ho z.2)
    · refine g_ifeq 24 17 rfl dX11_until_14 (by decide) (fun _ => ?_) (fun h => absurd rfl h)
      exact bad (fun z => hw z.1)
  · refine g_ifne 10 7 rfl dX11_until_4 (by decide) (fun h => absurd rfl h) (fun _ => ?_)
    refine g_bipush 9 rfl (v := (-103)) dX11_until_7 (by decide) ?_
    refine g_iret rfl dX11_until_9 ?_
    rw [fUntil, ifC_f hq]
    exact ⟨rfl, h⟩
