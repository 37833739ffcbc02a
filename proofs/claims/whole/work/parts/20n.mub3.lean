/-! the reference's calls: loads, water, years, mending, trenches, the heap -/
theorem beS_E {g : Sg} {x : Sx} {c : Nat} {ld : Int32} (hx : sxE (gN g) x (gX g)) (hc : c < gR g * gW g) (h30 : gR g * gW g ≤ 30) : eqN (gR g * gW g) (layS (gx x) (gR g) (gW g) c ld (fun _ => 0)) (beS g (nI c) ld) := by
  unfold beS
  rw [ce_nI (by omega)]
  exact layS_E (fun d hd => by show gpI (sK x d) = gpI (sK (gX g) d); rw [hx.K hd]) eqN.rf hc
theorem mub_borne {l : Launch} {M : Mm} {g : Sg} {a ld b : Int32} (h : MS g M) : Ok GM l mX12_borne [.ref 0, .int a, .int ld, .int b] M (qM (fBorne g a ld b)) := by
  obtain ⟨N, x, rfl, hx, hr⟩ := h
  have h30 := hr.m.le
  refine ok_of (by decide +kernel) rfl rfl ?_
  have bad : ¬ (vp_in a (gN g) ∧ vp_in b (gN g)) → Go GM l mX12_borne 16 [.ref 0, .int a, .int ld, .int b] [] (pM N x) (qM (fBorne g a ld b)) := by
    intro hn
    refine g_bipush 18 rfl (v := (-101)) dX12_borne_16 (by decide) ?_
    refine g_iret rfl dX12_borne_18 ?_
    exact ⟨by rw [fBorne, ifC_f hn], N, x, rfl, hx, hr⟩
  refine g_aload0 1 rfl dX12_borne_0 ?_
  refine g_iload1 2 rfl dX12_borne_1 ?_
  refine g_callV 5 1 rfl kX12_144 (by first | rfl | exact st_o hb | exact st_1 hb | exact st_2 hb | exact st_3 hb | exact st_4 hb | exact st_5 hb | exact st_o hb2 | exact st_1 hb2 | exact st_2 hb2 | exact st_3 hb2 | exact st_4 hb2 | exact st_5 hb2) dX12_borne_2 ⟨rfl, rfl⟩ (om_isCell (pM_mod hr.m)) rfl rfl rfl (fun r M1 hq => ?_)
  obtain ⟨rfl, ⟨rfl, hq⟩ | ⟨rfl, hq⟩⟩ := hq
  try simp only [rV, Option.toList, List.cons_append, List.nil_append]
  · refine g_ifeq 16 8 rfl dX12_borne_5 (by decide) (fun h => absurd h (by decide)) (fun _ => ?_)
    refine g_aload0 9 rfl dX12_borne_8 ?_
    refine g_iload3 10 rfl dX12_borne_9 ?_
    refine g_callV 13 1 rfl kX12_144 (by first | rfl | exact st_o hb | exact st_1 hb | exact st_2 hb | exact st_3 hb | exact st_4 hb | exact st_5 hb | exact st_o hb2 | exact st_1 hb2 | exact st_2 hb2 | exact st_3 hb2 | exact st_4 hb2 | exact st_5 hb2) dX12_borne_10 ⟨rfl, rfl⟩ (om_isCell (pM_mod hr.m)) rfl rfl rfl (fun r M1 hq => ?_)
    obtain ⟨rfl, ⟨rfl, hq2⟩ | ⟨rfl, hq2⟩⟩ := hq
    try simp only [rV, Option.toList, List.cons_append, List.nil_append]
    · obtain ⟨c, hc, rfl⟩ := vp_in_of hq (by omega)
      obtain ⟨d, hd, rfl⟩ := vp_in_of hq2 (by omega)
      refine g_ifne 19 16 rfl dX12_borne_13 (by decide) (fun _ => ?_) (fun h => absurd h (by decide))
      refine g_iload2 20 rfl dX12_borne_19 ?_
      refine g_callS 23 1 rfl kX12_212 dX12_borne_20 ⟨rfl, rfl⟩ om_isLoad rfl rfl rfl (fun r M1 hq => ?_)
      obtain ⟨rfl, ⟨rfl, hw⟩ | ⟨rfl, hw⟩⟩ := hq
      try simp only [rV, Option.toList, List.cons_append, List.nil_append]
      · refine g_ifne 29 26 rfl dX12_borne_23 (by decide) (fun _ => ?_) (fun h => absurd h (by decide))
        refine g_aload0 30 rfl dX12_borne_29 ?_
        refine g_iload1 31 rfl dX12_borne_30 ?_
        refine g_iload2 32 rfl dX12_borne_31 ?_
        refine g_callV 35 2 rfl kX12_215 (by first | rfl | exact st_o hb | exact st_1 hb | exact st_2 hb | exact st_3 hb | exact st_4 hb | exact st_5 hb | exact st_o hb2 | exact st_1 hb2 | exact st_2 hb2 | exact st_3 hb2 | exact st_4 hb2 | exact st_5 hb2) dX12_borne_32 ⟨rfl, rfl⟩ (om_layLoad hr.m hc) rfl rfl rfl (fun r M1 hq => ?_)
        obtain ⟨rfl, B, rfl, hB⟩ := hq
        try simp only [rV, Option.toList, List.cons_append, List.nil_append]
        refine g_aload0 36 rfl dX12_borne_35 ?_
        refine g_getR 39 rfl fX12_60 (by first | rfl | exact st_o hb | exact st_1 hb | exact st_2 hb | exact st_3 hb | exact st_4 hb | exact st_5 hb | exact st_o hb2 | exact st_1 hb2 | exact st_2 hb2 | exact st_3 hb2 | exact st_4 hb2 | exact st_5 hb2) rfl dX12_borne_36 ?_
        refine g_iload3 40 rfl dX12_borne_39 ?_
        refine g_iald 41 rfl dX12_borne_40 (by first | rfl | exact st_o hb | exact st_1 hb | exact st_2 hb | exact st_3 hb | exact st_4 hb | exact st_5 hb | exact st_o hb2 | exact st_1 hb2 | exact st_2 hb2 | exact st_3 hb2 | exact st_4 hb2 | exact st_5 hb2) rfl rfl (by first | assumption | omega) ?_
        try simp only [pM_h16, sA_s]
        refine g_iret rfl dX12_borne_41 ?_
        exact ⟨by rw [fBorne, ifC_t ⟨hq, hq2⟩, ifC_t hw, ce_nI (show d < 2 ^ 31 by omega), hB d hd, beS_E hx hc h30 d hd], _, x, rfl, hx, hr.fr (kpM.rf.sA (by decide))⟩
      · refine g_ifne 29 26 rfl dX12_borne_23 (by decide) (fun h => absurd rfl h) (fun _ => ?_)
        refine g_bipush 28 rfl (v := (-102)) dX12_borne_26 (by decide) ?_
        refine g_iret rfl dX12_borne_28 ?_
        exact ⟨by rw [fBorne, ifC_t ⟨hq, hq2⟩, ifC_f hw], N, x, rfl, hx, hr⟩
    · refine g_ifne 19 16 rfl dX12_borne_13 (by decide) (fun h => absurd rfl h) (fun _ => ?_)
      exact bad (fun z => hq2 z.2)
  · refine g_ifeq 16 8 rfl dX12_borne_5 (by decide) (fun _ => ?_) (fun h => absurd rfl h)
    exact bad (fun z => hq z.1)
theorem grt_i {B : Nat → Int32} : ∀ i, grtN B i = (-1, 0) ∨ ∃ j, j < i ∧ grtN B i = (nI j, B j) ∧ 0 < B j
  | 0 => Or.inl rfl
  | i + 1 => by
    rw [grtN]
    rcases grt_i (B := B) i with e | ⟨j, hj, e, h0⟩
    · rw [e]
      by_cases h : B i ≤ 0
      · rw [if_pos h]; exact Or.inl rfl
      · rw [if_neg h]; exact Or.inr ⟨i, by omega, rfl, Int32.not_le.mp h⟩
    · rw [e]
      by_cases h : B i ≤ B j
      · rw [if_pos h]; exact Or.inr ⟨j, by omega, rfl, h0⟩
      · rw [if_neg h]
        have h := Int32.not_le.mp h
        refine Or.inr ⟨i, by omega, rfl, ?_⟩
        rw [Int32.lt_iff_toInt_lt] at h h0 ⊢
        omega
theorem mub_bearer {l : Launch} {M : Mm} {g : Sg} {a ld : Int32} (h : MS g M) : Ok GM l mX12_bearer [.ref 0, .int a, .int ld] M (qM (fBearer g a ld)) := by
  obtain ⟨N, x, rfl, hx, hr⟩ := h
  have h30 := hr.m.le
  refine ok_of (by decide +kernel) rfl rfl ?_
  refine g_aload0 1 rfl dX12_bearer_0 ?_
  refine g_iload1 2 rfl dX12_bearer_1 ?_
  refine g_callV 5 1 rfl kX12_144 (by first | rfl | exact st_o hb | exact st_1 hb | exact st_2 hb | exact st_3 hb | exact st_4 hb | exact st_5 hb | exact st_o hb2 | exact st_1 hb2 | exact st_2 hb2 | exact st_3 hb2 | exact st_4 hb2 | exact st_5 hb2) dX12_bearer_2 ⟨rfl, rfl⟩ (om_isCell (pM_mod hr.m)) rfl rfl rfl (fun r M1 hq => ?_)
  obtain ⟨rfl, ⟨rfl, hq⟩ | ⟨rfl, hq⟩⟩ := hq
  try simp only [rV, Option.toList, List.cons_append, List.nil_append]
  · obtain ⟨c, hc, rfl⟩ := vp_in_of hq (by omega)
    refine g_ifne 11 8 rfl dX12_bearer_5 (by decide) (fun _ => ?_) (fun h => absurd h (by decide))
    refine g_iload2 12 rfl dX12_bearer_11 ?_
    refine g_callS 15 1 rfl kX12_212 dX12_bearer_12 ⟨rfl, rfl⟩ om_isLoad rfl rfl rfl (fun r M1 hq => ?_)
    obtain ⟨rfl, ⟨rfl, hw⟩ | ⟨rfl, hw⟩⟩ := hq
    try simp only [rV, Option.toList, List.cons_append, List.nil_append]
    · refine g_ifne 21 18 rfl dX12_bearer_15 (by decide) (fun _ => ?_) (fun h => absurd h (by decide))
      refine g_aload0 22 rfl dX12_bearer_21 ?_
      refine g_iload1 23 rfl dX12_bearer_22 ?_
      refine g_iload2 24 rfl dX12_bearer_23 ?_
      refine g_callV 27 2 rfl kX12_215 (by first | rfl | exact st_o hb | exact st_1 hb | exact st_2 hb | exact st_3 hb | exact st_4 hb | exact st_5 hb | exact st_o hb2 | exact st_1 hb2 | exact st_2 hb2 | exact st_3 hb2 | exact st_4 hb2 | exact st_5 hb2) dX12_bearer_24 ⟨rfl, rfl⟩ (om_layLoad hr.m hc) rfl rfl rfl (fun r M1 hq => ?_)
      obtain ⟨rfl, B, rfl, hB⟩ := hq
      try simp only [rV, Option.toList, List.cons_append, List.nil_append]
      have hz : sK x c = -1 → ∀ d, d < gR g * gW g → B d = 0 := by
        intro hk d hd
        rw [hB d hd, layS, if_pos (show gpI (sK x c) = -1 by rw [gpI, if_pos hk])]
      have hB2 : eqN (gR g * gW g) B (beS g (nI c) ld) := hB.tr (beS_E hx hc h30)
      have hrB : MR g (setA N 16 B) := hr.fr (kpM.rf.sA (by decide))
      have hm2 : Mod (pM (setA N 16 B) x) (gR g) (gW g) := pM_mod hrB.m
      refine g_iconst 28 rfl (v := (-1)) dX12_bearer_27 (by decide) ?_
      refine g_istore3 29 rfl dX12_bearer_28 rfl rfl ?_
      refine g_iconst 30 rfl (v := 0) dX12_bearer_29 (by decide) ?_
      refine g_istore4 32 rfl dX12_bearer_30 rfl rfl ?_
      refine loop_up (P := fun i => Go GM l mX12_bearer 32 [.ref 0, .int (nI c), .int ld, .int (grtN B i).1, .int (nI i)] [] (pM (setA N 16 B) x) (qM (fBearer g (nI c) ld))) (gR g * gW g) ?_ ?_ 0 (by omega)
      · refine g_iload4 34 rfl dX12_bearer_32 ?_
        refine g_aload0 35 rfl dX12_bearer_34 ?_
        refine g_callVi 38 0 rfl kX12_140 (by first | rfl | exact st_o hb | exact st_1 hb | exact st_2 hb | exact st_3 hb | exact st_4 hb | exact st_5 hb | exact st_o hb2 | exact st_1 hb2 | exact st_2 hb2 | exact st_3 hb2 | exact st_4 hb2 | exact st_5 hb2) dX12_bearer_35 ⟨rfl, rfl⟩ (om_cells hm2) rfl rfl rfl ?_
        refine g_cmpge 95 41 rfl dX12_bearer_38 (by decide) (fun _ => ?_) (fun h => absurd (Int32.le_refl _) h)
        refine g_iload3 96 rfl dX12_bearer_95 ?_
        refine g_iret rfl dX12_bearer_96 ?_
        exact ⟨by rw [fBearer, ifC_t hq, ifC_t hw, grtN_E hB2 _ (Nat.le_refl _)], _, x, rfl, hx, hrB⟩
      · intro i hi ih
        rw [grtN] at ih
        refine g_iload4 34 rfl dX12_bearer_32 ?_
        refine g_aload0 35 rfl dX12_bearer_34 ?_
        refine g_callVi 38 0 rfl kX12_140 (by first | rfl | exact st_o hb | exact st_1 hb | exact st_2 hb | exact st_3 hb | exact st_4 hb | exact st_5 hb | exact st_o hb2 | exact st_1 hb2 | exact st_2 hb2 | exact st_3 hb2 | exact st_4 hb2 | exact st_5 hb2) dX12_bearer_35 ⟨rfl, rfl⟩ (om_cells hm2) rfl rfl rfl ?_
        refine g_cmpge 95 41 rfl dX12_bearer_38 (by decide) (fun h => absurd h (nI_ge hi (by omega))) (fun _ => ?_)
        have keep : B i ≤ (grtN B i).2 → Go GM l mX12_bearer 87 [.ref 0, .int (nI c), .int ld, .int (grtN B i).1, .int (nI i)] [] (pM (setA N 16 B) x) (qM (fBearer g (nI c) ld)) := by
          intro hk
          rw [if_pos hk] at ih
          refine g_iload3 88 rfl dX12_bearer_87 ?_
          refine g_istore3 89 rfl dX12_bearer_88 rfl rfl ?_
          refine g_iinc4 92 rfl dX12_bearer_89 rfl rfl _ (by first | exact iinc1 _ | exact iincx _ | rfl) ?_
          refine g_goto 32 dX12_bearer_92 (by decide) ?_
          exact ih
        have take : ¬ B i ≤ (grtN B i).2 → Go GM l mX12_bearer 82 [.ref 0, .int (nI c), .int ld, .int (grtN B i).1, .int (nI i)] [] (pM (setA N 16 B) x) (qM (fBearer g (nI c) ld)) := by
          intro hk
          rw [if_neg hk] at ih
          refine g_iload4 84 rfl dX12_bearer_82 ?_
          refine g_goto 88 dX12_bearer_84 (by decide) ?_
          refine g_istore3 89 rfl dX12_bearer_88 rfl rfl ?_
          refine g_iinc4 92 rfl dX12_bearer_89 rfl rfl _ (by first | exact iinc1 _ | exact iincx _ | rfl) ?_
          refine g_goto 32 dX12_bearer_92 (by decide) ?_
          exact ih
        have h2 : 0 ≤ (grtN B i).2 := by
          rcases grt_i (B := B) i with e | ⟨j, _, e, h0⟩
          · rw [e]; decide
          · rw [e]; exact Int32.le_of_lt h0
        refine g_aload0 42 rfl dX12_bearer_41 ?_
        refine g_getR 45 rfl fX12_7 (by first | rfl | exact st_o hb | exact st_1 hb | exact st_2 hb | exact st_3 hb | exact st_4 hb | exact st_5 hb | exact st_o hb2 | exact st_1 hb2 | exact st_2 hb2 | exact st_3 hb2 | exact st_4 hb2 | exact st_5 hb2) rfl dX12_bearer_42 ?_
        refine g_iload1 46 rfl dX12_bearer_45 ?_
        refine g_iald 47 rfl dX12_bearer_46 (by first | rfl | exact st_o hb | exact st_1 hb | exact st_2 hb | exact st_3 hb | exact st_4 hb | exact st_5 hb | exact st_o hb2 | exact st_1 hb2 | exact st_2 hb2 | exact st_3 hb2 | exact st_4 hb2 | exact st_5 hb2) rfl rfl (by first | assumption | omega) ?_
        try simp only [pM_1, pM_h16, sA_s]
        refine g_iconst 48 rfl (v := (-1)) dX12_bearer_47 (by decide) ?_
        refine g_cmpeq 87 51 rfl dX12_bearer_48 (by decide) (fun h48 => keep (by rw [hz h48 i hi]; exact h2)) (fun h48 => ?_)
        refine g_aload0 52 rfl dX12_bearer_51 ?_
        refine g_getR 55 rfl fX12_60 (by first | rfl | exact st_o hb | exact st_1 hb | exact st_2 hb | exact st_3 hb | exact st_4 hb | exact st_5 hb | exact st_o hb2 | exact st_1 hb2 | exact st_2 hb2 | exact st_3 hb2 | exact st_4 hb2 | exact st_5 hb2) rfl dX12_bearer_52 ?_
        refine g_iload4 57 rfl dX12_bearer_55 ?_
        refine g_iald 58 rfl dX12_bearer_57 (by first | rfl | exact st_o hb | exact st_1 hb | exact st_2 hb | exact st_3 hb | exact st_4 hb | exact st_5 hb | exact st_o hb2 | exact st_1 hb2 | exact st_2 hb2 | exact st_3 hb2 | exact st_4 hb2 | exact st_5 hb2) rfl rfl (by first | assumption | omega) ?_
        try simp only [pM_1, pM_h16, sA_s]
        refine g_ifle 87 61 rfl dX12_bearer_58 (by decide) (fun h58 => keep (Int32.le_trans h58 h2)) (fun h58 => ?_)
        rcases grt_i (B := B) i with e | ⟨j, hj, e, h0⟩
        · rw [e] at keep take ⊢
          refine g_iload3 62 rfl dX12_bearer_61 ?_
          refine g_iconst 63 rfl (v := (-1)) dX12_bearer_62 (by decide) ?_
          refine g_cmpeq 82 66 rfl dX12_bearer_63 (by decide) (fun _ => take h58) (fun z => absurd rfl z)
        · rw [e] at keep take ⊢
          refine g_iload3 62 rfl dX12_bearer_61 ?_
          refine g_iconst 63 rfl (v := (-1)) dX12_bearer_62 (by decide) ?_
          refine g_cmpeq 82 66 rfl dX12_bearer_63 (by decide) (fun z => absurd z (nI_ne_m1 (by omega))) (fun _ => ?_)
          refine g_aload0 67 rfl dX12_bearer_66 ?_
          refine g_getR 70 rfl fX12_60 (by first | rfl | exact st_o hb | exact st_1 hb | exact st_2 hb | exact st_3 hb | exact st_4 hb | exact st_5 hb | exact st_o hb2 | exact st_1 hb2 | exact st_2 hb2 | exact st_3 hb2 | exact st_4 hb2 | exact st_5 hb2) rfl dX12_bearer_67 ?_
          refine g_iload4 72 rfl dX12_bearer_70 ?_
          refine g_iald 73 rfl dX12_bearer_72 (by first | rfl | exact st_o hb | exact st_1 hb | exact st_2 hb | exact st_3 hb | exact st_4 hb | exact st_5 hb | exact st_o hb2 | exact st_1 hb2 | exact st_2 hb2 | exact st_3 hb2 | exact st_4 hb2 | exact st_5 hb2) rfl rfl (by first | assumption | omega) ?_
          try simp only [pM_1, pM_h16, sA_s]
          refine g_aload0 74 rfl dX12_bearer_73 ?_
          refine g_getR 77 rfl fX12_60 (by first | rfl | exact st_o hb | exact st_1 hb | exact st_2 hb | exact st_3 hb | exact st_4 hb | exact st_5 hb | exact st_o hb2 | exact st_1 hb2 | exact st_2 hb2 | exact st_3 hb2 | exact st_4 hb2 | exact st_5 hb2) rfl dX12_bearer_74 ?_
          refine g_iload3 78 rfl dX12_bearer_77 ?_
          refine g_iald 79 rfl dX12_bearer_78 (by first | rfl | exact st_o hb | exact st_1 hb | exact st_2 hb | exact st_3 hb | exact st_4 hb | exact st_5 hb | exact st_o hb2 | exact st_1 hb2 | exact st_2 hb2 | exact st_3 hb2 | exact st_4 hb2 | exact st_5 hb2) rfl rfl (by first | assumption | omega) ?_
          try simp only [pM_1, pM_h16, sA_s]
          refine g_cmple 87 82 rfl dX12_bearer_79 (by decide) (fun h79 => keep h79) (fun h79 => take h79)
    · refine g_ifne 21 18 rfl dX12_bearer_15 (by decide) (fun h => absurd rfl h) (fun _ => ?_)
      refine g_bipush 20 rfl (v := (-102)) dX12_bearer_18 (by decide) ?_
      refine g_iret rfl dX12_bearer_20 ?_
      exact ⟨by rw [fBearer, ifC_t hq, ifC_f hw], N, x, rfl, hx, hr⟩
  · refine g_ifne 11 8 rfl dX12_bearer_5 (by decide) (fun h => absurd rfl h) (fun _ => ?_)
    refine g_bipush 10 rfl (v := (-101)) dX12_bearer_8 (by decide) ?_
    refine g_iret rfl dX12_bearer_10 ?_
    exact ⟨by rw [fBearer, ifC_f hq], N, x, rfl, hx, hr⟩
theorem mub_water {l : Launch} {M : Mm} {g : Sg} {b : Nat} {a : Int32} (h : MS g M) (hI : IV b g) (hb : b < 100000000) : Ok GM l mX12_water [.ref 0, .int a] M (qM (fWater g a)) := by
  obtain ⟨N, x, rfl, hx, hr⟩ := h
  have h30 := hr.m.le
  refine ok_of (by decide +kernel) rfl rfl ?_
  refine g_aload0 1 rfl dX12_water_0 ?_
  refine g_iload1 2 rfl dX12_water_1 ?_
  refine g_callV 5 1 rfl kX12_144 (by first | rfl | exact st_o hb | exact st_1 hb | exact st_2 hb | exact st_3 hb | exact st_4 hb | exact st_5 hb | exact st_o hb2 | exact st_1 hb2 | exact st_2 hb2 | exact st_3 hb2 | exact st_4 hb2 | exact st_5 hb2) dX12_water_2 ⟨rfl, rfl⟩ (om_isCell (pM_mod hr.m)) rfl rfl rfl (fun r M1 hq => ?_)
  obtain ⟨rfl, ⟨rfl, hq⟩ | ⟨rfl, hq⟩⟩ := hq
  try simp only [rV, Option.toList, List.cons_append, List.nil_append]
  · obtain ⟨c, hc, rfl⟩ := vp_in_of hq (by omega)
    refine g_ifne 11 8 rfl dX12_water_5 (by decide) (fun _ => ?_) (fun h => absurd h (by decide))
    refine g_aload0 12 rfl dX12_water_11 ?_
    refine g_callV 15 0 rfl kX12_221 (by first | rfl | exact st_o hb | exact st_1 hb | exact st_2 hb | exact st_3 hb | exact st_4 hb | exact st_5 hb | exact st_o hb2 | exact st_1 hb2 | exact st_2 hb2 | exact st_3 hb2 | exact st_4 hb2 | exact st_5 hb2) dX12_water_12 ⟨rfl, rfl⟩ (om_layWater hr.m (HB_E hI.2.1 hx) (by omega)) rfl rfl rfl (fun r M1 hq => ?_)
    obtain ⟨rfl, K, rfl, hK⟩ := hq
    try simp only [rV, Option.toList, List.cons_append, List.nil_append]
    refine g_aload0 16 rfl dX12_water_15 ?_
    refine g_getR 19 rfl fX12_63 (by first | rfl | exact st_o hb | exact st_1 hb | exact st_2 hb | exact st_3 hb | exact st_4 hb | exact st_5 hb | exact st_o hb2 | exact st_1 hb2 | exact st_2 hb2 | exact st_3 hb2 | exact st_4 hb2 | exact st_5 hb2) rfl dX12_water_16 ?_
    refine g_iload1 20 rfl dX12_water_19 ?_
    refine g_iald 21 rfl dX12_water_20 (by first | rfl | exact st_o hb | exact st_1 hb | exact st_2 hb | exact st_3 hb | exact st_4 hb | exact st_5 hb | exact st_o hb2 | exact st_1 hb2 | exact st_2 hb2 | exact st_3 hb2 | exact st_4 hb2 | exact st_5 hb2) rfl rfl (by first | assumption | omega) ?_
    try simp only [pM_3, pM_h17, sA_s]
    refine g_aload0 22 rfl dX12_water_21 ?_
    refine g_getR 25 rfl fX12_16 (by first | rfl | exact st_o hb | exact st_1 hb | exact st_2 hb | exact st_3 hb | exact st_4 hb | exact st_5 hb | exact st_o hb2 | exact st_1 hb2 | exact st_2 hb2 | exact st_3 hb2 | exact st_4 hb2 | exact st_5 hb2) rfl dX12_water_22 ?_
    refine g_iload1 26 rfl dX12_water_25 ?_
    refine g_iald 27 rfl dX12_water_26 (by first | rfl | exact st_o hb | exact st_1 hb | exact st_2 hb | exact st_3 hb | exact st_4 hb | exact st_5 hb | exact st_o hb2 | exact st_1 hb2 | exact st_2 hb2 | exact st_3 hb2 | exact st_4 hb2 | exact st_5 hb2) rfl rfl (by first | assumption | omega) ?_
    try simp only [pM_3, pM_h17, sA_s]
    refine g_isub 28 rfl dX12_water_27 ?_
    refine g_iret rfl dX12_water_28 ?_
    exact ⟨by rw [fWater, ifC_t hq, ce_nI (by omega), hK c hc, watS_E hx hc], _, x, rfl, hx, hr.fr (kpM.rf.sA (by decide))⟩
  · refine g_ifne 11 8 rfl dX12_water_5 (by decide) (fun h => absurd rfl h) (fun _ => ?_)
    refine g_bipush 10 rfl (v := (-101)) dX12_water_8 (by decide) ?_
    refine g_iret rfl dX12_water_10 ?_
    exact ⟨by rw [fWater, ifC_f hq], N, x, rfl, hx, hr⟩
theorem d32 (d : Int32) : d.toInt64.toInt32 = d := by simp
theorem mub_seed {l : Launch} {M : Mm} {g : Sg} {v : Int32} (h : MS g M) : Ok GM l mX12_seed [.ref 0, .int v] M (qM (fSeed g v)) := by
  obtain ⟨N, x, rfl, hx, hr⟩ := h
  refine ok_of (by decide +kernel) rfl rfl ?_
  refine g_iload1 1 rfl dX12_seed_0 ?_
  refine g_ifge 7 4 rfl dX12_seed_1 (by decide) (fun h1 => ?_) (fun h1 => ?_)
  · refine g_aload0 8 rfl dX12_seed_7 ?_
    refine g_getL 11 rfl fX12_25 (by first | rfl | exact st_o hb | exact st_1 hb | exact st_2 hb | exact st_3 hb | exact st_4 hb | exact st_5 hb | exact st_o hb2 | exact st_1 hb2 | exact st_2 hb2 | exact st_3 hb2 | exact st_4 hb2 | exact st_5 hb2) rfl dX12_seed_8 ?_
    try simp only [pM_8, pM_w8]
    refine g_l2i 12 rfl dX12_seed_11 ?_
    refine g_istore2 13 rfl dX12_seed_12 rfl rfl ?_
    refine g_aload0 14 rfl dX12_seed_13 ?_
    refine g_iload1 15 rfl dX12_seed_14 ?_
    refine g_i2l 16 rfl dX12_seed_15 ?_
    refine g_putL 19 rfl fX12_25 (by first | rfl | exact st_o hb | exact st_1 hb | exact st_2 hb | exact st_3 hb | exact st_4 hb | exact st_5 hb | exact st_o hb2 | exact st_1 hb2 | exact st_2 hb2 | exact st_3 hb2 | exact st_4 hb2 | exact st_5 hb2) rfl dX12_seed_16 ?_
    try simp only [pM_8, pM_w8]
    refine g_iload2 20 rfl dX12_seed_19 ?_
    refine g_iret rfl dX12_seed_20 ?_
    rw [fSeed, ifC_t h1]
    exact ⟨by rw [d32, hx.D], N, _, rfl, hx.wD rfl, hr.x⟩
  · refine g_bipush 6 rfl (v := (-102)) dX12_seed_4 (by decide) ?_
    refine g_iret rfl dX12_seed_6 ?_
    rw [fSeed, ifC_f h1]
    exact ⟨rfl, N, x, rfl, hx, hr⟩
theorem mub_years {l : Launch} {M : Mm} {g : Sg} {b : Nat} {y f : Int32} (h : MS g M) (hI : IV b g) (hb : b < 100000000) : Ok GM l mX12_years [.ref 0, .int y, .int f] M (qM (fYears g y f)) := by
  obtain ⟨N, x, rfl, hx, hr⟩ := h
  refine ok_of (by decide +kernel) rfl rfl ?_
  refine g_aload0 1 rfl dX12_years_0 ?_
  refine g_callV 4 0 rfl kX12_255 (by first | rfl | exact st_o hb | exact st_1 hb | exact st_2 hb | exact st_3 hb | exact st_4 hb | exact st_5 hb | exact st_o hb2 | exact st_1 hb2 | exact st_2 hb2 | exact st_3 hb2 | exact st_4 hb2 | exact st_5 hb2) dX12_years_1 ⟨rfl, rfl⟩ (om_isReady hr) rfl rfl rfl (fun r M1 hq => ?_)
  obtain ⟨rfl, ⟨rfl, hq⟩ | ⟨rfl, hq⟩⟩ := hq
  try simp only [rV, Option.toList, List.cons_append, List.nil_append]
  · refine g_ifne 10 7 rfl dX12_years_4 (by decide) (fun _ => ?_) (fun h => absurd h (by decide))
    refine g_iload1 11 rfl dX12_years_10 ?_
    refine g_iload2 12 rfl dX12_years_11 ?_
    refine g_callS 15 2 rfl kX12_259 dX12_years_12 ⟨rfl, rfl⟩ om_areYears rfl rfl rfl (fun r M1 hq => ?_)
    obtain ⟨rfl, ⟨rfl, hw⟩ | ⟨rfl, hw⟩⟩ := hq
    try simp only [rV, Option.toList, List.cons_append, List.nil_append]
    · obtain ⟨k, hk, rfl⟩ := okY_nI hw
      refine g_ifeq 27 18 rfl dX12_years_15 (by decide) (fun h => absurd h (by decide)) (fun _ => ?_)
      refine g_aload0 19 rfl dX12_years_18 ?_
      refine g_iload1 20 rfl dX12_years_19 ?_
      refine g_iload2 21 rfl dX12_years_20 ?_
      refine g_callV 24 2 rfl kX12_263 (by first | rfl | exact st_o hb | exact st_1 hb | exact st_2 hb | exact st_3 hb | exact st_4 hb | exact st_5 hb | exact st_o hb2 | exact st_1 hb2 | exact st_2 hb2 | exact st_3 hb2 | exact st_4 hb2 | exact st_5 hb2) dX12_years_21 ⟨rfl, rfl⟩ (om_goYears hr.m hr.k (SI_E hI.1 hx) (HB_E hI.2.1 hx) (by omega) (by omega)) rfl rfl rfl (fun r M1 hq => ?_)
      obtain ⟨rfl, O, rfl, hO⟩ := hq
      try simp only [rV, Option.toList, List.cons_append, List.nil_append]
      refine g_goto 29 dX12_years_24 (by decide) ?_
      refine g_iret rfl dX12_years_29 ?_
      have e := yrsS_E (k := gK g) (fr := f) (n := k) hx
      rw [fYears, ifC_t hq, ifC_t hw, yrG, ce_nI (by omega)]
      exact ⟨by rw [e.2], O, _, rfl, e.1, (hr.fr (kpM.fM hO)).x⟩
    · refine g_ifeq 27 18 rfl dX12_years_15 (by decide) (fun _ => ?_) (fun h => absurd rfl h)
      refine g_bipush 29 rfl (v := (-102)) dX12_years_27 (by decide) ?_
      refine g_iret rfl dX12_years_29 ?_
      rw [fYears, ifC_t hq, ifC_f hw]
      exact ⟨rfl, N, x, rfl, hx, hr⟩
  · refine g_ifne 10 7 rfl dX12_years_4 (by decide) (fun h => absurd rfl h) (fun _ => ?_)
    refine g_bipush 9 rfl (v := (-103)) dX12_years_7 (by decide) ?_
    refine g_iret rfl dX12_years_9 ?_
    rw [fYears, ifC_f hq]
    exact ⟨rfl, N, x, rfl, hx, hr⟩
theorem mub_would {l : Launch} {M : Mm} {g : Sg} {b : Nat} {y f : Int32} (h : MS g M) (hI : IV b g) (hb : b < 100000000) : Ok GM l mX12_would [.ref 0, .int y, .int f] M (qM (fWould g y f)) := by
  obtain ⟨N, x, rfl, hx, hr⟩ := h
  have h30 := hr.m.le
  refine ok_of (by decide +kernel) rfl rfl ?_
  refine g_aload0 1 rfl dX12_would_0 ?_
  refine g_callV 4 0 rfl kX12_255 (by first | rfl | exact st_o hb | exact st_1 hb | exact st_2 hb | exact st_3 hb | exact st_4 hb | exact st_5 hb | exact st_o hb2 | exact st_1 hb2 | exact st_2 hb2 | exact st_3 hb2 | exact st_4 hb2 | exact st_5 hb2) dX12_would_1 ⟨rfl, rfl⟩ (om_isReady hr) rfl rfl rfl (fun r M1 hq => ?_)
  obtain ⟨rfl, ⟨rfl, hq⟩ | ⟨rfl, hq⟩⟩ := hq
  try simp only [rV, Option.toList, List.cons_append, List.nil_append]
  · refine g_ifne 10 7 rfl dX12_would_4 (by decide) (fun _ => ?_) (fun h => absurd h (by decide))
    refine g_iload1 11 rfl dX12_would_10 ?_
    refine g_iload2 12 rfl dX12_would_11 ?_
    refine g_callS 15 2 rfl kX12_259 dX12_would_12 ⟨rfl, rfl⟩ om_areYears rfl rfl rfl (fun r M1 hq => ?_)
    obtain ⟨rfl, ⟨rfl, hw⟩ | ⟨rfl, hw⟩⟩ := hq
    try simp only [rV, Option.toList, List.cons_append, List.nil_append]
    · obtain ⟨k, hk, rfl⟩ := okY_nI hw
      refine g_ifeq 27 18 rfl dX12_would_15 (by decide) (fun h => absurd h (by decide)) (fun _ => ?_)
      refine g_aload0 19 rfl dX12_would_18 ?_
      refine g_iload1 20 rfl dX12_would_19 ?_
      refine g_iload2 21 rfl dX12_would_20 ?_
      refine g_callV 24 2 rfl kX12_266 (by first | rfl | exact st_o hb | exact st_1 hb | exact st_2 hb | exact st_3 hb | exact st_4 hb | exact st_5 hb | exact st_o hb2 | exact st_1 hb2 | exact st_2 hb2 | exact st_3 hb2 | exact st_4 hb2 | exact st_5 hb2) dX12_would_21 ⟨rfl, rfl⟩ (om_wouldNow hr.m hr.k (SI_E hI.1 hx) (HB_E hI.2.1 hx) (by omega) (by omega)) rfl rfl rfl (fun r M1 hq => ?_)
      obtain ⟨rfl, O, z, rfl, hz, hO⟩ := hq
      try simp only [rV, Option.toList, List.cons_append, List.nil_append]
      refine g_goto 29 dX12_would_24 (by decide) ?_
      refine g_iret rfl dX12_would_29 ?_
      have e := yrsS_E (k := gK g) (fr := f) (n := k) hx
      exact ⟨by rw [fWould, ifC_t hq, ifC_t hw, yrG, ce_nI (by omega), e.2], O, z, rfl, (hz.le h30).tr hx, hr.fr (kpM.fS hO)⟩
    · refine g_ifeq 27 18 rfl dX12_would_15 (by decide) (fun _ => ?_) (fun h => absurd rfl h)
      refine g_bipush 29 rfl (v := (-102)) dX12_would_27 (by decide) ?_
      refine g_iret rfl dX12_would_29 ?_
      exact ⟨by rw [fWould, ifC_t hq, ifC_f hw], N, x, rfl, hx, hr⟩
  · refine g_ifne 10 7 rfl dX12_would_4 (by decide) (fun h => absurd rfl h) (fun _ => ?_)
    refine g_bipush 9 rfl (v := (-103)) dX12_would_7 (by decide) ?_
    refine g_iret rfl dX12_would_9 ?_
    exact ⟨by rw [fWould, ifC_f hq], N, x, rfl, hx, hr⟩
theorem mub_mend {l : Launch} {M : Mm} {g : Sg} {a z : Int32} (h : MS g M) : Ok GM l mX12_mend [.ref 0, .int a, .int z] M (qM (fMend g a z)) := by
  obtain ⟨N, x, rfl, hx, hr⟩ := h
  have h30 := hr.m.le
  refine ok_of (by decide +kernel) rfl rfl ?_
  refine g_aload0 1 rfl dX12_mend_0 ?_
  refine g_iload1 2 rfl dX12_mend_1 ?_
  refine g_callV 5 1 rfl kX12_144 (by first | rfl | exact st_o hb | exact st_1 hb | exact st_2 hb | exact st_3 hb | exact st_4 hb | exact st_5 hb | exact st_o hb2 | exact st_1 hb2 | exact st_2 hb2 | exact st_3 hb2 | exact st_4 hb2 | exact st_5 hb2) dX12_mend_2 ⟨rfl, rfl⟩ (om_isCell (pM_mod hr.m)) rfl rfl rfl (fun r M1 hq => ?_)
  obtain ⟨rfl, ⟨rfl, hq⟩ | ⟨rfl, hq⟩⟩ := hq
  try simp only [rV, Option.toList, List.cons_append, List.nil_append]
  · obtain ⟨c, hc, rfl⟩ := vp_in_of hq (by omega)
    have ec : ce (nI c) = c := ce_nI (by omega)
    refine g_ifne 11 8 rfl dX12_mend_5 (by decide) (fun _ => ?_) (fun h => absurd h (by decide))
    refine g_iload2 12 rfl dX12_mend_11 ?_
    refine g_iconst 13 rfl (v := 1) dX12_mend_12 (by decide) ?_
    refine g_bipush 15 rfl (v := 9) dX12_mend_13 (by decide) ?_
    refine g_callS 18 3 rfl kX12_78 dX12_mend_15 ⟨rfl, rfl⟩ om_within rfl rfl rfl (fun r M1 hq => ?_)
    obtain ⟨rfl, ⟨rfl, hw⟩ | ⟨rfl, hw⟩⟩ := hq
    try simp only [rV, Option.toList, List.cons_append, List.nil_append]
    · have hw : okZ z := hw
      refine g_ifne 24 21 rfl dX12_mend_18 (by decide) (fun _ => ?_) (fun h => absurd h (by decide))
      refine g_aload0 25 rfl dX12_mend_24 ?_
      refine g_iload1 26 rfl dX12_mend_25 ?_
      refine g_callVi 29 1 rfl kX12_269 (by first | rfl | exact st_o hb | exact st_1 hb | exact st_2 hb | exact st_3 hb | exact st_4 hb | exact st_5 hb | exact st_o hb2 | exact st_1 hb2 | exact st_2 hb2 | exact st_3 hb2 | exact st_4 hb2 | exact st_5 hb2) dX12_mend_26 ⟨rfl, rfl⟩ (om_canMend (by omega)) rfl rfl rfl ?_
      refine g_ifne 35 32 rfl dX12_mend_29 (by decide) (fun h29 => ?_) (fun h29 => ?_)
      · rw [canS_E hx hc] at h29
        refine g_aload0 36 rfl dX12_mend_35 ?_
        refine g_iload1 37 rfl dX12_mend_36 ?_
        refine g_iload2 38 rfl dX12_mend_37 ?_
        refine g_callVv 41 2 rfl kX12_272 (by first | rfl | exact st_o hb | exact st_1 hb | exact st_2 hb | exact st_3 hb | exact st_4 hb | exact st_5 hb | exact st_o hb2 | exact st_1 hb2 | exact st_2 hb2 | exact st_3 hb2 | exact st_4 hb2 | exact st_5 hb2) dX12_mend_38 ⟨rfl, rfl⟩ (om_goMend (by omega)) rfl rfl rfl ?_
        refine g_aload0 42 rfl dX12_mend_41 ?_
        refine g_getR 45 rfl fX12_7 (by first | rfl | exact st_o hb | exact st_1 hb | exact st_2 hb | exact st_3 hb | exact st_4 hb | exact st_5 hb | exact st_o hb2 | exact st_1 hb2 | exact st_2 hb2 | exact st_3 hb2 | exact st_4 hb2 | exact st_5 hb2) rfl dX12_mend_42 ?_
        refine g_iload1 46 rfl dX12_mend_45 ?_
        refine g_iald 47 rfl dX12_mend_46 (by first | rfl | exact st_o hb | exact st_1 hb | exact st_2 hb | exact st_3 hb | exact st_4 hb | exact st_5 hb | exact st_o hb2 | exact st_1 hb2 | exact st_2 hb2 | exact st_3 hb2 | exact st_4 hb2 | exact st_5 hb2) rfl rfl (by first | assumption | omega) ?_
        try simp only [pM_1]
        refine g_iret rfl dX12_mend_47 ?_
        rw [fMend, ifC_t hq, ifC_t hw, ec, ifC_f h29]
        have e := repS_E (z := z) hx hc
        exact ⟨by rw [e.K hc], N, _, rfl, e, hr.x⟩
      · rw [canS_E hx hc] at h29
        refine g_bipush 34 rfl (v := (-103)) dX12_mend_32 (by decide) ?_
        refine g_iret rfl dX12_mend_34 ?_
        rw [fMend, ifC_t hq, ifC_t hw, ec, ifC_t h29]
        exact ⟨rfl, N, x, rfl, hx, hr⟩
    · refine g_ifne 24 21 rfl dX12_mend_18 (by decide) (fun h => absurd rfl h) (fun _ => ?_)
      refine g_bipush 23 rfl (v := (-102)) dX12_mend_21 (by decide) ?_
      refine g_iret rfl dX12_mend_23 ?_
      rw [fMend, ifC_t hq, ifC_f (show ¬ okZ z from hw)]
      exact ⟨rfl, N, x, rfl, hx, hr⟩
  · refine g_ifne 11 8 rfl dX12_mend_5 (by decide) (fun h => absurd rfl h) (fun _ => ?_)
    refine g_bipush 10 rfl (v := (-101)) dX12_mend_8 (by decide) ?_
    refine g_iret rfl dX12_mend_10 ?_
    rw [fMend, ifC_f hq]
    exact ⟨rfl, N, x, rfl, hx, hr⟩
theorem om_howMany {l : Launch} {N : Mm} {x : Sx} {g : Sg} {q : Int32} (hx : sxE (gN g) x (gX g)) (hr : MR g N) : Oi GM l mX12_howMany [.ref 0, .int q] (pM N x) (fCount g q).1 (pM N x) := by
  have e9 := hr.k.2.1
  have e12 := hr.2.2.2.1.2.1
  have e15 := hr.2.1.2.1
  have e2 := hr.s
  have e14 := hr.2.2.2.2.2.1
  refine ok_of (by decide +kernel) rfl rfl ?_
  refine g_iload1 1 rfl dX12_howMany_0 ?_
  refine g_tab8 0 1 2 3 4 5 6 7 89 48 53 58 63 68 73 79 84 dX12_howMany_1 (by decide) (by decide) (by decide) (by decide) (by decide) (by decide) (by decide) (by decide) (by decide) (by decide) (by decide) (by decide) (by decide) (by decide) (by decide) (by decide) (by decide) (by decide) (fun h1 => ?_) (fun h1 => ?_) (fun h1 => ?_) (fun h1 => ?_) (fun h1 => ?_) (fun h1 => ?_) (fun h1 => ?_) (fun h1 => ?_) (fun h1 => ?_)
  · refine g_bipush 91 rfl (v := (-102)) dX12_howMany_89 (by decide) ?_
    refine g_iret rfl dX12_howMany_91 ?_
    refine ⟨?_, rfl⟩
    first | (rw [cnt_out h1]; done) | (rw [h1]; first | rfl | (rw [d32, hx.D]; rfl) | (rw [stoN_E hx _ (Nat.le_refl _)]; rfl))
  · refine g_aload0 49 rfl dX12_howMany_48 ?_
    refine g_callVi 52 0 rfl kX12_140 (by first | rfl | exact st_o hb | exact st_1 hb | exact st_2 hb | exact st_3 hb | exact st_4 hb | exact st_5 hb | exact st_o hb2 | exact st_1 hb2 | exact st_2 hb2 | exact st_3 hb2 | exact st_4 hb2 | exact st_5 hb2) dX12_howMany_49 ⟨rfl, rfl⟩ (om_cells (pM_mod hr.m)) rfl rfl rfl ?_
    refine g_iret rfl dX12_howMany_52 ?_
    refine ⟨?_, rfl⟩
    first | (rw [cnt_out h1]; done) | (rw [h1]; first | rfl | (rw [d32, hx.D]; rfl) | (rw [stoN_E hx _ (Nat.le_refl _)]; rfl))
  · refine g_aload0 54 rfl dX12_howMany_53 ?_
    refine g_callVi 57 0 rfl kX12_159 (by first | rfl | exact st_o hb | exact st_1 hb | exact st_2 hb | exact st_3 hb | exact st_4 hb | exact st_5 hb | exact st_o hb2 | exact st_1 hb2 | exact st_2 hb2 | exact st_3 hb2 | exact st_4 hb2 | exact st_5 hb2) dX12_howMany_54 ⟨rfl, rfl⟩ (om_stoneMany hr.m) rfl rfl rfl ?_
    refine g_iret rfl dX12_howMany_57 ?_
    refine ⟨?_, rfl⟩
    first | (rw [cnt_out h1]; done) | (rw [h1]; first | rfl | (rw [d32, hx.D]; rfl) | (rw [stoN_E hx _ (Nat.le_refl _)]; rfl))
  · refine g_aload0 59 rfl dX12_howMany_58 ?_
    refine g_getI 62 rfl fX12_134 (by first | rfl | exact st_o hb | exact st_1 hb | exact st_2 hb | exact st_3 hb | exact st_4 hb | exact st_5 hb | exact st_o hb2 | exact st_1 hb2 | exact st_2 hb2 | exact st_3 hb2 | exact st_4 hb2 | exact st_5 hb2) rfl dX12_howMany_59 ?_
    try simp only [pM_0, pM_8, e9, e12, e15, e2, e14]
    refine g_iret rfl dX12_howMany_62 ?_
    refine ⟨?_, rfl⟩
    first | (rw [cnt_out h1]; done) | (rw [h1]; first | rfl | (rw [d32, hx.D]; rfl) | (rw [stoN_E hx _ (Nat.le_refl _)]; rfl))
  · refine g_aload0 64 rfl dX12_howMany_63 ?_
    refine g_getI 67 rfl fX12_287 (by first | rfl | exact st_o hb | exact st_1 hb | exact st_2 hb | exact st_3 hb | exact st_4 hb | exact st_5 hb | exact st_o hb2 | exact st_1 hb2 | exact st_2 hb2 | exact st_3 hb2 | exact st_4 hb2 | exact st_5 hb2) rfl dX12_howMany_64 ?_
    try simp only [pM_0, pM_8, e9, e12, e15, e2, e14]
    refine g_iret rfl dX12_howMany_67 ?_
    refine ⟨?_, rfl⟩
    first | (rw [cnt_out h1]; done) | (rw [h1]; first | rfl | (rw [d32, hx.D]; rfl) | (rw [stoN_E hx _ (Nat.le_refl _)]; rfl))
  · refine g_aload0 69 rfl dX12_howMany_68 ?_
    refine g_getI 72 rfl fX12_74 (by first | rfl | exact st_o hb | exact st_1 hb | exact st_2 hb | exact st_3 hb | exact st_4 hb | exact st_5 hb | exact st_o hb2 | exact st_1 hb2 | exact st_2 hb2 | exact st_3 hb2 | exact st_4 hb2 | exact st_5 hb2) rfl dX12_howMany_69 ?_
    try simp only [pM_0, pM_8, e9, e12, e15, e2, e14]
    refine g_iret rfl dX12_howMany_72 ?_
    refine ⟨?_, rfl⟩
    first | (rw [cnt_out h1]; done) | (rw [h1]; first | rfl | (rw [d32, hx.D]; rfl) | (rw [stoN_E hx _ (Nat.le_refl _)]; rfl))
  · refine g_aload0 74 rfl dX12_howMany_73 ?_
    refine g_getL 77 rfl fX12_25 (by first | rfl | exact st_o hb | exact st_1 hb | exact st_2 hb | exact st_3 hb | exact st_4 hb | exact st_5 hb | exact st_o hb2 | exact st_1 hb2 | exact st_2 hb2 | exact st_3 hb2 | exact st_4 hb2 | exact st_5 hb2) rfl dX12_howMany_74 ?_
    try simp only [pM_0, pM_8, e9, e12, e15, e2, e14]
    refine g_l2i 78 rfl dX12_howMany_77 ?_
    refine g_iret rfl dX12_howMany_78 ?_
    refine ⟨?_, rfl⟩
    first | (rw [cnt_out h1]; done) | (rw [h1]; first | rfl | (rw [d32, hx.D]; rfl) | (rw [stoN_E hx _ (Nat.le_refl _)]; rfl))
  · refine g_aload0 80 rfl dX12_howMany_79 ?_
    refine g_getI 83 rfl fX12_131 (by first | rfl | exact st_o hb | exact st_1 hb | exact st_2 hb | exact st_3 hb | exact st_4 hb | exact st_5 hb | exact st_o hb2 | exact st_1 hb2 | exact st_2 hb2 | exact st_3 hb2 | exact st_4 hb2 | exact st_5 hb2) rfl dX12_howMany_80 ?_
    try simp only [pM_0, pM_8, e9, e12, e15, e2, e14]
    refine g_iret rfl dX12_howMany_83 ?_
    refine ⟨?_, rfl⟩
    first | (rw [cnt_out h1]; done) | (rw [h1]; first | rfl | (rw [d32, hx.D]; rfl) | (rw [stoN_E hx _ (Nat.le_refl _)]; rfl))
  · refine g_aload0 85 rfl dX12_howMany_84 ?_
    refine g_getI 88 rfl fX12_281 (by first | rfl | exact st_o hb | exact st_1 hb | exact st_2 hb | exact st_3 hb | exact st_4 hb | exact st_5 hb | exact st_o hb2 | exact st_1 hb2 | exact st_2 hb2 | exact st_3 hb2 | exact st_4 hb2 | exact st_5 hb2) rfl dX12_howMany_85 ?_
    try simp only [pM_0, pM_8, e9, e12, e15, e2, e14]
    refine g_iret rfl dX12_howMany_88 ?_
    refine ⟨?_, rfl⟩
    first | (rw [cnt_out h1]; done) | (rw [h1]; first | rfl | (rw [d32, hx.D]; rfl) | (rw [stoN_E hx _ (Nat.le_refl _)]; rfl))
theorem mub_count {l : Launch} {M : Mm} {g : Sg} {q : Int32} (h : MS g M) : Ok GM l mX12_count [.ref 0, .int q] M (qM (fCount g q)) := by
  obtain ⟨N, x, rfl, hx, hr⟩ := h
  refine ok_of (by decide +kernel) rfl rfl ?_
  refine g_aload0 1 rfl dX12_count_0 ?_
  refine g_iload1 2 rfl dX12_count_1 ?_
  refine g_callVi 5 1 rfl kX12_314 (by first | rfl | exact st_o hb | exact st_1 hb | exact st_2 hb | exact st_3 hb | exact st_4 hb | exact st_5 hb | exact st_o hb2 | exact st_1 hb2 | exact st_2 hb2 | exact st_3 hb2 | exact st_4 hb2 | exact st_5 hb2) dX12_count_2 ⟨rfl, rfl⟩ (om_howMany hx hr) rfl rfl rfl ?_
  refine g_iret rfl dX12_count_5 ?_
  exact ⟨rfl, N, x, rfl, hx, hr⟩
theorem quo_is {a b : Int32} (h : 1 ≤ b) : quo a b = a / b := by rw [quo, if_pos h]
theorem mub_trench {l : Launch} {M : Mm} {g : Sg} {d b y : Int32} (h : MS g M) : Ok GM l mX12_trench [.ref 0, .int d, .int b, .int y] M (qM (fTrench g d b y)) := by
  obtain ⟨N, x, rfl, hx, hr⟩ := h
  have hm : MS g (pM N x) := ⟨N, x, rfl, hx, hr⟩
  refine ok_of (by decide +kernel) rfl rfl ?_
  have bad : ¬ okT d b y → Go GM l mX12_trench 30 [.ref 0, .int d, .int b, .int y, .null, .null, .null] [] (pM N x) (qM (fTrench g d b y)) := by
    intro hn
    refine g_bipush 32 rfl (v := (-102)) dX12_trench_30 (by decide) ?_
    refine g_iret rfl dX12_trench_32 ?_
    exact ⟨by rw [fTrench, ifC_f hn], hm⟩
  refine g_iload1 1 rfl dX12_trench_0 ?_
  refine g_iconst 2 rfl (v := 1) dX12_trench_1 (by decide) ?_
  refine g_bipush 4 rfl (v := 99) dX12_trench_2 (by decide) ?_
  refine g_callS 7 3 rfl kX12_78 dX12_trench_4 ⟨rfl, rfl⟩ om_within rfl rfl rfl (fun r M1 hq => ?_)
  obtain ⟨rfl, ⟨rfl, hd⟩ | ⟨rfl, hd⟩⟩ := hq
  try simp only [rV, Option.toList, List.cons_append, List.nil_append]
  · refine g_ifeq 30 10 rfl dX12_trench_7 (by decide) (fun h => absurd h (by decide)) (fun _ => ?_)
    refine g_iload2 11 rfl dX12_trench_10 ?_
    refine g_iconst 12 rfl (v := 0) dX12_trench_11 (by decide) ?_
    refine g_bipush 14 rfl (v := 9) dX12_trench_12 (by decide) ?_
    refine g_callS 17 3 rfl kX12_78 dX12_trench_14 ⟨rfl, rfl⟩ om_within rfl rfl rfl (fun r M1 hq => ?_)
    obtain ⟨rfl, ⟨rfl, hb⟩ | ⟨rfl, hb⟩⟩ := hq
    try simp only [rV, Option.toList, List.cons_append, List.nil_append]
    · refine g_ifeq 30 20 rfl dX12_trench_17 (by decide) (fun h => absurd h (by decide)) (fun _ => ?_)
      refine g_iload3 21 rfl dX12_trench_20 ?_
      refine g_iconst 22 rfl (v := 0) dX12_trench_21 (by decide) ?_
      refine g_bipush 24 rfl (v := 99) dX12_trench_22 (by decide) ?_
      refine g_callS 27 3 rfl kX12_78 dX12_trench_24 ⟨rfl, rfl⟩ om_within rfl rfl rfl (fun r M1 hq => ?_)
      obtain ⟨rfl, ⟨rfl, hy⟩ | ⟨rfl, hy⟩⟩ := hq
      try simp only [rV, Option.toList, List.cons_append, List.nil_append]
      · refine g_ifne 33 30 rfl dX12_trench_27 (by decide) (fun _ => ?_) (fun h => absurd h (by decide))
        obtain ⟨k, hk, rfl⟩ := le99 hy.1 hy.2
        have h1 : 1 ≤ 2 + b := by
          obtain ⟨e1, e2⟩ := hb
          rw [Int32.le_iff_toInt_le] at e1 e2 ⊢
          have n0 : (0 : Int32).toInt = 0 := by decide
          have n9 : (9 : Int32).toInt = 9 := by decide
          have n2 : (2 : Int32).toInt = 2 := by decide
          have n1 : (1 : Int32).toInt = 1 := by decide
          rw [tI_add (by omega) (by omega)]
          omega
        have hne : ¬ 2 + b = 0 := fun z => by rw [z] at h1; exact absurd h1 (by decide)
        refine g_bipush 35 rfl (v := 10) dX12_trench_33 (by decide) ?_
        refine g_iload1 36 rfl dX12_trench_35 ?_
        refine g_imul 37 rfl dX12_trench_36 ?_
        refine g_iconst 38 rfl (v := 2) dX12_trench_37 (by decide) ?_
        refine g_iload2 39 rfl dX12_trench_38 ?_
        refine g_iadd 40 rfl dX12_trench_39 ?_
        refine g_idiv 41 rfl dX12_trench_40 hne ?_
        refine g_istore4 43 rfl dX12_trench_41 rfl rfl ?_
        refine g_iconst 44 rfl (v := 0) dX12_trench_43 (by decide) ?_
        refine g_istore5 46 rfl dX12_trench_44 rfl rfl ?_
        refine g_iconst 47 rfl (v := 0) dX12_trench_46 (by decide) ?_
        refine g_istore6 49 rfl dX12_trench_47 rfl rfl ?_
        rw [← quo_is h1]
        refine loop_up (P := fun i => Go GM l mX12_trench 49 [.ref 0, .int d, .int b, .int (nI k), .int (quo (10 * d) (2 + b)), .int (treN (quo (10 * d) (2 + b)) i), .int (nI i)] [] (pM N x) (qM (fTrench g d b (nI k)))) k ?_ ?_ 0 (by omega)
        · refine g_iload6 51 rfl dX12_trench_49 ?_
          refine g_iload3 52 rfl dX12_trench_51 ?_
          refine g_cmpge 75 55 rfl dX12_trench_52 (by decide) (fun _ => ?_) (fun h => absurd (Int32.le_refl _) h)
          refine g_iload5 77 rfl dX12_trench_75 ?_
          refine g_iret rfl dX12_trench_77 ?_
          exact ⟨by rw [fTrench, ifC_t ⟨hd, hb, hy⟩, ce_nI (by omega)], hm⟩
        · intro i hi ih
          rw [treN] at ih
          refine g_iload6 51 rfl dX12_trench_49 ?_
          refine g_iload3 52 rfl dX12_trench_51 ?_
          refine g_cmpge 75 55 rfl dX12_trench_52 (by decide) (fun h => absurd h (nI_ge hi (by omega))) (fun _ => ?_)
          refine g_iload5 57 rfl dX12_trench_55 ?_
          refine g_iload4 59 rfl dX12_trench_57 ?_
          refine g_iload5 61 rfl dX12_trench_59 ?_
          refine g_isub 62 rfl dX12_trench_61 ?_
          refine g_iconst 63 rfl (v := 3) dX12_trench_62 (by decide) ?_
          refine g_iadd 64 rfl dX12_trench_63 ?_
          refine g_iconst 65 rfl (v := 4) dX12_trench_64 (by decide) ?_
          refine g_idiv 66 rfl dX12_trench_65 (by decide) ?_
          refine g_iadd 67 rfl dX12_trench_66 ?_
          refine g_istore5 69 rfl dX12_trench_67 rfl rfl ?_
          refine g_iinc6 72 rfl dX12_trench_69 rfl rfl _ (by first | exact iinc1 _ | exact iincx _ | rfl) ?_
          refine g_goto 49 dX12_trench_72 (by decide) ?_
          exact ih
      · refine g_ifne 33 30 rfl dX12_trench_27 (by decide) (fun h => absurd rfl h) (fun _ => ?_)
        exact bad (fun z => hy z.2.2)
    · refine g_ifeq 30 20 rfl dX12_trench_17 (by decide) (fun _ => ?_) (fun h => absurd rfl h)
      exact bad (fun z => hb z.2.1)
  · refine g_ifeq 30 10 rfl dX12_trench_7 (by decide) (fun _ => ?_) (fun h => absurd rfl h)
    exact bad (fun z => hd z.1)
theorem mub_gaps {l : Launch} {M : Mm} {g : Sg} {n z s : Int32} (h : MS g M) : Ok GM l mX12_gaps [.ref 0, .int n, .int z, .int s] M (qM (fGaps g n z s)) := by
  obtain ⟨N, x, rfl, hx, hr⟩ := h
  have hm : MS g (pM N x) := ⟨N, x, rfl, hx, hr⟩
  refine ok_of (by decide +kernel) rfl rfl ?_
  have bad : ¬ okG n z s → Go GM l mX12_gaps 31 [.ref 0, .int n, .int z, .int s, .null] [] (pM N x) (qM (fGaps g n z s)) := by
    intro hn
    refine g_bipush 33 rfl (v := (-102)) dX12_gaps_31 (by decide) ?_
    refine g_iret rfl dX12_gaps_33 ?_
    exact ⟨by rw [fGaps, ifC_f hn], hm⟩
  refine g_iload1 1 rfl dX12_gaps_0 ?_
  refine g_iconst 2 rfl (v := 1) dX12_gaps_1 (by decide) ?_
  refine g_bipush 4 rfl (v := 99) dX12_gaps_2 (by decide) ?_
  refine g_callS 7 3 rfl kX12_78 dX12_gaps_4 ⟨rfl, rfl⟩ om_within rfl rfl rfl (fun r M1 hq => ?_)
  obtain ⟨rfl, ⟨rfl, hd⟩ | ⟨rfl, hd⟩⟩ := hq
  try simp only [rV, Option.toList, List.cons_append, List.nil_append]
  · refine g_ifeq 31 10 rfl dX12_gaps_7 (by decide) (fun h => absurd h (by decide)) (fun _ => ?_)
    refine g_iload2 11 rfl dX12_gaps_10 ?_
    refine g_iconst 12 rfl (v := 1) dX12_gaps_11 (by decide) ?_
    refine g_bipush 14 rfl (v := 99) dX12_gaps_12 (by decide) ?_
    refine g_callS 17 3 rfl kX12_78 dX12_gaps_14 ⟨rfl, rfl⟩ om_within rfl rfl rfl (fun r M1 hq => ?_)
    obtain ⟨rfl, ⟨rfl, hb⟩ | ⟨rfl, hb⟩⟩ := hq
    try simp only [rV, Option.toList, List.cons_append, List.nil_append]
    · refine g_ifeq 31 20 rfl dX12_gaps_17 (by decide) (fun h => absurd h (by decide)) (fun _ => ?_)
      refine g_iload3 21 rfl dX12_gaps_20 ?_
      refine g_iconst 22 rfl (v := 0) dX12_gaps_21 (by decide) ?_
      refine g_sipush 25 rfl (v := 200) dX12_gaps_22 (by decide) ?_
      refine g_callS 28 3 rfl kX12_78 dX12_gaps_25 ⟨rfl, rfl⟩ om_within rfl rfl rfl (fun r M1 hq => ?_)
      obtain ⟨rfl, ⟨rfl, hy⟩ | ⟨rfl, hy⟩⟩ := hq
      try simp only [rV, Option.toList, List.cons_append, List.nil_append]
      · refine g_ifne 34 31 rfl dX12_gaps_28 (by decide) (fun _ => ?_) (fun h => absurd h (by decide))
        have h1 : 1 ≤ n + 1 := by
          obtain ⟨e1, e2⟩ := hd
          rw [Int32.le_iff_toInt_le] at e1 e2 ⊢
          have n9 : (99 : Int32).toInt = 99 := by decide
          have n1 : (1 : Int32).toInt = 1 := by decide
          rw [tI_add (by omega) (by omega)]
          omega
        have hne : ¬ n + 1 = 0 := fun z => by rw [z] at h1; exact absurd h1 (by decide)
        refine g_iload1 35 rfl dX12_gaps_34 ?_
        refine g_iload2 36 rfl dX12_gaps_35 ?_
        refine g_imul 37 rfl dX12_gaps_36 ?_
        refine g_iload3 38 rfl dX12_gaps_37 ?_
        refine g_imul 39 rfl dX12_gaps_38 ?_
        refine g_sipush 42 rfl (v := 999) dX12_gaps_39 (by decide) ?_
        refine g_iadd 43 rfl dX12_gaps_42 ?_
        refine g_sipush 46 rfl (v := 1000) dX12_gaps_43 (by decide) ?_
        refine g_idiv 47 rfl dX12_gaps_46 (by decide) ?_
        refine g_istore4 49 rfl dX12_gaps_47 rfl rfl ?_
        refine g_iload4 51 rfl dX12_gaps_49 ?_
        refine g_iload1 52 rfl dX12_gaps_51 ?_
        refine g_iadd 53 rfl dX12_gaps_52 ?_
        refine g_iload1 54 rfl dX12_gaps_53 ?_
        refine g_iconst 55 rfl (v := 1) dX12_gaps_54 (by decide) ?_
        refine g_iadd 56 rfl dX12_gaps_55 ?_
        refine g_idiv 57 rfl dX12_gaps_56 hne ?_
        refine g_iret rfl dX12_gaps_57 ?_
        exact ⟨by rw [fGaps, ifC_t ⟨hd, hb, hy⟩, quo_is h1], hm⟩
      · refine g_ifne 34 31 rfl dX12_gaps_28 (by decide) (fun h => absurd rfl h) (fun _ => ?_)
        exact bad (fun z => hy z.2.2)
    · refine g_ifeq 31 20 rfl dX12_gaps_17 (by decide) (fun _ => ?_) (fun h => absurd rfl h)
      exact bad (fun z => hb z.2.1)
  · refine g_ifeq 31 10 rfl dX12_gaps_7 (by decide) (fun _ => ?_) (fun h => absurd rfl h)
    exact bad (fun z => hd z.1)
theorem MR.hp {g : Sg} {N O : Mm} {m : Nat} {z : Nat → Int32} (h : MR g N) (hm : m ≤ 10) (h12 : O.1 0 12 = nI m) (hz : ∀ i, i < m → O.1 8 i = z i) (hk : ∀ k, k ≤ 22 → k ≠ 12 → O.1 0 k = N.1 0 k) (hh : ∀ q, 6 ≤ q → q ≤ 10 → q ≠ 8 → O.1 q = N.1 q) (hl : O.2 0 19 = N.2 0 19) : MR (sgH g m z) O := by
  obtain ⟨a1, a2, a3, a4, a5, a6, a7, a8, a9, a10⟩ := h
  refine ⟨?_, ?_, ?_, ⟨hm, h12, hz⟩, ?_, ?_, ?_, ?_, ?_, a10⟩
  · unfold Mod at a1 ⊢
    rw [hk 0 (by decide) (by decide), hk 1 (by decide) (by decide)]
    exact a1
  · rw [hk 15 (by decide) (by decide), hh 9 (by decide) (by decide) (by decide)]
    exact a2
  · unfold CrM at a3 ⊢
    rw [hk 9 (by decide) (by decide), hh 6 (by decide) (by decide) (by decide), hh 7 (by decide) (by decide) (by decide)]
    exact a3
  · rw [hk 2 (by decide) (by decide)]
    exact a5
  · rw [hk 14 (by decide) (by decide)]
    exact a6
  · rw [hk 17 (by decide) (by decide)]
    exact a7
  · rw [hk 17 (by decide) (by decide), hk 18 (by decide) (by decide)]
    exact a8
  · unfold Kp at a9 ⊢
    rw [hl, hh 10 (by decide) (by decide) (by decide)]
    exact a9
theorem mub_heap {l : Launch} {M : Mm} {g : Sg} {v : Int32} (h : MS g M) : Ok GM l mX12_heap [.ref 0, .int v] M (qM (fHeap g v)) := by
  obtain ⟨N, x, rfl, hx, hr⟩ := h
  obtain ⟨h10, e12, e8⟩ := hr.2.2.2.1
  refine ok_of (by decide +kernel) rfl rfl ?_
  refine g_iload1 1 rfl dX12_heap_0 ?_
  refine g_iconst 2 rfl (v := 1) dX12_heap_1 (by decide) ?_
  refine g_bipush 4 rfl (v := 9) dX12_heap_2 (by decide) ?_
  refine g_callS 7 3 rfl kX12_78 dX12_heap_4 ⟨rfl, rfl⟩ om_within rfl rfl rfl (fun r M1 hq => ?_)
  obtain ⟨rfl, ⟨rfl, hq⟩ | ⟨rfl, hq⟩⟩ := hq
  try simp only [rV, Option.toList, List.cons_append, List.nil_append]
  · have hq : okZ v := hq
    refine g_ifne 13 10 rfl dX12_heap_7 (by decide) (fun _ => ?_) (fun h => absurd h (by decide))
    have w8 : ∀ f, setA (pM N x) 8 f = pM (setA N 8 f) x := fun f => pM_wo (Or.inr (by decide))
    have r0 : ∀ f, (setA N 8 f).1 0 = N.1 0 := fun f => sA_n (by decide)
    refine g_aload0 14 rfl dX12_heap_13 ?_
    refine g_getI 17 rfl fX12_287 (by first | rfl | exact st_o hb | exact st_1 hb | exact st_2 hb | exact st_3 hb | exact st_4 hb | exact st_5 hb | exact st_o hb2 | exact st_1 hb2 | exact st_2 hb2 | exact st_3 hb2 | exact st_4 hb2 | exact st_5 hb2) rfl dX12_heap_14 ?_
    try simp only [pM_0, pM_w0, pM_h8, w8, r0, e12, sA_s, upd_at]
    refine g_bipush 19 rfl (v := 10) dX12_heap_17 (by decide) ?_
    refine g_cmpne 25 22 rfl dX12_heap_19 (by decide) (fun h19 => ?_) (fun h19 => ?_)
    · have hlt : gM g < 10 := by
        rcases Nat.lt_or_ge (gM g) 10 with z | z
        · exact z
        · exact absurd (by rw [show gM g = 10 by omega]; rfl) h19
      refine g_aload0 26 rfl dX12_heap_25 ?_
      refine g_getR 29 rfl fX12_35 (by first | rfl | exact st_o hb | exact st_1 hb | exact st_2 hb | exact st_3 hb | exact st_4 hb | exact st_5 hb | exact st_o hb2 | exact st_1 hb2 | exact st_2 hb2 | exact st_3 hb2 | exact st_4 hb2 | exact st_5 hb2) rfl dX12_heap_26 ?_
      refine g_aload0 30 rfl dX12_heap_29 ?_
      refine g_getI 33 rfl fX12_287 (by first | rfl | exact st_o hb | exact st_1 hb | exact st_2 hb | exact st_3 hb | exact st_4 hb | exact st_5 hb | exact st_o hb2 | exact st_1 hb2 | exact st_2 hb2 | exact st_3 hb2 | exact st_4 hb2 | exact st_5 hb2) rfl dX12_heap_30 ?_
      try simp only [pM_0, pM_w0, pM_h8, w8, r0, e12, sA_s, upd_at]
      refine g_iload1 34 rfl dX12_heap_33 ?_
      refine g_iast 35 rfl dX12_heap_34 (by first | rfl | exact st_o hb | exact st_1 hb | exact st_2 hb | exact st_3 hb | exact st_4 hb | exact st_5 hb | exact st_o hb2 | exact st_1 hb2 | exact st_2 hb2 | exact st_3 hb2 | exact st_4 hb2 | exact st_5 hb2) rfl rfl (by first | assumption | omega) ?_
      try simp only [pM_0, pM_w0, pM_h8, w8, r0, e12, sA_s, upd_at]
      refine g_aload0 36 rfl dX12_heap_35 ?_
      refine g_dup 37 rfl dX12_heap_36 rfl ?_
      refine g_getI 40 rfl fX12_287 (by first | rfl | exact st_o hb | exact st_1 hb | exact st_2 hb | exact st_3 hb | exact st_4 hb | exact st_5 hb | exact st_o hb2 | exact st_1 hb2 | exact st_2 hb2 | exact st_3 hb2 | exact st_4 hb2 | exact st_5 hb2) rfl dX12_heap_37 ?_
      try simp only [pM_0, pM_w0, pM_h8, w8, r0, e12, sA_s, upd_at]
      refine g_iconst 41 rfl (v := 1) dX12_heap_40 (by decide) ?_
      refine g_iadd 42 rfl dX12_heap_41 ?_
      rw [nI_1]
      refine g_putI 45 rfl fX12_287 (by first | rfl | exact st_o hb | exact st_1 hb | exact st_2 hb | exact st_3 hb | exact st_4 hb | exact st_5 hb | exact st_o hb2 | exact st_1 hb2 | exact st_2 hb2 | exact st_3 hb2 | exact st_4 hb2 | exact st_5 hb2) rfl dX12_heap_42 ?_
      try simp only [pM_0, pM_w0, pM_h8, w8, r0, e12, sA_s, upd_at]
      refine g_aload0 46 rfl dX12_heap_45 ?_
      refine g_getI 49 rfl fX12_287 (by first | rfl | exact st_o hb | exact st_1 hb | exact st_2 hb | exact st_3 hb | exact st_4 hb | exact st_5 hb | exact st_o hb2 | exact st_1 hb2 | exact st_2 hb2 | exact st_3 hb2 | exact st_4 hb2 | exact st_5 hb2) rfl dX12_heap_46 ?_
      try simp only [pM_0, pM_w0, pM_h8, w8, r0, e12, sA_s, upd_at]
      refine g_iret rfl dX12_heap_49 ?_
      rw [fHeap, ifC_t hq, ifC_t hlt]
      refine ⟨rfl, _, x, rfl, hx, hr.hp (by omega) (by rw [sA_s, upd_at]) (fun i hi => ?_) (fun k _ h2 => by rw [sA_s, pk_un h2]) (fun q h1 _ h3 => by rw [sA_n (by omega), sA_n h3]) rfl⟩
      rw [sA_n (by decide), sA_s]
      by_cases hi2 : i = gM g
      · subst hi2; rw [upd_at, upd_at]
      · rw [pk_un hi2, pk_un hi2]; exact e8 i (by omega)
    · have hge : ¬ gM g < 10 := fun z => absurd ((nI_eq (by omega) (by decide)).mp (show nI (gM g) = nI 10 from h19)) (by omega)
      refine g_bipush 24 rfl (v := (-104)) dX12_heap_22 (by decide) ?_
      refine g_iret rfl dX12_heap_24 ?_
      rw [fHeap, ifC_t hq, ifC_f hge]
      exact ⟨rfl, N, x, rfl, hx, hr⟩
  · refine g_ifne 13 10 rfl dX12_heap_7 (by decide) (fun h => absurd rfl h) (fun _ => ?_)
    refine g_bipush 12 rfl (v := (-102)) dX12_heap_10 (by decide) ?_
    refine g_iret rfl dX12_heap_12 ?_
    rw [fHeap, ifC_f (show ¬ okZ v from hq)]
    exact ⟨rfl, N, x, rfl, hx, hr⟩
