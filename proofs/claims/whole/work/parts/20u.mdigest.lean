/-! the reference's digest() -/
theorem pM_39 {N : Mm} {x : Sx} : (pM N x).2 0 39 = N.2 0 39 := by simp [pM]
theorem sL_39 {N : Mm} {v : Int64} : (setL N 0 39 v).2 0 39 = v := by simp [setL]
theorem om_mix {l : Launch} {N : Mm} {x : Sx} {v : Int32} : Ov GM l mX12_mix [.ref 0, .long v.toInt64] (pM N x) (pM (setL N 0 39 (mx (N.2 0 39) v)) x) := by
  refine ok_of (by decide +kernel) rfl rfl ?_
  refine g_aload0 1 rfl dX12_mix_0 ?_
  refine g_ldc2 4 rfl dX12_mix_1 cX12_317 ?_
  refine g_aload0 5 rfl dX12_mix_4 ?_
  refine g_getL 8 rfl fX12_319 (by first | rfl | exact st_o hb | exact st_1 hb | exact st_2 hb | exact st_3 hb | exact st_4 hb | exact st_5 hb | exact st_o hb2 | exact st_1 hb2 | exact st_2 hb2 | exact st_3 hb2 | exact st_4 hb2 | exact st_5 hb2) rfl dX12_mix_5 ?_
  refine g_lmul 9 rfl dX12_mix_8 ?_
  refine g_lload1 10 rfl dX12_mix_9 ?_
  refine g_ladd 11 rfl dX12_mix_10 ?_
  refine g_putL 14 rfl fX12_319 (by first | rfl | exact st_o hb | exact st_1 hb | exact st_2 hb | exact st_3 hb | exact st_4 hb | exact st_5 hb | exact st_o hb2 | exact st_1 hb2 | exact st_2 hb2 | exact st_3 hb2 | exact st_4 hb2 | exact st_5 hb2) rfl dX12_mix_11 ?_
  refine g_vret rfl dX12_mix_14 ?_
  refine ⟨rfl, ?_⟩
  rw [pM_39, pM_wL (by decide)]
  rfl
theorem MR.d {g : Sg} {N : Mm} {v : Int64} (h : MR g N) : MR g (setL N 0 39 v) := h.fr (kpM.rf.sL (by decide))
theorem om_mixStreet {l : Launch} {N : Mm} {x : Sx} {g : Sg} {b : Nat} {d : Int64} (hx : sxE (gN g) x (gX g)) (hr : MR g N) (hd : N.2 0 39 = d) (hI : IV b g) (hb : b < 100000000) : Ok GM l mX12_mixStreet [.ref 0] (pM N x) (fun r M' => r = none ∧ ∃ O, M' = pM O x ∧ O.2 0 39 = dgS (gR g) (gW g) (gX g) d ∧ MR g O) := by
  have h30 := hr.m.le
  refine ok_of (by decide +kernel) rfl rfl ?_
  refine g_aload0 1 rfl dX12_mixStreet_0 ?_
  refine g_callV 4 0 rfl kX12_221 (by first | rfl | exact st_o hb | exact st_1 hb | exact st_2 hb | exact st_3 hb | exact st_4 hb | exact st_5 hb | exact st_o hb2 | exact st_1 hb2 | exact st_2 hb2 | exact st_3 hb2 | exact st_4 hb2 | exact st_5 hb2) dX12_mixStreet_1 ⟨rfl, rfl⟩ (om_layWater hr.m (HB_E hI.2.1 hx) (by omega)) rfl rfl rfl (fun r M1 hq => ?_)
  obtain ⟨rfl, K, rfl, hK⟩ := hq
  try simp only [rV, Option.toList, List.cons_append, List.nil_append]
  refine g_iconst 5 rfl (v := 0) dX12_mixStreet_4 (by decide) ?_
  refine g_istore1 6 rfl dX12_mixStreet_5 rfl rfl ?_
  refine loop_up (P := fun c => ∀ O, O.2 0 39 = itN (dgB (gR g) (gW g) (gX g)) c d → MR g O → O.1 17 = K → Go GM l mX12_mixStreet 6 [.ref 0, .int (nI c), .null] [] (pM O x) (fun r M' => r = none ∧ ∃ O, M' = pM O x ∧ O.2 0 39 = dgS (gR g) (gW g) (gX g) d ∧ MR g O)) (gR g * gW g) ?_ ?_ 0 (Nat.zero_le _) (setA N 17 K) hd (hr.fr (kpM.rf.sA (by decide))) sA_s
  · intro O h1 h2 h3
    refine g_iload1 7 rfl dX12_mixStreet_6 ?_
    refine g_aload0 8 rfl dX12_mixStreet_7 ?_
    refine g_callVi 11 0 rfl kX12_140 (by first | rfl | exact st_o hb | exact st_1 hb | exact st_2 hb | exact st_3 hb | exact st_4 hb | exact st_5 hb | exact st_o hb2 | exact st_1 hb2 | exact st_2 hb2 | exact st_3 hb2 | exact st_4 hb2 | exact st_5 hb2) dX12_mixStreet_8 ⟨rfl, rfl⟩ (om_cells (pM_mod h2.m)) rfl rfl rfl ?_
    refine g_cmpge 63 14 rfl dX12_mixStreet_11 (by decide) (fun _ => ?_) (fun h => absurd (Int32.le_refl _) h)
    refine g_vret rfl dX12_mixStreet_63 ?_
    exact ⟨rfl, O, rfl, h1, h2⟩
  · intro c hc ih O h1 h2 h3
    simp only [it4] at ih
    rw [dgB] at ih
    generalize itN (dgB (gR g) (gW g) (gX g)) c d = d1 at ih h1
    refine g_iload1 7 rfl dX12_mixStreet_6 ?_
    refine g_aload0 8 rfl dX12_mixStreet_7 ?_
    refine g_callVi 11 0 rfl kX12_140 (by first | rfl | exact st_o hb | exact st_1 hb | exact st_2 hb | exact st_3 hb | exact st_4 hb | exact st_5 hb | exact st_o hb2 | exact st_1 hb2 | exact st_2 hb2 | exact st_3 hb2 | exact st_4 hb2 | exact st_5 hb2) dX12_mixStreet_8 ⟨rfl, rfl⟩ (om_cells (pM_mod h2.m)) rfl rfl rfl ?_
    refine g_cmpge 63 14 rfl dX12_mixStreet_11 (by decide) (fun h => absurd h (nI_ge hc (by omega))) (fun _ => ?_)
    refine g_iconst 15 rfl (v := 0) dX12_mixStreet_14 (by decide) ?_
    refine g_istore2 16 rfl dX12_mixStreet_15 rfl rfl ?_
    refine loop_up (P := fun q => ∀ O, O.2 0 39 = itN (dg6 (gR g) (gW g) (gX g) c) q d1 → MR g O → O.1 17 = K → Go GM l mX12_mixStreet 16 [.ref 0, .int (nI c), .int (nI q)] [] (pM O x) (fun r M' => r = none ∧ ∃ O, M' = pM O x ∧ O.2 0 39 = dgS (gR g) (gW g) (gX g) d ∧ MR g O)) 6 ?_ ?_ 0 (by omega) O h1 h2 h3
    · intro O h1 h2 h3
      refine g_iload2 17 rfl dX12_mixStreet_16 ?_
      refine g_bipush 19 rfl (v := 6) dX12_mixStreet_17 (by decide) ?_
      refine g_cmpge 39 22 rfl dX12_mixStreet_19 (by decide) (fun _ => ?_) (fun h => absurd (by decide) h)
      refine g_aload0 40 rfl dX12_mixStreet_39 ?_
      refine g_aload0 41 rfl dX12_mixStreet_40 ?_
      refine g_getR 44 rfl fX12_63 (by first | rfl | exact st_o hb | exact st_1 hb | exact st_2 hb | exact st_3 hb | exact st_4 hb | exact st_5 hb | exact st_o hb2 | exact st_1 hb2 | exact st_2 hb2 | exact st_3 hb2 | exact st_4 hb2 | exact st_5 hb2) rfl dX12_mixStreet_41 ?_
      refine g_iload1 45 rfl dX12_mixStreet_44 ?_
      refine g_iald 46 rfl dX12_mixStreet_45 (by first | rfl | exact st_o hb | exact st_1 hb | exact st_2 hb | exact st_3 hb | exact st_4 hb | exact st_5 hb | exact st_o hb2 | exact st_1 hb2 | exact st_2 hb2 | exact st_3 hb2 | exact st_4 hb2 | exact st_5 hb2) rfl rfl (by first | assumption | omega) ?_
      try simp only [pM_3, pM_h17, h3]
      refine g_aload0 47 rfl dX12_mixStreet_46 ?_
      refine g_getR 50 rfl fX12_16 (by first | rfl | exact st_o hb | exact st_1 hb | exact st_2 hb | exact st_3 hb | exact st_4 hb | exact st_5 hb | exact st_o hb2 | exact st_1 hb2 | exact st_2 hb2 | exact st_3 hb2 | exact st_4 hb2 | exact st_5 hb2) rfl dX12_mixStreet_47 ?_
      refine g_iload1 51 rfl dX12_mixStreet_50 ?_
      refine g_iald 52 rfl dX12_mixStreet_51 (by first | rfl | exact st_o hb | exact st_1 hb | exact st_2 hb | exact st_3 hb | exact st_4 hb | exact st_5 hb | exact st_o hb2 | exact st_1 hb2 | exact st_2 hb2 | exact st_3 hb2 | exact st_4 hb2 | exact st_5 hb2) rfl rfl (by first | assumption | omega) ?_
      try simp only [pM_3, pM_h17, h3]
      refine g_isub 53 rfl dX12_mixStreet_52 ?_
      rw [hK c hc, watS_E hx hc]
      refine g_i2l 54 rfl dX12_mixStreet_53 ?_
      refine g_callVv 57 1 rfl kX12_322 (by first | rfl | exact st_o hb | exact st_1 hb | exact st_2 hb | exact st_3 hb | exact st_4 hb | exact st_5 hb | exact st_o hb2 | exact st_1 hb2 | exact st_2 hb2 | exact st_3 hb2 | exact st_4 hb2 | exact st_5 hb2) dX12_mixStreet_54 ⟨rfl, rfl⟩ om_mix rfl rfl rfl ?_
      refine g_iinc1 60 rfl dX12_mixStreet_57 rfl rfl _ (by first | exact iinc1 _ | exact iincx _ | rfl) ?_
      refine g_goto 6 dX12_mixStreet_60 (by decide) ?_
      refine g_fg 2 ?_
      exact ih _ (by rw [sL_39, h1]) h2.d h3
    · intro q hq ih2 O h1 h2 h3
      refine g_iload2 17 rfl dX12_mixStreet_16 ?_
      refine g_bipush 19 rfl (v := 6) dX12_mixStreet_17 (by decide) ?_
      refine g_cmpge 39 22 rfl dX12_mixStreet_19 (by decide) (fun h => absurd h (nI_ge hq (by decide))) (fun _ => ?_)
      refine g_aload0 23 rfl dX12_mixStreet_22 ?_
      refine g_aload0 24 rfl dX12_mixStreet_23 ?_
      refine g_iload1 25 rfl dX12_mixStreet_24 ?_
      refine g_iload2 26 rfl dX12_mixStreet_25 ?_
      refine g_callVi 29 2 rfl kX12_156 (by first | rfl | exact st_o hb | exact st_1 hb | exact st_2 hb | exact st_3 hb | exact st_4 hb | exact st_5 hb | exact st_o hb2 | exact st_1 hb2 | exact st_2 hb2 | exact st_3 hb2 | exact st_4 hb2 | exact st_5 hb2) dX12_mixStreet_26 ⟨rfl, rfl⟩ (om_cellNow h2.m hc (vp_in_nI hq (by decide))) rfl rfl rfl ?_
      rw [telS_E hx hc]
      refine g_i2l 30 rfl dX12_mixStreet_29 ?_
      refine g_callVv 33 1 rfl kX12_322 (by first | rfl | exact st_o hb | exact st_1 hb | exact st_2 hb | exact st_3 hb | exact st_4 hb | exact st_5 hb | exact st_o hb2 | exact st_1 hb2 | exact st_2 hb2 | exact st_3 hb2 | exact st_4 hb2 | exact st_5 hb2) dX12_mixStreet_30 ⟨rfl, rfl⟩ om_mix rfl rfl rfl ?_
      refine g_iinc2 36 rfl dX12_mixStreet_33 rfl rfl _ (by first | exact iinc1 _ | exact iincx _ | rfl) ?_
      refine g_goto 16 dX12_mixStreet_36 (by decide) ?_
      exact ih2 _ (by rw [sL_39, h1, it4, dg6]) h2.d h3
abbrev qLm (v : Int64) (g : Sg) : Rr → Mm → Prop := fun r M' => r = some (.inr v) ∧ MS g M'
theorem md_c {l : Launch} {g : Sg} {d5 : Int64} {v : Value} {N : Mm} {x : Sx} (hx : sxE (gN g) x (gX g)) (hr : MR g N) (hd : N.2 0 39 = d5) : Go GM l mX12_digest 137 [.ref 0, v] [] (pM N x) (qLm (itN (dgN g) 8 d5) g) := by
  refine g_iconst 138 rfl (v := 0) dX12_digest_137 (by decide) ?_
  refine g_istore1 139 rfl dX12_digest_138 rfl rfl ?_
  refine loop_up (P := fun i => ∀ O, O.2 0 39 = itN (dgN g) i d5 → MR g O → Go GM l mX12_digest 139 [.ref 0, .int (nI i)] [] (pM O x) (qLm (itN (dgN g) 8 d5) g)) 8 ?_ ?_ 0 (by omega) N hd hr
  · intro O h1 h2
    refine g_iload1 140 rfl dX12_digest_139 ?_
    refine g_bipush 142 rfl (v := 8) dX12_digest_140 (by decide) ?_
    refine g_cmpge 161 145 rfl dX12_digest_142 (by decide) (fun _ => ?_) (fun h => absurd (by decide) h)
    refine g_aload0 162 rfl dX12_digest_161 ?_
    refine g_getL 165 rfl fX12_319 (by first | rfl | exact st_o hb | exact st_1 hb | exact st_2 hb | exact st_3 hb | exact st_4 hb | exact st_5 hb | exact st_o hb2 | exact st_1 hb2 | exact st_2 hb2 | exact st_3 hb2 | exact st_4 hb2 | exact st_5 hb2) rfl dX12_digest_162 ?_
    try simp only [pM_39, h1]
    refine g_lret rfl dX12_digest_165 ?_
    exact ⟨rfl, O, x, rfl, hx, h2⟩
  · intro i hi ih O h1 h2
    refine g_iload1 140 rfl dX12_digest_139 ?_
    refine g_bipush 142 rfl (v := 8) dX12_digest_140 (by decide) ?_
    refine g_cmpge 161 145 rfl dX12_digest_142 (by decide) (fun h => absurd h (nI_ge hi (by decide))) (fun _ => ?_)
    refine g_aload0 146 rfl dX12_digest_145 ?_
    refine g_aload0 147 rfl dX12_digest_146 ?_
    refine g_iload1 148 rfl dX12_digest_147 ?_
    refine g_callVi 151 1 rfl kX12_314 (by first | rfl | exact st_o hb | exact st_1 hb | exact st_2 hb | exact st_3 hb | exact st_4 hb | exact st_5 hb | exact st_o hb2 | exact st_1 hb2 | exact st_2 hb2 | exact st_3 hb2 | exact st_4 hb2 | exact st_5 hb2) dX12_digest_148 ⟨rfl, rfl⟩ (om_howMany hx h2) rfl rfl rfl ?_
    refine g_i2l 152 rfl dX12_digest_151 ?_
    refine g_callVv 155 1 rfl kX12_322 (by first | rfl | exact st_o hb | exact st_1 hb | exact st_2 hb | exact st_3 hb | exact st_4 hb | exact st_5 hb | exact st_o hb2 | exact st_1 hb2 | exact st_2 hb2 | exact st_3 hb2 | exact st_4 hb2 | exact st_5 hb2) dX12_digest_152 ⟨rfl, rfl⟩ om_mix rfl rfl rfl ?_
    refine g_iinc1 158 rfl dX12_digest_155 rfl rfl _ (by first | exact iinc1 _ | exact iincx _ | rfl) ?_
    refine g_goto 139 dX12_digest_158 (by decide) ?_
    exact ih _ (by rw [sL_39, h1, it4, dgN]) h2.d
theorem md_p {l : Launch} {g : Sg} {d4 : Int64} {v : Value} {N : Mm} {x : Sx} (hx : sxE (gN g) x (gX g)) (hr : MR g N) (hd : N.2 0 39 = d4) : Go GM l mX12_digest 110 [.ref 0, v] [] (pM N x) (qLm (itN (dgN g) 8 (itN (dgZ (gP g)) (gL g) d4)) g) := by
  have hl64 := hr.2.1.1
  refine g_iconst 111 rfl (v := 0) dX12_digest_110 (by decide) ?_
  refine g_istore1 112 rfl dX12_digest_111 rfl rfl ?_
  refine loop_up (P := fun i => ∀ O, O.2 0 39 = itN (dgZ (gP g)) i d4 → MR g O → Go GM l mX12_digest 112 [.ref 0, .int (nI i)] [] (pM O x) (qLm (itN (dgN g) 8 (itN (dgZ (gP g)) (gL g) d4)) g)) (gL g) ?_ ?_ 0 (Nat.zero_le _) N hd hr
  · intro O h1 h2
    have e15 := h2.2.1.2.1
    refine g_iload1 113 rfl dX12_digest_112 ?_
    refine g_aload0 114 rfl dX12_digest_113 ?_
    refine g_getI 117 rfl fX12_74 (by first | rfl | exact st_o hb | exact st_1 hb | exact st_2 hb | exact st_3 hb | exact st_4 hb | exact st_5 hb | exact st_o hb2 | exact st_1 hb2 | exact st_2 hb2 | exact st_3 hb2 | exact st_4 hb2 | exact st_5 hb2) rfl dX12_digest_114 ?_
    try simp only [pM_0, e15]
    refine g_cmpge 137 120 rfl dX12_digest_117 (by decide) (fun _ => ?_) (fun h => absurd (Int32.le_refl _) h)
    exact md_c hx h2 h1
  · intro i hi ih O h1 h2
    have e15 := h2.2.1.2.1
    have e9 := h2.2.1.2.2 i hi
    have hi64 : i < 64 := by omega
    refine g_iload1 113 rfl dX12_digest_112 ?_
    refine g_aload0 114 rfl dX12_digest_113 ?_
    refine g_getI 117 rfl fX12_74 (by first | rfl | exact st_o hb | exact st_1 hb | exact st_2 hb | exact st_3 hb | exact st_4 hb | exact st_5 hb | exact st_o hb2 | exact st_1 hb2 | exact st_2 hb2 | exact st_3 hb2 | exact st_4 hb2 | exact st_5 hb2) rfl dX12_digest_114 ?_
    try simp only [pM_0, pM_h9, e15, e9]
    refine g_cmpge 137 120 rfl dX12_digest_117 (by decide) (fun h => absurd h (nI_ge hi (by omega))) (fun _ => ?_)
    refine g_aload0 121 rfl dX12_digest_120 ?_
    refine g_aload0 122 rfl dX12_digest_121 ?_
    refine g_getR 125 rfl fX12_38 (by first | rfl | exact st_o hb | exact st_1 hb | exact st_2 hb | exact st_3 hb | exact st_4 hb | exact st_5 hb | exact st_o hb2 | exact st_1 hb2 | exact st_2 hb2 | exact st_3 hb2 | exact st_4 hb2 | exact st_5 hb2) rfl dX12_digest_122 ?_
    refine g_iload1 126 rfl dX12_digest_125 ?_
    refine g_bald 127 rfl dX12_digest_126 (by first | rfl | exact st_o hb | exact st_1 hb | exact st_2 hb | exact st_3 hb | exact st_4 hb | exact st_5 hb | exact st_o hb2 | exact st_1 hb2 | exact st_2 hb2 | exact st_3 hb2 | exact st_4 hb2 | exact st_5 hb2) rfl rfl (by first | assumption | omega) ?_
    try simp only [pM_0, pM_h9, e15, e9]
    refine g_i2l 128 rfl dX12_digest_127 ?_
    refine g_callVv 131 1 rfl kX12_322 (by first | rfl | exact st_o hb | exact st_1 hb | exact st_2 hb | exact st_3 hb | exact st_4 hb | exact st_5 hb | exact st_o hb2 | exact st_1 hb2 | exact st_2 hb2 | exact st_3 hb2 | exact st_4 hb2 | exact st_5 hb2) dX12_digest_128 ⟨rfl, rfl⟩ om_mix rfl rfl rfl ?_
    refine g_iinc1 134 rfl dX12_digest_131 rfl rfl _ (by first | exact iinc1 _ | exact iincx _ | rfl) ?_
    refine g_goto 112 dX12_digest_134 (by decide) ?_
    exact ih _ (by rw [sL_39, h1, it4, dgZ]) h2.d
theorem md_t {l : Launch} {g : Sg} {d3 : Int64} {v : Value} {b : Nat} {N : Mm} {x : Sx} (hx : sxE (gN g) x (gX g)) (hr : MR g N) (hd : N.2 0 39 = d3) (hI : IV b g) (hb : b < 100000000) : Go GM l mX12_digest 92 [.ref 0, v] [] (pM N x) (qLm (itN (dgN g) 8 (itN (dgZ (gP g)) (gL g) (dgY g d3))) g) := by
  have h30 := hr.m.le
  refine g_aload0 93 rfl dX12_digest_92 ?_
  refine g_callV 96 0 rfl kX12_255 (by first | rfl | exact st_o hb | exact st_1 hb | exact st_2 hb | exact st_3 hb | exact st_4 hb | exact st_5 hb | exact st_o hb2 | exact st_1 hb2 | exact st_2 hb2 | exact st_3 hb2 | exact st_4 hb2 | exact st_5 hb2) dX12_digest_93 ⟨rfl, rfl⟩ (om_isReady hr) rfl rfl rfl (fun r M1 hq => ?_)
  obtain ⟨rfl, ⟨rfl, hq⟩ | ⟨rfl, hq⟩⟩ := hq
  try simp only [rV, Option.toList, List.cons_append, List.nil_append]
  · rw [dgY, ifC_t hq]
    have e := yrsS_E (k := gK g) (fr := 4) (n := 3) hx
    have ew : (fWould g 3 4).1 = (yrsS (gR g) (gW g) (gK g) 4 3 x).2 := by
      have hw : okY 3 4 := by unfold okY; decide
      rw [fWould, ifC_t hq, ifC_t hw, yrG, show (3 : Int32) = nI 3 from rfl, ce_nI (by omega), e.2]
    rw [ew]
    refine g_ifeq 110 99 rfl dX12_digest_96 (by decide) (fun h => absurd h (by decide)) (fun _ => ?_)
    refine g_aload0 100 rfl dX12_digest_99 ?_
    refine g_aload0 101 rfl dX12_digest_100 ?_
    refine g_iconst 102 rfl (v := 3) dX12_digest_101 (by decide) ?_
    refine g_iconst 103 rfl (v := 4) dX12_digest_102 (by decide) ?_
    refine g_callV 106 2 rfl kX12_266 (by first | rfl | exact st_o hb | exact st_1 hb | exact st_2 hb | exact st_3 hb | exact st_4 hb | exact st_5 hb | exact st_o hb2 | exact st_1 hb2 | exact st_2 hb2 | exact st_3 hb2 | exact st_4 hb2 | exact st_5 hb2) dX12_digest_103 ⟨rfl, rfl⟩ (om_wouldNow (n := 3) (fr := 4) hr.m hr.k (SI_E hI.1 hx) (HB_E hI.2.1 hx) (by omega) (by omega)) rfl rfl rfl (fun r M1 hq => ?_)
    obtain ⟨rfl, O, z, rfl, hz, hO⟩ := hq
    try simp only [rV, Option.toList, List.cons_append, List.nil_append]
    generalize (yrsS (gR g) (gW g) (gK g) 4 3 x).2 = e1
    refine g_i2l 107 rfl dX12_digest_106 ?_
    refine g_callVv 110 1 rfl kX12_322 (by first | rfl | exact st_o hb | exact st_1 hb | exact st_2 hb | exact st_3 hb | exact st_4 hb | exact st_5 hb | exact st_o hb2 | exact st_1 hb2 | exact st_2 hb2 | exact st_3 hb2 | exact st_4 hb2 | exact st_5 hb2) dX12_digest_107 ⟨rfl, rfl⟩ om_mix rfl rfl rfl ?_
    exact md_p ((hz.le h30).tr hx) (hr.fr (kpM.fS hO)).d (by rw [sL_39, hO.2 39 (by decide), hd])
  · rw [dgY, ifC_f hq]
    refine g_ifeq 110 99 rfl dX12_digest_96 (by decide) (fun _ => ?_) (fun h => absurd rfl h)
    exact md_p hx hr hd
theorem md_u {l : Launch} {g : Sg} {d2 : Int64} {v : Value} {b : Nat} {N : Mm} {x : Sx} (hx : sxE (gN g) x (gX g)) (hr : MR g N) (hd : N.2 0 39 = d2) (hI : IV b g) (hb : b < 100000000) : Go GM l mX12_digest 76 [.ref 0, v] [] (pM N x) (qLm (itN (dgN g) 8 (itN (dgZ (gP g)) (gL g) (dgY g (dgU g d2)))) g) := by
  have hs := hr.sp
  refine g_aload0 77 rfl dX12_digest_76 ?_
  refine g_getI 80 rfl fX12_131 (by first | rfl | exact st_o hb | exact st_1 hb | exact st_2 hb | exact st_3 hb | exact st_4 hb | exact st_5 hb | exact st_o hb2 | exact st_1 hb2 | exact st_2 hb2 | exact st_3 hb2 | exact st_4 hb2 | exact st_5 hb2) rfl dX12_digest_77 ?_
  try simp only [pM_0]
  refine g_ifle 92 83 rfl dX12_digest_80 (by decide) (fun h80 => ?_) (fun h80 => ?_)
  · rw [dgU, ifC_f (hs.mp h80)]
    exact md_t hx hr hd hI hb
  · have hq : 0 < gN g := Classical.byContradiction (fun z => h80 (hs.mpr z))
    rw [dgU, ifC_t hq, ← sprS_E hx]
    refine g_aload0 84 rfl dX12_digest_83 ?_
    refine g_aload0 85 rfl dX12_digest_84 ?_
    refine g_callVi 88 0 rfl kX12_198 (by first | rfl | exact st_o hb | exact st_1 hb | exact st_2 hb | exact st_3 hb | exact st_4 hb | exact st_5 hb | exact st_o hb2 | exact st_1 hb2 | exact st_2 hb2 | exact st_3 hb2 | exact st_4 hb2 | exact st_5 hb2) dX12_digest_85 ⟨rfl, rfl⟩ (om_unevenNow hr.m (HB_E hI.2.1 hx) (by omega)) rfl rfl rfl ?_
    refine g_i2l 89 rfl dX12_digest_88 ?_
    refine g_callVv 92 1 rfl kX12_322 (by first | rfl | exact st_o hb | exact st_1 hb | exact st_2 hb | exact st_3 hb | exact st_4 hb | exact st_5 hb | exact st_o hb2 | exact st_1 hb2 | exact st_2 hb2 | exact st_3 hb2 | exact st_4 hb2 | exact st_5 hb2) dX12_digest_89 ⟨rfl, rfl⟩ om_mix rfl rfl rfl ?_
    exact md_t hx hr.d (by rw [sL_39, hd]) hI hb
theorem md_z {l : Launch} {g : Sg} {d1 : Int64} {v : Value} {b : Nat} {N : Mm} {x : Sx} (hx : sxE (gN g) x (gX g)) (hr : MR g N) (hd : N.2 0 39 = d1) (hI : IV b g) (hb : b < 100000000) : Go GM l mX12_digest 49 [.ref 0, v] [] (pM N x) (qLm (itN (dgN g) 8 (itN (dgZ (gP g)) (gL g) (dgY g (dgU g (itN (dgZ (gZ g)) (gM g) d1))))) g) := by
  have hm10 := hr.2.2.2.1.1
  refine g_iconst 50 rfl (v := 0) dX12_digest_49 (by decide) ?_
  refine g_istore1 51 rfl dX12_digest_50 rfl rfl ?_
  refine loop_up (P := fun i => ∀ O, O.2 0 39 = itN (dgZ (gZ g)) i d1 → MR g O → Go GM l mX12_digest 51 [.ref 0, .int (nI i)] [] (pM O x) (qLm (itN (dgN g) 8 (itN (dgZ (gP g)) (gL g) (dgY g (dgU g (itN (dgZ (gZ g)) (gM g) d1))))) g)) (gM g) ?_ ?_ 0 (Nat.zero_le _) N hd hr
  · intro O h1 h2
    have e12 := h2.2.2.2.1.2.1
    refine g_iload1 52 rfl dX12_digest_51 ?_
    refine g_aload0 53 rfl dX12_digest_52 ?_
    refine g_getI 56 rfl fX12_287 (by first | rfl | exact st_o hb | exact st_1 hb | exact st_2 hb | exact st_3 hb | exact st_4 hb | exact st_5 hb | exact st_o hb2 | exact st_1 hb2 | exact st_2 hb2 | exact st_3 hb2 | exact st_4 hb2 | exact st_5 hb2) rfl dX12_digest_53 ?_
    try simp only [pM_0, e12]
    refine g_cmpge 76 59 rfl dX12_digest_56 (by decide) (fun _ => ?_) (fun h => absurd (Int32.le_refl _) h)
    exact md_u hx h2 h1 hI hb
  · intro i hi ih O h1 h2
    have e12 := h2.2.2.2.1.2.1
    have e8 := h2.2.2.2.1.2.2 i hi
    refine g_iload1 52 rfl dX12_digest_51 ?_
    refine g_aload0 53 rfl dX12_digest_52 ?_
    refine g_getI 56 rfl fX12_287 (by first | rfl | exact st_o hb | exact st_1 hb | exact st_2 hb | exact st_3 hb | exact st_4 hb | exact st_5 hb | exact st_o hb2 | exact st_1 hb2 | exact st_2 hb2 | exact st_3 hb2 | exact st_4 hb2 | exact st_5 hb2) rfl dX12_digest_53 ?_
    try simp only [pM_0, pM_h8, e12, e8]
    refine g_cmpge 76 59 rfl dX12_digest_56 (by decide) (fun h => absurd h (nI_ge hi (by omega))) (fun _ => ?_)
    refine g_aload0 60 rfl dX12_digest_59 ?_
    refine g_aload0 61 rfl dX12_digest_60 ?_
    refine g_getR 64 rfl fX12_35 (by first | rfl | exact st_o hb | exact st_1 hb | exact st_2 hb | exact st_3 hb | exact st_4 hb | exact st_5 hb | exact st_o hb2 | exact st_1 hb2 | exact st_2 hb2 | exact st_3 hb2 | exact st_4 hb2 | exact st_5 hb2) rfl dX12_digest_61 ?_
    refine g_iload1 65 rfl dX12_digest_64 ?_
    refine g_iald 66 rfl dX12_digest_65 (by first | rfl | exact st_o hb | exact st_1 hb | exact st_2 hb | exact st_3 hb | exact st_4 hb | exact st_5 hb | exact st_o hb2 | exact st_1 hb2 | exact st_2 hb2 | exact st_3 hb2 | exact st_4 hb2 | exact st_5 hb2) rfl rfl (by first | assumption | omega) ?_
    try simp only [pM_0, pM_h8, e12, e8]
    refine g_i2l 67 rfl dX12_digest_66 ?_
    refine g_callVv 70 1 rfl kX12_322 (by first | rfl | exact st_o hb | exact st_1 hb | exact st_2 hb | exact st_3 hb | exact st_4 hb | exact st_5 hb | exact st_o hb2 | exact st_1 hb2 | exact st_2 hb2 | exact st_3 hb2 | exact st_4 hb2 | exact st_5 hb2) dX12_digest_67 ⟨rfl, rfl⟩ om_mix rfl rfl rfl ?_
    refine g_iinc1 73 rfl dX12_digest_70 rfl rfl _ (by first | exact iinc1 _ | exact iincx _ | rfl) ?_
    refine g_goto 51 dX12_digest_73 (by decide) ?_
    exact ih _ (by rw [sL_39, h1, it4, dgZ]) h2.d
theorem mub_digest {l : Launch} {M : Mm} {g : Sg} {b : Nat} (h : MS g M) (hI : IV b g) (hb : b < 100000000) : Ok GM l mX12_digest [.ref 0] M (qLm (fDigest g) g) := by
  obtain ⟨N, x, rfl, hx, hr⟩ := h
  have hk6 := hr.k.1
  have e : fDigest g = itN (dgN g) 8 (itN (dgZ (gP g)) (gL g) (dgY g (dgU g (itN (dgZ (gZ g)) (gM g) (itN (dgK (gK g)) (gK g).1 (dgS (gR g) (gW g) (gX g) 509)))))) := rfl
  rw [e]
  refine ok_of (by decide +kernel) rfl rfl ?_
  refine g_aload0 1 rfl dX12_digest_0 ?_
  refine g_ldc2 4 rfl dX12_digest_1 cX12_326 ?_
  refine g_putL 7 rfl fX12_319 (by first | rfl | exact st_o hb | exact st_1 hb | exact st_2 hb | exact st_3 hb | exact st_4 hb | exact st_5 hb | exact st_o hb2 | exact st_1 hb2 | exact st_2 hb2 | exact st_3 hb2 | exact st_4 hb2 | exact st_5 hb2) rfl dX12_digest_4 ?_
  refine g_mem (pM (setL N 0 39 509) x) (by rw [pM_wL (by decide)]) ?_
  generalize (509 : Int64) = n509
  refine g_aload0 8 rfl dX12_digest_7 ?_
  refine g_callV 11 0 rfl kX12_328 (by first | rfl | exact st_o hb | exact st_1 hb | exact st_2 hb | exact st_3 hb | exact st_4 hb | exact st_5 hb | exact st_o hb2 | exact st_1 hb2 | exact st_2 hb2 | exact st_3 hb2 | exact st_4 hb2 | exact st_5 hb2) dX12_digest_8 ⟨rfl, rfl⟩ (om_mixStreet hx hr.d sL_39 hI hb) rfl rfl rfl (fun r M1 hq => ?_)
  obtain ⟨rfl, O, rfl, hO, hrO⟩ := hq
  try simp only [rV, Option.toList, List.cons_append, List.nil_append]
  generalize dgS (gR g) (gW g) (gX g) n509 = d0 at hO ⊢
  refine g_iconst 12 rfl (v := 0) dX12_digest_11 (by decide) ?_
  refine g_istore1 13 rfl dX12_digest_12 rfl rfl ?_
  refine loop_up (P := fun i => ∀ O, O.2 0 39 = itN (dgK (gK g)) i d0 → MR g O → Go GM l mX12_digest 13 [.ref 0, .int (nI i)] [] (pM O x) (qLm (itN (dgN g) 8 (itN (dgZ (gP g)) (gL g) (dgY g (dgU g (itN (dgZ (gZ g)) (gM g) (itN (dgK (gK g)) (gK g).1 d0)))))) g)) (gK g).1 ?_ ?_ 0 (Nat.zero_le _) O hO hrO
  · intro O h1 h2
    have e9 := h2.k.2.1
    refine g_iload1 14 rfl dX12_digest_13 ?_
    refine g_aload0 15 rfl dX12_digest_14 ?_
    refine g_getI 18 rfl fX12_134 (by first | rfl | exact st_o hb | exact st_1 hb | exact st_2 hb | exact st_3 hb | exact st_4 hb | exact st_5 hb | exact st_o hb2 | exact st_1 hb2 | exact st_2 hb2 | exact st_3 hb2 | exact st_4 hb2 | exact st_5 hb2) rfl dX12_digest_15 ?_
    try simp only [pM_0, e9]
    refine g_cmpge 49 21 rfl dX12_digest_18 (by decide) (fun _ => ?_) (fun h => absurd (Int32.le_refl _) h)
    exact md_z hx h2 h1 hI hb
  · intro i hi ih O h1 h2
    have e9 := h2.k.2.1
    obtain ⟨e6, e7, -⟩ := h2.k.2.2 i hi
    have e7' : ∀ v, (setL O 0 39 v).1 7 i = (gK g).2.2 i := fun v => e7
    refine g_iload1 14 rfl dX12_digest_13 ?_
    refine g_aload0 15 rfl dX12_digest_14 ?_
    refine g_getI 18 rfl fX12_134 (by first | rfl | exact st_o hb | exact st_1 hb | exact st_2 hb | exact st_3 hb | exact st_4 hb | exact st_5 hb | exact st_o hb2 | exact st_1 hb2 | exact st_2 hb2 | exact st_3 hb2 | exact st_4 hb2 | exact st_5 hb2) rfl dX12_digest_15 ?_
    try simp only [pM_0, pM_h6, pM_h7, e9, e6, e7, e7']
    refine g_cmpge 49 21 rfl dX12_digest_18 (by decide) (fun h => absurd h (nI_ge hi (by omega))) (fun _ => ?_)
    refine g_aload0 22 rfl dX12_digest_21 ?_
    refine g_aload0 23 rfl dX12_digest_22 ?_
    refine g_getR 26 rfl fX12_29 (by first | rfl | exact st_o hb | exact st_1 hb | exact st_2 hb | exact st_3 hb | exact st_4 hb | exact st_5 hb | exact st_o hb2 | exact st_1 hb2 | exact st_2 hb2 | exact st_3 hb2 | exact st_4 hb2 | exact st_5 hb2) rfl dX12_digest_23 ?_
    refine g_iload1 27 rfl dX12_digest_26 ?_
    refine g_iald 28 rfl dX12_digest_27 (by first | rfl | exact st_o hb | exact st_1 hb | exact st_2 hb | exact st_3 hb | exact st_4 hb | exact st_5 hb | exact st_o hb2 | exact st_1 hb2 | exact st_2 hb2 | exact st_3 hb2 | exact st_4 hb2 | exact st_5 hb2) rfl rfl (by first | assumption | omega) ?_
    try simp only [pM_0, pM_h6, pM_h7, e9, e6, e7, e7']
    refine g_i2l 29 rfl dX12_digest_28 ?_
    refine g_callVv 32 1 rfl kX12_322 (by first | rfl | exact st_o hb | exact st_1 hb | exact st_2 hb | exact st_3 hb | exact st_4 hb | exact st_5 hb | exact st_o hb2 | exact st_1 hb2 | exact st_2 hb2 | exact st_3 hb2 | exact st_4 hb2 | exact st_5 hb2) dX12_digest_29 ⟨rfl, rfl⟩ om_mix rfl rfl rfl ?_
    refine g_aload0 33 rfl dX12_digest_32 ?_
    refine g_aload0 34 rfl dX12_digest_33 ?_
    refine g_getR 37 rfl fX12_32 (by first | rfl | exact st_o hb | exact st_1 hb | exact st_2 hb | exact st_3 hb | exact st_4 hb | exact st_5 hb | exact st_o hb2 | exact st_1 hb2 | exact st_2 hb2 | exact st_3 hb2 | exact st_4 hb2 | exact st_5 hb2) rfl dX12_digest_34 ?_
    refine g_iload1 38 rfl dX12_digest_37 ?_
    refine g_iald 39 rfl dX12_digest_38 (by first | rfl | exact st_o hb | exact st_1 hb | exact st_2 hb | exact st_3 hb | exact st_4 hb | exact st_5 hb | exact st_o hb2 | exact st_1 hb2 | exact st_2 hb2 | exact st_3 hb2 | exact st_4 hb2 | exact st_5 hb2) rfl rfl (by first | assumption | omega) ?_
    try simp only [pM_0, pM_h6, pM_h7, e9, e6, e7, e7']
    refine g_i2l 40 rfl dX12_digest_39 ?_
    refine g_callVv 43 1 rfl kX12_322 (by first | rfl | exact st_o hb | exact st_1 hb | exact st_2 hb | exact st_3 hb | exact st_4 hb | exact st_5 hb | exact st_o hb2 | exact st_1 hb2 | exact st_2 hb2 | exact st_3 hb2 | exact st_4 hb2 | exact st_5 hb2) dX12_digest_40 ⟨rfl, rfl⟩ om_mix rfl rfl rfl ?_
    refine g_iinc1 46 rfl dX12_digest_43 rfl rfl _ (by first | exact iinc1 _ | exact iincx _ | rfl) ?_
    refine g_goto 13 dX12_digest_46 (by decide) ?_
    exact ih _ (by rw [sL_39, sL_39, h1, it4, dgK]) h2.d.d
