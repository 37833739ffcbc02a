/-! the reference's calls: the hole, speeds, images -/
set_option maxRecDepth 100000 in
theorem clr_b : ∀ c, c < 1024 → 0 < c → nI c &&& (nI c - 1) = nI (c &&& (c - 1)) ∧ (c &&& (c - 1)) < c ∧ pcn (c &&& (c - 1)) + 1 = pcn c := by decide +kernel
theorem om_ones {l : Launch} {M : Mm} {b : Nat} (hb : b < 1024) : Oi GM l mX12_ones [.int (nI b)] M (nI (pcn b)) M := by
  refine ok_of (by decide +kernel) rfl rfl ?_
  refine g_iconst 1 rfl (v := 0) dX12_ones_0 (by decide) ?_
  refine g_istore1 2 rfl dX12_ones_1 rfl rfl ?_
  refine g_iload0 3 rfl dX12_ones_2 ?_
  refine g_istore2 4 rfl dX12_ones_3 rfl rfl ?_
  have key : ∀ n c k, c ≤ n → c < 1024 → k + pcn c = pcn b → Go GM l mX12_ones 4 [.int (nI b), .int (nI k), .int (nI c)] [] M (fun r M1 => r = some (.inl (nI (pcn b))) ∧ M1 = M) := by
    intro n
    induction n with
    | zero =>
      intro c k h1 h2 h3
      have : c = 0 := by omega
      subst this
      refine g_iload2 5 rfl dX12_ones_4 ?_
      refine g_ifeq 20 8 rfl dX12_ones_5 (by decide) (fun _ => ?_) (fun h => absurd rfl h)
      refine g_iload1 21 rfl dX12_ones_20 ?_
      refine g_iret rfl dX12_ones_21 ?_
      rw [show pcn 0 = 0 from rfl] at h3
      exact ⟨by rw [← h3]; rfl, rfl⟩
    | succ n ih =>
      intro c k h1 h2 h3
      rcases Nat.eq_zero_or_pos c with rfl | hc
      · exact ih 0 k (by omega) (by omega) h3
      · obtain ⟨a1, a2, a3⟩ := clr_b c h2 hc
        refine g_iload2 5 rfl dX12_ones_4 ?_
        refine g_ifeq 20 8 rfl dX12_ones_5 (by decide) (fun h => absurd h (nI_ne0 hc (by omega))) (fun _ => ?_)
        refine g_iinc1 11 rfl dX12_ones_8 rfl rfl _ (by first | exact iinc1 _ | exact iincx _ | rfl) ?_
        refine g_iload2 12 rfl dX12_ones_11 ?_
        refine g_iload2 13 rfl dX12_ones_12 ?_
        refine g_iconst 14 rfl (v := 1) dX12_ones_13 (by decide) ?_
        refine g_isub 15 rfl dX12_ones_14 ?_
        refine g_iand 16 rfl dX12_ones_15 ?_
        rw [a1]
        refine g_istore2 17 rfl dX12_ones_16 rfl rfl ?_
        refine g_goto 4 dX12_ones_17 (by decide) ?_
        exact ih _ (k + 1) (by omega) (by omega) (by omega)
  exact key b b 0 (Nat.le_refl _) hb (by omega)
set_option maxRecDepth 100000 in
theorem bit_x : ∀ b, b < 1024 → ∀ i, i < 10 → (nI b >>> (nI i &&& 31)) &&& 1 = nI (b / 2 ^ i % 2) := by decide +kernel
theorem om_wide {l : Launch} {N : Mm} {x : Sx} {g : Sg} {b : Nat} (hr : MR g N) (hb : b < 1024) : Oi GM l mX12_wide [.ref 0, .int (nI b)] (pM N x) (wid (gZ g) b (gM g)) (pM N x) := by
  obtain ⟨h10, e12, e8⟩ := hr.2.2.2.1
  refine ok_of (by decide +kernel) rfl rfl ?_
  refine g_iconst 1 rfl (v := 0) dX12_wide_0 (by decide) ?_
  refine g_istore2 2 rfl dX12_wide_1 rfl rfl ?_
  refine g_iconst 3 rfl (v := 0) dX12_wide_2 (by decide) ?_
  refine g_istore3 4 rfl dX12_wide_3 rfl rfl ?_
  refine loop_up (P := fun i => Go GM l mX12_wide 4 [.ref 0, .int (nI b), .int (wid (gZ g) b i), .int (nI i)] [] (pM N x) _) (gM g) ?_ ?_ 0 (by omega)
  · refine g_iload3 5 rfl dX12_wide_4 ?_
    refine g_aload0 6 rfl dX12_wide_5 ?_
    refine g_getI 9 rfl fX12_287 (by first | rfl | exact st_o hb | exact st_1 hb | exact st_2 hb | exact st_3 hb | exact st_4 hb | exact st_5 hb | exact st_o hb2 | exact st_1 hb2 | exact st_2 hb2 | exact st_3 hb2 | exact st_4 hb2 | exact st_5 hb2) rfl dX12_wide_6 ?_
    try simp only [pM_0, pM_h8, e12]
    refine g_cmpge 40 12 rfl dX12_wide_9 (by decide) (fun h9 => ?_) (fun h => absurd (Int32.le_refl _) h)
    refine g_iload2 41 rfl dX12_wide_40 ?_
    refine g_iret rfl dX12_wide_41 ?_
    exact ⟨rfl, rfl⟩
  · intro i hi ih
    rw [wid] at ih
    refine g_iload3 5 rfl dX12_wide_4 ?_
    refine g_aload0 6 rfl dX12_wide_5 ?_
    refine g_getI 9 rfl fX12_287 (by first | rfl | exact st_o hb | exact st_1 hb | exact st_2 hb | exact st_3 hb | exact st_4 hb | exact st_5 hb | exact st_o hb2 | exact st_1 hb2 | exact st_2 hb2 | exact st_3 hb2 | exact st_4 hb2 | exact st_5 hb2) rfl dX12_wide_6 ?_
    try simp only [pM_0, pM_h8, e12]
    refine g_cmpge 40 12 rfl dX12_wide_9 (by decide) (fun h => absurd h (nI_ge hi (by omega))) (fun _ => ?_)
    refine g_iload2 13 rfl dX12_wide_12 ?_
    refine g_iload1 14 rfl dX12_wide_13 ?_
    refine g_iload3 15 rfl dX12_wide_14 ?_
    refine g_ishr 16 rfl dX12_wide_15 ?_
    refine g_iconst 17 rfl (v := 1) dX12_wide_16 (by decide) ?_
    refine g_iand 18 rfl dX12_wide_17 ?_
    refine g_iconst 19 rfl (v := 1) dX12_wide_18 (by decide) ?_
    rw [bit_x b hb i (by omega)]
    have h2 : b / 2 ^ i % 2 < 2 := Nat.mod_lt _ (by decide)
    refine g_cmpne 31 22 rfl dX12_wide_19 (by decide) (fun h19 => ?_) (fun h19 => ?_)
    · have : ¬ b / 2 ^ i % 2 = 1 := fun z => h19 (by rw [z]; rfl)
      rw [if_neg this] at ih
      refine g_iconst 32 rfl (v := 0) dX12_wide_31 (by decide) ?_
      refine g_iadd 33 rfl dX12_wide_32 ?_
      refine g_istore2 34 rfl dX12_wide_33 rfl rfl ?_
      refine g_iinc3 37 rfl dX12_wide_34 rfl rfl _ (by first | exact iinc1 _ | exact iincx _ | rfl) ?_
      refine g_goto 4 dX12_wide_37 (by decide) ?_
      exact ih
    · have : b / 2 ^ i % 2 = 1 := (nI_eq (b := 1) (by omega) (by decide)).mp h19
      rw [if_pos this] at ih
      refine g_aload0 23 rfl dX12_wide_22 ?_
      refine g_getR 26 rfl fX12_35 (by first | rfl | exact st_o hb | exact st_1 hb | exact st_2 hb | exact st_3 hb | exact st_4 hb | exact st_5 hb | exact st_o hb2 | exact st_1 hb2 | exact st_2 hb2 | exact st_3 hb2 | exact st_4 hb2 | exact st_5 hb2) rfl dX12_wide_23 ?_
      refine g_iload3 27 rfl dX12_wide_26 ?_
      refine g_iald 28 rfl dX12_wide_27 (by first | rfl | exact st_o hb | exact st_1 hb | exact st_2 hb | exact st_3 hb | exact st_4 hb | exact st_5 hb | exact st_o hb2 | exact st_1 hb2 | exact st_2 hb2 | exact st_3 hb2 | exact st_4 hb2 | exact st_5 hb2) rfl rfl (by first | assumption | omega) ?_
      try simp only [pM_0, pM_h8, e12]
      rw [e8 i hi]
      refine g_goto 32 dX12_wide_28 (by decide) ?_
      refine g_iadd 33 rfl dX12_wide_32 ?_
      refine g_istore2 34 rfl dX12_wide_33 rfl rfl ?_
      refine g_iinc3 37 rfl dX12_wide_34 rfl rfl _ (by first | exact iinc1 _ | exact iincx _ | rfl) ?_
      refine g_goto 4 dX12_wide_37 (by decide) ?_
      exact ih
theorem okZ_nI {v : Int32} (h : okZ v) : ∃ k, 1 ≤ k ∧ k ≤ 9 ∧ v = nI k := by
  have h1 := h.1
  have h2 := h.2
  rw [Int32.le_iff_toInt_le] at h1 h2
  have n1 : (1 : Int32).toInt = 1 := by decide
  have n9 : (9 : Int32).toInt = 9 := by decide
  obtain ⟨j, hj, rfl⟩ := vp_in_of (x := v) (n := 10) (vp_in_iff.mpr (by omega)) (by decide)
  rw [nI_toInt (by omega)] at h1 h2
  exact ⟨j, by omega, by omega, rfl⟩
theorem wid_nn {z : Nat → Int32} {b : Nat} : ∀ m, (∀ i, i < m → okZ (z i)) → ∃ j, j ≤ 9 * m ∧ wid z b m = nI j
  | 0, _ => ⟨0, by omega, rfl⟩
  | m + 1, h => by
    obtain ⟨j, hj, e⟩ := wid_nn (z := z) (b := b) m (fun i hi => h i (by omega))
    obtain ⟨k, k1, k2, ek⟩ := okZ_nI (h m (by omega))
    rw [wid, e]
    split
    · exact ⟨j + k, by omega, by rw [ek, nI_add]⟩
    · exact ⟨j, by omega, Int32.add_zero _⟩
theorem mub_fits {l : Launch} {M : Mm} {g : Sg} {b : Nat} {o w : Int32} (h : MS g M) (hI : IV b g) : Ok GM l mX12_fits [.ref 0, .int o, .int w] M (qM (fFits g o w)) := by
  obtain ⟨N, x, rfl, hx, hr⟩ := h
  have hm : MS g (pM N x) := ⟨N, x, rfl, hx, hr⟩
  obtain ⟨h10, e12, e8⟩ := hr.2.2.2.1
  have hp : 2 ^ gM g ≤ 1024 := Nat.le_trans (Nat.pow_le_pow_right (by decide) h10) (by decide)
  have hp1 : 1 ≤ 2 ^ gM g := Nat.one_le_two_pow
  refine ok_of (by decide +kernel) rfl rfl ?_
  have bad : ¬ okF o w → Go GM l mX12_fits 19 [.ref 0, .int o, .int w, .null, .null, .null, .null] [] (pM N x) (qM (fFits g o w)) := by
    intro hn
    refine g_bipush 21 rfl (v := (-102)) dX12_fits_19 (by decide) ?_
    refine g_iret rfl dX12_fits_21 ?_
    exact ⟨by rw [fFits, ifC_f hn], hm⟩
  refine g_iload1 1 rfl dX12_fits_0 ?_
  refine g_iconst 2 rfl (v := 0) dX12_fits_1 (by decide) ?_
  refine g_bipush 4 rfl (v := 90) dX12_fits_2 (by decide) ?_
  refine g_callS 7 3 rfl kX12_78 dX12_fits_4 ⟨rfl, rfl⟩ om_within rfl rfl rfl (fun r M1 hq => ?_)
  obtain ⟨rfl, ⟨rfl, ho⟩ | ⟨rfl, ho⟩⟩ := hq
  try simp only [rV, Option.toList, List.cons_append, List.nil_append]
  · refine g_ifeq 19 10 rfl dX12_fits_7 (by decide) (fun h => absurd h (by decide)) (fun _ => ?_)
    refine g_iload2 11 rfl dX12_fits_10 ?_
    refine g_iconst 12 rfl (v := 0) dX12_fits_11 (by decide) ?_
    refine g_iconst 13 rfl (v := 1) dX12_fits_12 (by decide) ?_
    refine g_callS 16 3 rfl kX12_78 dX12_fits_13 ⟨rfl, rfl⟩ om_within rfl rfl rfl (fun r M1 hq => ?_)
    obtain ⟨rfl, ⟨rfl, hw⟩ | ⟨rfl, hw⟩⟩ := hq
    try simp only [rV, Option.toList, List.cons_append, List.nil_append]
    · refine g_ifne 22 19 rfl dX12_fits_16 (by decide) (fun _ => ?_) (fun h => absurd h (by decide))
      refine g_iconst 23 rfl (v := 0) dX12_fits_22 (by decide) ?_
      refine g_istore3 24 rfl dX12_fits_23 rfl rfl ?_
      refine g_iconst 25 rfl (v := 1) dX12_fits_24 (by decide) ?_
      refine g_istore4 27 rfl dX12_fits_25 rfl rfl ?_
      refine loop_up (P := fun b => Go GM l mX12_fits 27 [.ref 0, .int o, .int w, .int (nI (choN (gZ g) (gM g) o b)), .int (nI (b + 1)), .null, .null] [] (pM N x) (qM (fFits g o w))) (2 ^ gM g - 1) ?_ ?_ 0 (Nat.zero_le _)
      · have hc := choN_le (z := gZ g) (m := gM g) (hole := o) (2 ^ gM g - 1)
        rw [show 2 ^ gM g - 1 + 1 = 2 ^ gM g by omega]
        refine g_iload4 29 rfl dX12_fits_27 ?_
        refine g_iconst 30 rfl (v := 1) dX12_fits_29 (by decide) ?_
        refine g_aload0 31 rfl dX12_fits_30 ?_
        refine g_getI 34 rfl fX12_287 (by first | rfl | exact st_o hb | exact st_1 hb | exact st_2 hb | exact st_3 hb | exact st_4 hb | exact st_5 hb | exact st_o hb2 | exact st_1 hb2 | exact st_2 hb2 | exact st_3 hb2 | exact st_4 hb2 | exact st_5 hb2) rfl dX12_fits_31 ?_
        try simp only [pM_0, e12]
        refine g_ishl 35 rfl dX12_fits_34 ?_
        rw [one_shl _ h10]
        refine g_cmpge 109 38 rfl dX12_fits_35 (by decide) (fun _ => ?_) (fun h => absurd (Int32.le_refl _) h)
        refine g_iload2 110 rfl dX12_fits_109 ?_
        refine g_ifne 117 113 rfl dX12_fits_110 (by decide) (fun h110 => ?_) (fun h110 => ?_)
        · refine g_aload0 118 rfl dX12_fits_117 ?_
          refine g_iload3 119 rfl dX12_fits_118 ?_
          refine g_callVi 122 1 rfl kX12_290 (by first | rfl | exact st_o hb | exact st_1 hb | exact st_2 hb | exact st_3 hb | exact st_4 hb | exact st_5 hb | exact st_o hb2 | exact st_1 hb2 | exact st_2 hb2 | exact st_3 hb2 | exact st_4 hb2 | exact st_5 hb2) dX12_fits_119 ⟨rfl, rfl⟩ (om_wide hr (by omega)) rfl rfl rfl ?_
          refine g_iret rfl dX12_fits_122 ?_
          exact ⟨by rw [fFits, ifC_t ⟨ho, hw⟩, ifC_f h110], hm⟩
        · refine g_iload3 114 rfl dX12_fits_113 ?_
          refine g_goto 122 dX12_fits_114 (by decide) ?_
          refine g_iret rfl dX12_fits_122 ?_
          exact ⟨by rw [fFits, ifC_t ⟨ho, hw⟩, ifC_t h110], hm⟩
      · intro b hb ih
        have hc := choN_le (z := gZ g) (m := gM g) (hole := o) b
        rw [choN] at ih
        generalize choN (gZ g) (gM g) o b = c at hc ih ⊢
        obtain ⟨i1, q1, w1⟩ := wid_nn (z := gZ g) (b := b + 1) (gM g) hI.2.2.2
        obtain ⟨i2, q2, w2⟩ := wid_nn (z := gZ g) (b := c) (gM g) hI.2.2.2
        have p1 := pcn_le (b + 1) (by omega)
        have p2 := pcn_le c (by omega)
        have off := pk_sub_toInt (a := i1) (b := i2) (by omega) (by omega)
        have hbt : betr (gZ g) (gM g) (b + 1) c ↔ (i2 < i1 ∨ (i1 = i2 ∧ pcn (b + 1) < pcn c)) := by
          unfold betr
          rw [w1, w2, nI_ltI (by omega) (by omega), nI_eq (by omega) (by omega)]
        refine g_iload4 29 rfl dX12_fits_27 ?_
        refine g_iconst 30 rfl (v := 1) dX12_fits_29 (by decide) ?_
        refine g_aload0 31 rfl dX12_fits_30 ?_
        refine g_getI 34 rfl fX12_287 (by first | rfl | exact st_o hb | exact st_1 hb | exact st_2 hb | exact st_3 hb | exact st_4 hb | exact st_5 hb | exact st_o hb2 | exact st_1 hb2 | exact st_2 hb2 | exact st_3 hb2 | exact st_4 hb2 | exact st_5 hb2) rfl dX12_fits_31 ?_
        try simp only [pM_0, e12]
        refine g_ishl 35 rfl dX12_fits_34 ?_
        rw [one_shl _ h10]
        refine g_cmpge 109 38 rfl dX12_fits_35 (by decide) (fun h => absurd h (nI_ge (show b + 1 < 2 ^ gM g by omega) (by omega))) (fun _ => ?_)
        refine g_aload0 39 rfl dX12_fits_38 ?_
        refine g_iload4 41 rfl dX12_fits_39 ?_
        refine g_callVi 44 1 rfl kX12_290 (by first | rfl | exact st_o hb | exact st_1 hb | exact st_2 hb | exact st_3 hb | exact st_4 hb | exact st_5 hb | exact st_o hb2 | exact st_1 hb2 | exact st_2 hb2 | exact st_3 hb2 | exact st_4 hb2 | exact st_5 hb2) dX12_fits_41 ⟨rfl, rfl⟩ (om_wide hr (by omega)) rfl rfl rfl ?_
        refine g_aload0 45 rfl dX12_fits_44 ?_
        refine g_iload3 46 rfl dX12_fits_45 ?_
        refine g_callVi 49 1 rfl kX12_290 (by first | rfl | exact st_o hb | exact st_1 hb | exact st_2 hb | exact st_3 hb | exact st_4 hb | exact st_5 hb | exact st_o hb2 | exact st_1 hb2 | exact st_2 hb2 | exact st_3 hb2 | exact st_4 hb2 | exact st_5 hb2) dX12_fits_46 ⟨rfl, rfl⟩ (om_wide hr (by omega)) rfl rfl rfl ?_
        refine g_isub 50 rfl dX12_fits_49 ?_
        refine g_istore5 52 rfl dX12_fits_50 rfl rfl ?_
        rw [w1, w2]
        have no : ¬ betr (gZ g) (gM g) (b + 1) c → Go GM l mX12_fits 78 [.ref 0, .int o, .int w, .int (nI c), .int (nI (b + 1)), .int (nI i1 - nI i2), .null] [] (pM N x) (qM (fFits g o w)) := by
          intro hn
          rw [if_neg (fun z => hn z.2)] at ih
          refine g_iconst 79 rfl (v := 0) dX12_fits_78 (by decide) ?_
          refine g_istore6 81 rfl dX12_fits_79 rfl rfl ?_
          refine g_iload6 83 rfl dX12_fits_81 ?_
          refine g_ifeq 101 86 rfl dX12_fits_83 (by decide) (fun _ => ?_) (fun h => absurd rfl h)
          refine g_iload3 102 rfl dX12_fits_101 ?_
          refine g_istore3 103 rfl dX12_fits_102 rfl rfl ?_
          refine g_iinc4 106 rfl dX12_fits_103 rfl rfl _ (by first | exact iinc1 _ | exact iincx _ | rfl) ?_
          refine g_goto 27 dX12_fits_106 (by decide) ?_
          refine g_fg 5 ?_
          refine g_fg 6 ?_
          exact ih
        have yes : betr (gZ g) (gM g) (b + 1) c → Go GM l mX12_fits 74 [.ref 0, .int o, .int w, .int (nI c), .int (nI (b + 1)), .int (nI i1 - nI i2), .null] [] (pM N x) (qM (fFits g o w)) := by
          intro hn
          refine g_iconst 75 rfl (v := 1) dX12_fits_74 (by decide) ?_
          refine g_goto 79 dX12_fits_75 (by decide) ?_
          refine g_istore6 81 rfl dX12_fits_79 rfl rfl ?_
          refine g_iload6 83 rfl dX12_fits_81 ?_
          refine g_ifeq 101 86 rfl dX12_fits_83 (by decide) (fun h => absurd h (by decide)) (fun _ => ?_)
          refine g_aload0 87 rfl dX12_fits_86 ?_
          refine g_iload4 89 rfl dX12_fits_87 ?_
          refine g_callVi 92 1 rfl kX12_290 (by first | rfl | exact st_o hb | exact st_1 hb | exact st_2 hb | exact st_3 hb | exact st_4 hb | exact st_5 hb | exact st_o hb2 | exact st_1 hb2 | exact st_2 hb2 | exact st_3 hb2 | exact st_4 hb2 | exact st_5 hb2) dX12_fits_89 ⟨rfl, rfl⟩ (om_wide hr (by omega)) rfl rfl rfl ?_
          refine g_iload1 93 rfl dX12_fits_92 ?_
          refine g_cmpgt 101 96 rfl dX12_fits_93 (by decide) (fun h93 => ?_) (fun h93 => ?_)
          · rw [if_neg (fun z => absurd h93 (Int32.not_lt.mpr z.1))] at ih
            refine g_iload3 102 rfl dX12_fits_101 ?_
            refine g_istore3 103 rfl dX12_fits_102 rfl rfl ?_
            refine g_iinc4 106 rfl dX12_fits_103 rfl rfl _ (by first | exact iinc1 _ | exact iincx _ | rfl) ?_
            refine g_goto 27 dX12_fits_106 (by decide) ?_
            refine g_fg 5 ?_
            refine g_fg 6 ?_
            exact ih
          · rw [if_pos ⟨Int32.not_lt.mp h93, hn⟩] at ih
            refine g_iload4 98 rfl dX12_fits_96 ?_
            refine g_goto 102 dX12_fits_98 (by decide) ?_
            refine g_istore3 103 rfl dX12_fits_102 rfl rfl ?_
            refine g_iinc4 106 rfl dX12_fits_103 rfl rfl _ (by first | exact iinc1 _ | exact iincx _ | rfl) ?_
            refine g_goto 27 dX12_fits_106 (by decide) ?_
            refine g_fg 5 ?_
            refine g_fg 6 ?_
            exact ih
        refine g_iload5 54 rfl dX12_fits_52 ?_
        refine g_ifgt 74 57 rfl dX12_fits_54 (by decide) (fun h54 => ?_) (fun h54 => ?_)
        · rw [Int32.lt_iff_toInt_lt, off, tI0] at h54
          exact yes (hbt.mpr (Or.inl (by omega)))
        · rw [Int32.lt_iff_toInt_lt, off, tI0] at h54
          refine g_iload5 59 rfl dX12_fits_57 ?_
          refine g_ifne 78 62 rfl dX12_fits_59 (by decide) (fun h59 => ?_) (fun h59 => ?_)
          · have : i1 ≠ i2 := fun z => h59 (by rw [z, Int32.sub_self])
            exact no (fun z => by rcases hbt.mp z with z | z <;> omega)
          · have : i1 = i2 := by
              have := congrArg Int32.toInt h59
              rw [off, tI0] at this
              omega
            refine g_iload4 64 rfl dX12_fits_62 ?_
            refine g_callSi 67 1 rfl kX12_284 dX12_fits_64 ⟨rfl, rfl⟩ (om_ones (by omega)) rfl rfl rfl ?_
            refine g_iload3 68 rfl dX12_fits_67 ?_
            refine g_callSi 71 1 rfl kX12_284 dX12_fits_68 ⟨rfl, rfl⟩ (om_ones (by omega)) rfl rfl rfl ?_
            refine g_cmpge 78 74 rfl dX12_fits_71 (by decide) (fun h71 => ?_) (fun h71 => ?_)
            · have := (nI_leI (by omega) (by omega)).mp h71
              exact no (fun z => by rcases hbt.mp z with z | z <;> omega)
            · have := Nat.lt_of_not_le (fun z => h71 ((nI_leI (by omega) (by omega)).mpr z))
              exact yes (hbt.mpr (Or.inr ⟨by omega, this⟩))
    · refine g_ifne 22 19 rfl dX12_fits_16 (by decide) (fun h => absurd rfl h) (fun _ => ?_)
      exact bad (fun z => hw z.2)
  · refine g_ifeq 19 10 rfl dX12_fits_7 (by decide) (fun _ => ?_) (fun h => absurd rfl h)
    exact bad (fun z => ho z.1)
theorem om_steps {l : Launch} {M : Mm} {R W v : Nat} (hm : Mod M R W) (hW : 0 < W) (hv : 0 < v) (hv2 : v < 100) : Oi GM l mX12_steps [.ref 0, .int (nI v)] M (nI (stpS W v)) M := by
  have e1 := hm.2.2
  have hb := hm.b
  refine ok_of (by decide +kernel) rfl rfl ?_
  refine g_aload0 1 rfl dX12_steps_0 ?_
  refine g_getI 4 rfl fX12_128 (by first | rfl | exact st_o hb | exact st_1 hb | exact st_2 hb | exact st_3 hb | exact st_4 hb | exact st_5 hb | exact st_o hb2 | exact st_1 hb2 | exact st_2 hb2 | exact st_3 hb2 | exact st_4 hb2 | exact st_5 hb2) rfl dX12_steps_1 ?_
  try simp only [e1]
  refine g_iconst 5 rfl (v := 1) dX12_steps_4 (by decide) ?_
  refine g_isub 6 rfl dX12_steps_5 ?_
  rw [show (1 : Int32) = nI 1 from rfl, pk_sub hW]
  refine g_iload1 7 rfl dX12_steps_6 ?_
  refine g_idiv 8 rfl dX12_steps_7 (nI_ne0 hv (by omega)) ?_
  refine g_iret rfl dX12_steps_8 ?_
  exact ⟨by rw [pk_div (by omega) hv (by omega)]; rfl, rfl⟩
theorem abs_b {a b : Int32} (ha : -100000000 ≤ a.toInt ∧ a.toInt ≤ 100000000) (hb : -100000000 ≤ b.toInt ∧ b.toInt ≤ 100000000) : (if 0 ≤ b - a then b - a else -(b - a)) = absI (a - b) ∧ 0 ≤ (absI (a - b)).toInt ∧ (absI (a - b)).toInt ≤ 200000000 := by
  have e1 := tI_sub (a := a) (b := b) (by omega) (by omega)
  have e2 := tI_sub (a := b) (b := a) (by omega) (by omega)
  have neg : ∀ z w : Int32, -(z - w) = w - z := fun z w => Int32.neg_sub
  unfold absI
  rw [Int32.zero_sub, neg, neg]
  simp only [Int32.le_iff_toInt_le, e1, e2, tI0]
  by_cases h : 0 ≤ a.toInt - b.toInt
  · rw [if_pos h, e1]
    by_cases h2 : 0 ≤ b.toInt - a.toInt
    · have : a = b := Int32.toInt_inj.mp (by omega)
      subst this
      rw [if_pos h2]
      exact ⟨rfl, by omega, by omega⟩
    · rw [if_neg h2]
      exact ⟨rfl, by omega, by omega⟩
  · rw [if_neg h, if_pos (by omega), e2]
    exact ⟨rfl, by omega, by omega⟩
theorem jol_b {R W r v b : Nat} {x : Sx} (hB : HB b (R * W) x) (hb : b < 40000000) (hr : r < R) (hW : 0 < W) (hW6 : W ≤ 6) : ∀ i, i ≤ (W - 1) / v → 0 ≤ (jolN (sH x) W r v i).toInt ∧ (jolN (sH x) W r v i).toInt ≤ 80000000 * i
  | 0, _ => by rw [jolN, tI0]; omega
  | i + 1, hi => by
    have hm : i * v + v ≤ W - 1 := by
      have h1 : (i + 1) * v ≤ (W - 1) / v * v := Nat.mul_le_mul_right v hi
      have h2 : (W - 1) / v * v ≤ W - 1 := Nat.div_mul_le_self _ _
      rw [Nat.add_mul, Nat.one_mul] at h1
      omega
    have hi5 : i + 1 ≤ 5 := Nat.le_trans hi (Nat.le_trans (Nat.div_le_self _ _) (by omega))
    obtain ⟨a1, a2⟩ := jol_b (v := v) hB hb hr hW hW6 i (by omega)
    have b1 := hB _ (rc_lt hr (show i * v < W by omega))
    have b2 := hB _ (rc_lt hr (show i * v + v < W by omega))
    have c1 : 0 ≤ (absI (sH x (r * W + i * v) - sH x (r * W + (i * v + v)))).toInt ∧ (absI (sH x (r * W + i * v) - sH x (r * W + (i * v + v)))).toInt ≤ 80000000 := by
      have e1 := tI_sub (a := sH x (r * W + i * v)) (b := sH x (r * W + (i * v + v))) (by omega) (by omega)
      unfold absI
      split
      · rename_i h
        rw [Int32.le_iff_toInt_le, e1, tI0] at h
        rw [e1]; omega
      · rename_i h
        rw [Int32.le_iff_toInt_le, e1, tI0] at h
        rw [tI_sub (by rw [tI0, e1]; omega) (by rw [tI0, e1]; omega), tI0, e1]; omega
    rw [jolN, tI_add (by omega) (by omega)]
    omega
theorem om_shaken {l : Launch} {N : Mm} {R W r v b : Nat} {x : Sx} (hm : Mod N R W) (hB : HB b (R * W) x) (hb : b < 40000000) (hr : r < R) (hW : 0 < W) (hv : 0 < v) (hv2 : v < 100) : Oi GM l mX12_shaken [.ref 0, .int (nI r), .int (nI v)] (pM N x) (jolN (sH x) W r v (stpS W v)) (pM N x) := by
  have hbb := hm.b
  have h30 := hm.le
  have hm2 := pM_mod (x := x) hm
  have e1 := hm2.2.2
  refine ok_of (by decide +kernel) rfl rfl ?_
  refine g_iconst 1 rfl (v := 0) dX12_shaken_0 (by decide) ?_
  refine g_istore3 2 rfl dX12_shaken_1 rfl rfl ?_
  refine g_iconst 3 rfl (v := 0) dX12_shaken_2 (by decide) ?_
  refine g_istore4 5 rfl dX12_shaken_3 rfl rfl ?_
  refine loop_up (P := fun i => Go GM l mX12_shaken 5 [.ref 0, .int (nI r), .int (nI v), .int (jolN (sH x) W r v i), .int (nI i), .null] [] (pM N x) _) (stpS W v) ?_ ?_ 0 (by omega)
  · refine g_iload4 7 rfl dX12_shaken_5 ?_
    refine g_aload0 8 rfl dX12_shaken_7 ?_
    refine g_iload2 9 rfl dX12_shaken_8 ?_
    refine g_callVi 12 1 rfl kX12_293 (by first | rfl | exact st_o hb | exact st_1 hb | exact st_2 hb | exact st_3 hb | exact st_4 hb | exact st_5 hb | exact st_o hb2 | exact st_1 hb2 | exact st_2 hb2 | exact st_3 hb2 | exact st_4 hb2 | exact st_5 hb2) dX12_shaken_9 ⟨rfl, rfl⟩ (om_steps hm2 hW hv hv2) rfl rfl rfl ?_
    refine g_cmpge 74 15 rfl dX12_shaken_12 (by decide) (fun h12 => ?_) (fun h => absurd (Int32.le_refl _) h)
    refine g_iload3 75 rfl dX12_shaken_74 ?_
    refine g_iret rfl dX12_shaken_75 ?_
    exact ⟨rfl, rfl⟩
  · intro i hi ih
    have hd : stpS W v ≤ 5 := Nat.le_trans (Nat.div_le_self _ _) (by omega)
    have hmm : i * v + v ≤ W - 1 := by
      have h1 : (i + 1) * v ≤ (W - 1) / v * v := Nat.mul_le_mul_right v hi
      have h2 : (W - 1) / v * v ≤ W - 1 := Nat.div_mul_le_self _ _
      rw [Nat.add_mul, Nat.one_mul] at h1
      omega
    have l1 := rc_lt hr (show i * v < W by omega)
    have l2 := rc_lt hr (show i * v + v < W by omega)
    have b1 := hB _ l1
    have b2 := hB _ l2
    obtain ⟨ab, -, -⟩ := abs_b (a := sH x (r * W + i * v)) (b := sH x (r * W + (i * v + v))) (by omega) (by omega)
    rw [jolN, ← ab] at ih
    refine g_iload4 7 rfl dX12_shaken_5 ?_
    refine g_aload0 8 rfl dX12_shaken_7 ?_
    refine g_iload2 9 rfl dX12_shaken_8 ?_
    refine g_callVi 12 1 rfl kX12_293 (by first | rfl | exact st_o hb | exact st_1 hb | exact st_2 hb | exact st_3 hb | exact st_4 hb | exact st_5 hb | exact st_o hb2 | exact st_1 hb2 | exact st_2 hb2 | exact st_3 hb2 | exact st_4 hb2 | exact st_5 hb2) dX12_shaken_9 ⟨rfl, rfl⟩ (om_steps hm2 hW hv hv2) rfl rfl rfl ?_
    refine g_cmpge 74 15 rfl dX12_shaken_12 (by decide) (fun h => absurd h (nI_ge hi (by omega))) (fun _ => ?_)
    refine g_aload0 16 rfl dX12_shaken_15 ?_
    refine g_getR 19 rfl fX12_16 (by first | rfl | exact st_o hb | exact st_1 hb | exact st_2 hb | exact st_3 hb | exact st_4 hb | exact st_5 hb | exact st_o hb2 | exact st_1 hb2 | exact st_2 hb2 | exact st_3 hb2 | exact st_4 hb2 | exact st_5 hb2) rfl dX12_shaken_16 ?_
    refine g_iload1 20 rfl dX12_shaken_19 ?_
    refine g_aload0 21 rfl dX12_shaken_20 ?_
    refine g_getI 24 rfl fX12_128 (by first | rfl | exact st_o hb | exact st_1 hb | exact st_2 hb | exact st_3 hb | exact st_4 hb | exact st_5 hb | exact st_o hb2 | exact st_1 hb2 | exact st_2 hb2 | exact st_3 hb2 | exact st_4 hb2 | exact st_5 hb2) rfl dX12_shaken_21 ?_
    try simp only [pM_3, e1]
    refine g_imul 25 rfl dX12_shaken_24 ?_
    refine g_iload4 27 rfl dX12_shaken_25 ?_
    refine g_iconst 28 rfl (v := 1) dX12_shaken_27 (by decide) ?_
    refine g_iadd 29 rfl dX12_shaken_28 ?_
    refine g_iload2 30 rfl dX12_shaken_29 ?_
    refine g_imul 31 rfl dX12_shaken_30 ?_
    refine g_iadd 32 rfl dX12_shaken_31 ?_
    rw [pk_mul, nI_1, pk_mul, nI_add, Nat.add_mul, Nat.one_mul]
    refine g_iald 33 rfl dX12_shaken_32 (by first | rfl | exact st_o hb | exact st_1 hb | exact st_2 hb | exact st_3 hb | exact st_4 hb | exact st_5 hb | exact st_o hb2 | exact st_1 hb2 | exact st_2 hb2 | exact st_3 hb2 | exact st_4 hb2 | exact st_5 hb2) rfl rfl (by first | assumption | omega) ?_
    try simp only [pM_3, e1]
    refine g_aload0 34 rfl dX12_shaken_33 ?_
    refine g_getR 37 rfl fX12_16 (by first | rfl | exact st_o hb | exact st_1 hb | exact st_2 hb | exact st_3 hb | exact st_4 hb | exact st_5 hb | exact st_o hb2 | exact st_1 hb2 | exact st_2 hb2 | exact st_3 hb2 | exact st_4 hb2 | exact st_5 hb2) rfl dX12_shaken_34 ?_
    refine g_iload1 38 rfl dX12_shaken_37 ?_
    refine g_aload0 39 rfl dX12_shaken_38 ?_
    refine g_getI 42 rfl fX12_128 (by first | rfl | exact st_o hb | exact st_1 hb | exact st_2 hb | exact st_3 hb | exact st_4 hb | exact st_5 hb | exact st_o hb2 | exact st_1 hb2 | exact st_2 hb2 | exact st_3 hb2 | exact st_4 hb2 | exact st_5 hb2) rfl dX12_shaken_39 ?_
    try simp only [pM_3, e1]
    refine g_imul 43 rfl dX12_shaken_42 ?_
    refine g_iload4 45 rfl dX12_shaken_43 ?_
    refine g_iload2 46 rfl dX12_shaken_45 ?_
    refine g_imul 47 rfl dX12_shaken_46 ?_
    refine g_iadd 48 rfl dX12_shaken_47 ?_
    rw [pk_mul, pk_mul, nI_add]
    refine g_iald 49 rfl dX12_shaken_48 (by first | rfl | exact st_o hb | exact st_1 hb | exact st_2 hb | exact st_3 hb | exact st_4 hb | exact st_5 hb | exact st_o hb2 | exact st_1 hb2 | exact st_2 hb2 | exact st_3 hb2 | exact st_4 hb2 | exact st_5 hb2) rfl rfl (by first | assumption | omega) ?_
    try simp only [pM_3, e1]
    refine g_isub 50 rfl dX12_shaken_49 ?_
    refine g_istore5 52 rfl dX12_shaken_50 rfl rfl ?_
    refine g_iload3 53 rfl dX12_shaken_52 ?_
    refine g_iload5 55 rfl dX12_shaken_53 ?_
    refine g_ifge 64 58 rfl dX12_shaken_55 (by decide) (fun h55 => ?_) (fun h55 => ?_)
    · rw [if_pos h55] at ih
      refine g_iload5 66 rfl dX12_shaken_64 ?_
      refine g_iadd 67 rfl dX12_shaken_66 ?_
      refine g_istore3 68 rfl dX12_shaken_67 rfl rfl ?_
      refine g_iinc4 71 rfl dX12_shaken_68 rfl rfl _ (by first | exact iinc1 _ | exact iincx _ | rfl) ?_
      refine g_goto 5 dX12_shaken_71 (by decide) ?_
      refine g_fg 5 ?_
      exact ih
    · rw [if_neg h55] at ih
      refine g_iload5 60 rfl dX12_shaken_58 ?_
      refine g_ineg 61 rfl dX12_shaken_60 ?_
      refine g_goto 66 dX12_shaken_61 (by decide) ?_
      refine g_iadd 67 rfl dX12_shaken_66 ?_
      refine g_istore3 68 rfl dX12_shaken_67 rfl rfl ?_
      refine g_iinc4 71 rfl dX12_shaken_68 rfl rfl _ (by first | exact iinc1 _ | exact iincx _ | rfl) ?_
      refine g_goto 5 dX12_shaken_71 (by decide) ?_
      refine g_fg 5 ?_
      exact ih
theorem cd_0 {d : Nat} {a : Int32} : cdF (d + 1) a (nI 0) = a := by rw [cdF, if_pos (show nI 0 = 0 from rfl)]
theorem om_lowest {l : Launch} {M : Mm} {j s : Nat} {q : Int32} (hj : j < 2 ^ 31) (hs0 : 0 < s) (hs : s < 60) : Oi GM l mX12_lowest [.int (nI j), .int (nI s), .int q] M (if q = 0 then nI j / cdF 64 (nI j) (nI s) else nI s / cdF 64 (nI j) (nI s)) M ∧ ∃ k, 0 < k ∧ k < 2 ^ 31 ∧ cdF 64 (nI j) (nI s) = nI k := by
  have ex : ∀ n d k, k ≤ n → n < d → ∀ j, j < 2 ^ 31 → k < 2 ^ 31 → (0 < j ∨ 0 < k) → ∃ z, 0 < z ∧ z < 2 ^ 31 ∧ cdF d (nI j) (nI k) = nI z := by
    intro n
    induction n with
    | zero =>
      intro d k hk hd j hj _ h0
      have : k = 0 := by omega
      subst this
      obtain ⟨e, rfl⟩ : ∃ e, d = e + 1 := ⟨d - 1, by omega⟩
      exact ⟨j, by omega, hj, cd_0⟩
    | succ n ih =>
      intro d k hk hd j hj hk2 h0
      obtain ⟨e, rfl⟩ : ∃ e, d = e + 1 := ⟨d - 1, by omega⟩
      rcases Nat.eq_zero_or_pos k with rfl | hk0
      · exact ⟨j, by omega, hj, cd_0⟩
      · have hm : j % k < k := Nat.mod_lt _ hk0
        rw [cdF, if_neg (nI_ne0 hk0 hk2), pk_rem hj hk0 hk2]
        exact ih e (j % k) (by omega) (by omega) k hk2 (by omega) (Or.inl hk0)
  obtain ⟨z, hz0, hz, ez⟩ := ex s 64 s (Nat.le_refl _) (by omega) j hj (by omega) (Or.inr hs0)
  refine ⟨?_, z, hz0, hz, ez⟩
  refine ok_of (by decide +kernel) rfl rfl ?_
  have hne : ¬ nI z = 0 := nI_ne0 hz0 hz
  rw [ez]
  refine g_iload0 1 rfl dX12_lowest_0 ?_
  refine g_istore3 2 rfl dX12_lowest_1 rfl rfl ?_
  refine g_iload1 3 rfl dX12_lowest_2 ?_
  refine g_istore4 5 rfl dX12_lowest_3 rfl rfl ?_
  have key : ∀ n d k, k ≤ n → n < d → ∀ a, a < 2 ^ 31 → k < 2 ^ 31 → cdF d (nI a) (nI k) = nI z → Go GM l mX12_lowest 5 [.int (nI j), .int (nI s), .int q, .int (nI a), .int (nI k), .null] [] M (fun r M1 => r = some (.inl (if q = 0 then nI j / nI z else nI s / nI z)) ∧ M1 = M) := by
    have fin : ∀ a, nI a = nI z → Go GM l mX12_lowest 5 [.int (nI j), .int (nI s), .int q, .int (nI a), .int (nI 0), .null] [] M (fun r M1 => r = some (.inl (if q = 0 then nI j / nI z else nI s / nI z)) ∧ M1 = M) := by
      intro a ha
      rw [ha]
      refine g_iload4 7 rfl dX12_lowest_5 ?_
      refine g_ifeq 26 10 rfl dX12_lowest_7 (by decide) (fun _ => ?_) (fun h => absurd rfl h)
      refine g_iload2 27 rfl dX12_lowest_26 ?_
      refine g_ifne 36 30 rfl dX12_lowest_27 (by decide) (fun h27 => ?_) (fun h27 => ?_)
      · refine g_iload1 37 rfl dX12_lowest_36 ?_
        refine g_iload3 38 rfl dX12_lowest_37 ?_
        refine g_idiv 39 rfl dX12_lowest_38 hne ?_
        refine g_iret rfl dX12_lowest_39 ?_
        exact ⟨by rw [if_neg h27], rfl⟩
      · refine g_iload0 31 rfl dX12_lowest_30 ?_
        refine g_iload3 32 rfl dX12_lowest_31 ?_
        refine g_idiv 33 rfl dX12_lowest_32 hne ?_
        refine g_goto 39 dX12_lowest_33 (by decide) ?_
        refine g_iret rfl dX12_lowest_39 ?_
        exact ⟨by rw [if_pos h27], rfl⟩
    intro n
    induction n with
    | zero =>
      intro d k hk hd a ha _ e
      have : k = 0 := by omega
      subst this
      obtain ⟨d, rfl⟩ : ∃ e, d = e + 1 := ⟨d - 1, by omega⟩
      rw [cd_0] at e
      exact fin a e
    | succ n ih =>
      intro d k hk hd a ha hk2 e
      obtain ⟨d, rfl⟩ : ∃ e, d = e + 1 := ⟨d - 1, by omega⟩
      rcases Nat.eq_zero_or_pos k with rfl | hk0
      · rw [cd_0] at e
        exact fin a e
      · have hm : a % k < k := Nat.mod_lt _ hk0
        rw [cdF, if_neg (nI_ne0 hk0 hk2), pk_rem ha hk0 hk2] at e
        refine g_iload4 7 rfl dX12_lowest_5 ?_
        refine g_ifeq 26 10 rfl dX12_lowest_7 (by decide) (fun h => absurd h (nI_ne0 hk0 hk2)) (fun _ => ?_)
        refine g_iload3 11 rfl dX12_lowest_10 ?_
        refine g_iload4 13 rfl dX12_lowest_11 ?_
        refine g_irem 14 rfl dX12_lowest_13 (nI_ne0 hk0 hk2) ?_
        rw [pk_rem ha hk0 hk2]
        refine g_istore5 16 rfl dX12_lowest_14 rfl rfl ?_
        refine g_iload4 18 rfl dX12_lowest_16 ?_
        refine g_istore3 19 rfl dX12_lowest_18 rfl rfl ?_
        refine g_iload5 21 rfl dX12_lowest_19 ?_
        refine g_istore4 23 rfl dX12_lowest_21 rfl rfl ?_
        refine g_goto 5 dX12_lowest_23 (by decide) ?_
        refine g_fg 5 ?_
        exact ih d (a % k) (by omega) (by omega) k hk2 (by omega) e
  exact key s 64 s (Nat.le_refl _) (by omega) j hj (by omega) ez
