/-! the reference's years: parts -/
theorem tI_sub {a b : Int32} (h : -2147483648 ≤ a.toInt - b.toInt) (h2 : a.toInt - b.toInt ≤ 2147483647) : (a - b).toInt = a.toInt - b.toInt := by
  rw [Int32.toInt_sub]
  exact Int.bmod_eq_of_le (by omega) (by omega)
theorem tI_add {a b : Int32} (h : -2147483648 ≤ a.toInt + b.toInt) (h2 : a.toInt + b.toInt ≤ 2147483647) : (a + b).toInt = a.toInt + b.toInt := by
  rw [Int32.toInt_add]
  exact Int.bmod_eq_of_le (by omega) (by omega)
theorem tI_mul {a b : Int32} (h : -2147483648 ≤ a.toInt * b.toInt) (h2 : a.toInt * b.toInt ≤ 2147483647) : (a * b).toInt = a.toInt * b.toInt := by
  rw [Int32.toInt_mul]
  exact Int.bmod_eq_of_le (by omega) (by omega)
theorem mask_l (z : Int64) : ∃ k : Nat, k < 2147483648 ∧ z &&& 2147483647 = Int64.ofNat k := by
  refine ⟨(z &&& 2147483647).toBitVec.toNat, ?_, ?_⟩
  · rw [Int64.toBitVec_and, BitVec.toNat_and]
    have : (Int64.toBitVec 2147483647).toNat = 2147483647 := by decide
    rw [this]
    have := @Nat.and_le_right z.toBitVec.toNat 2147483647
    omega
  · rw [← Int64.toBitVec_inj]
    apply BitVec.eq_of_toNat_eq
    rw [show (Int64.ofNat (z &&& 2147483647).toBitVec.toNat).toBitVec = BitVec.ofNat 64 (z &&& 2147483647).toBitVec.toNat from rfl, BitVec.toNat_ofNat, Nat.mod_eq_of_lt (BitVec.isLt _)]
theorem oN_32 {k : Nat} (hk : k < 2147483648) : (Int64.ofNat k).toInt32 = nI k := by
  rw [← Int32.toBitVec_inj]
  apply BitVec.eq_of_toNat_eq
  show (BitVec.signExtend 32 (BitVec.ofNat 64 k)).toNat = (BitVec.ofNat 32 k).toNat
  rw [BitVec.signExtend_eq_setWidth_of_le _ (by decide)]
  simp
theorem oN_64 {k : Nat} (hk : k < 2147483648) : (nI k).toInt64 = Int64.ofNat k := by
  apply Int64.toInt_inj.mp
  rw [Int32.toInt_toInt64, nI_toInt (by omega), Int64.toInt_ofNat', show Int64.size = 18446744073709551616 from rfl]
  exact (Int.bmod_eq_of_le (by omega) (by omega)).symm
theorem dra_l (d : Int32) : (1103515245 * d.toInt64 + 12345) &&& 2147483647 = (draD d).toInt64 := by
  obtain ⟨k, hk, e⟩ := mask_l (1103515245 * d.toInt64 + 12345)
  unfold draD
  rw [e, oN_32 hk, oN_64 hk]
theorem l_div {k d : Nat} (hk : k < 2147483648) (hd : 0 < d) (hd2 : d < 2147483648) : Int64.ofNat k / Int64.ofNat d = Int64.ofNat (k / d) := by
  have b : ∀ j : Nat, j < 2147483648 → (Int64.ofNat j).toInt = (j : Int) := fun j hj => by
    rw [Int64.toInt_ofNat', show Int64.size = 18446744073709551616 from rfl]
    exact Int.bmod_eq_of_le (by omega) (by omega)
  have hq : k / d ≤ k := Nat.div_le_self _ _
  apply Int64.toInt_inj.mp
  rw [Int64.toInt_div_of_ne_left, b k hk, b d hd2, b (k / d) (by omega)]
  · exact (Int.ofNat_tdiv k d).symm
  · intro z
    have := congrArg Int64.toInt z
    rw [b k hk] at this
    have e : Int64.minValue.toInt = -9223372036854775808 := by decide
    omega
theorem dra_v (d : Int32) : ((draD d).toInt64 / 65536 - (draD d).toInt64 / 65536 / 10 * 10).toInt32 = draV d := by
  obtain ⟨k, hk, e⟩ := mask_l (1103515245 * d.toInt64 + 12345)
  have ed : draD d = nI k := by unfold draD; rw [e, oN_32 hk]
  have e1 : (65536 : Int64) = Int64.ofNat 65536 := by decide
  have e2 : (10 : Int64) = Int64.ofNat 10 := by decide
  have hq : k / 65536 ≤ k := Nat.div_le_self _ _
  have hq2 : k / 65536 / 10 * 10 ≤ k / 65536 := Nat.div_mul_le_self _ _
  have hq3 : k / 65536 / 10 ≤ k / 65536 := Nat.div_le_self _ _
  have sub64 : ∀ a b : Nat, b ≤ a → Int64.ofNat a - Int64.ofNat b = Int64.ofNat (a - b) := fun a b h => (Int64.ofNat_sub _ _ h).symm
  have mul64 : ∀ a b : Nat, Int64.ofNat a * Int64.ofNat b = Int64.ofNat (a * b) := fun a b => (Int64.ofNat_mul ..).symm
  unfold draV
  rw [ed, oN_64 hk, e1, e2, l_div hk (by decide) (by decide), l_div (by omega) (by decide) (by decide), mul64, sub64 _ _ hq2, oN_32 (by omega), show (65536 : Int32) = nI 65536 from rfl, show (10 : Int32) = nI 10 from rfl, pk_div (by omega) (by decide) (by decide), pk_div (by omega) (by decide) (by decide), pk_mul, pk_sub hq2]
theorem om_draw {l : Launch} {M : Mm} {x : Sx} : Oi GM l mX12_draw [.ref 0] (pM M x) (draV (sD x)) (pM M (wD x (draD (sD x)))) := by
  refine ok_of (by decide +kernel) rfl rfl ?_
  refine g_aload0 1 rfl dX12_draw_0 ?_
  refine g_ldc2 4 rfl dX12_draw_1 cX12_224 ?_
  refine g_aload0 5 rfl dX12_draw_4 ?_
  refine g_getL 8 rfl fX12_25 (by first | rfl | exact st_o hb | exact st_1 hb | exact st_2 hb | exact st_3 hb | exact st_4 hb | exact st_5 hb | exact st_o hb2 | exact st_1 hb2 | exact st_2 hb2 | exact st_3 hb2 | exact st_4 hb2 | exact st_5 hb2) rfl dX12_draw_5 ?_
  try simp only [pM_8, dra_l, pM_w8]
  refine g_lmul 9 rfl dX12_draw_8 ?_
  refine g_ldc2 12 rfl dX12_draw_9 cX12_226 ?_
  refine g_ladd 13 rfl dX12_draw_12 ?_
  refine g_ldc2 16 rfl dX12_draw_13 cX12_228 ?_
  refine g_land 17 rfl dX12_draw_16 ?_
  rw [dra_l]
  refine g_putL 20 rfl fX12_25 (by first | rfl | exact st_o hb | exact st_1 hb | exact st_2 hb | exact st_3 hb | exact st_4 hb | exact st_5 hb | exact st_o hb2 | exact st_1 hb2 | exact st_2 hb2 | exact st_3 hb2 | exact st_4 hb2 | exact st_5 hb2) rfl dX12_draw_17 ?_
  try simp only [pM_8, dra_l, pM_w8]
  refine g_aload0 21 rfl dX12_draw_20 ?_
  refine g_getL 24 rfl fX12_25 (by first | rfl | exact st_o hb | exact st_1 hb | exact st_2 hb | exact st_3 hb | exact st_4 hb | exact st_5 hb | exact st_o hb2 | exact st_1 hb2 | exact st_2 hb2 | exact st_3 hb2 | exact st_4 hb2 | exact st_5 hb2) rfl dX12_draw_21 ?_
  try simp only [pM_8, dra_l, pM_w8]
  refine g_ldc2 27 rfl dX12_draw_24 cX12_230 ?_
  refine g_ldiv 28 rfl dX12_draw_27 (by decide) ?_
  refine g_ldc2 31 rfl dX12_draw_28 cX12_232 ?_
  refine g_lrem 32 rfl dX12_draw_31 (by decide) ?_
  refine g_l2i 33 rfl dX12_draw_32 ?_
  refine g_iret rfl dX12_draw_33 ?_
  exact ⟨by rw [show sD (wD x (draD (sD x))) = draD (sD x) from rfl, dra_v], rfl⟩
theorem pM_wC {M : Mm} {x : Sx} {d : Int32} : pM M (wC x d) = pM M x := rfl
theorem om_worsen {l : Launch} {M : Mm} {c : Nat} {x : Sx} (hc : c < 30) (hk : ¬ sK x c = -1) : Oi GM l mX12_worsen [.ref 0, .int (nI c)] (pM M x) (worV c x) (pM M (worS c x)) := by
  refine ok_of (by decide +kernel) rfl rfl ?_
  have z4 : sK x c = 4 → ((some (Sum.inl (0 : Int32)) : Rr) = some (.inl (worV c x)) ∧ pM M x = pM M (worS c x)) := fun z => by
    unfold worV worS; rw [if_pos (Or.inr z), if_pos (Or.inr z)]; exact ⟨rfl, rfl⟩
  have z01 : sK x c = 0 ∨ sK x c = 1 → ((some (Sum.inl (0 : Int32)) : Rr) = some (.inl (worV c x)) ∧ pM M (wS (wK x (upd (sK x) c 2)) (upd (sS x) c 0)) = pM M (worS c x)) := fun z => by
    have hn : ¬ (sK x c = -1 ∨ sK x c = 4) := fun q => by rcases z with z | z <;> rcases q with q | q <;> rw [z] at q <;> exact absurd q (by decide)
    unfold worV worS
    rw [if_neg hn, if_neg hn, if_pos z, if_pos z]
    exact ⟨rfl, rfl⟩
  have zz : ¬ sK x c = 0 → ¬ sK x c = 1 → ¬ sK x c = 4 → ((some (Sum.inl (1 : Int32)) : Rr) = some (.inl (worV c x)) ∧ pM M (wJ (wS (wH (wZ (wK x (upd (sK x) c (-1))) (upd (sZ x) c 0)) (upd (sH x) c (sH x c - 5))) (upd (sS x) c 0)) (upd (sJ x) c 0)) = pM M (worS c x)) := fun a b d => by
    have hn : ¬ (sK x c = -1 ∨ sK x c = 4) := fun q => q.elim hk d
    have hn2 : ¬ (sK x c = 0 ∨ sK x c = 1) := fun q => q.elim a b
    unfold worV worS
    rw [if_neg hn, if_neg hn, if_neg hn2, if_neg hn2]
    exact ⟨rfl, rfl⟩
  refine g_aload0 1 rfl dX12_worsen_0 ?_
  refine g_getR 4 rfl fX12_7 (by first | rfl | exact st_o hb | exact st_1 hb | exact st_2 hb | exact st_3 hb | exact st_4 hb | exact st_5 hb | exact st_o hb2 | exact st_1 hb2 | exact st_2 hb2 | exact st_3 hb2 | exact st_4 hb2 | exact st_5 hb2) rfl dX12_worsen_1 ?_
  refine g_iload1 5 rfl dX12_worsen_4 ?_
  refine g_iald 6 rfl dX12_worsen_5 (by first | rfl | exact st_o hb | exact st_1 hb | exact st_2 hb | exact st_3 hb | exact st_4 hb | exact st_5 hb | exact st_o hb2 | exact st_1 hb2 | exact st_2 hb2 | exact st_3 hb2 | exact st_4 hb2 | exact st_5 hb2) rfl rfl (by first | assumption | omega) ?_
  try simp only [pM_1, pM_2, pM_3, pM_4, pM_5, pM_w1, pM_w2, pM_w3, pM_w4, pM_w5]
  refine g_ifeq 19 9 rfl dX12_worsen_6 (by decide) (fun h6 => ?_) (fun h6 => ?_)
  · refine g_aload0 20 rfl dX12_worsen_19 ?_
    refine g_getR 23 rfl fX12_7 (by first | rfl | exact st_o hb | exact st_1 hb | exact st_2 hb | exact st_3 hb | exact st_4 hb | exact st_5 hb | exact st_o hb2 | exact st_1 hb2 | exact st_2 hb2 | exact st_3 hb2 | exact st_4 hb2 | exact st_5 hb2) rfl dX12_worsen_20 ?_
    refine g_iload1 24 rfl dX12_worsen_23 ?_
    refine g_iconst 25 rfl (v := 2) dX12_worsen_24 (by decide) ?_
    refine g_iast 26 rfl dX12_worsen_25 (by first | rfl | exact st_o hb | exact st_1 hb | exact st_2 hb | exact st_3 hb | exact st_4 hb | exact st_5 hb | exact st_o hb2 | exact st_1 hb2 | exact st_2 hb2 | exact st_3 hb2 | exact st_4 hb2 | exact st_5 hb2) rfl rfl (by first | assumption | omega) ?_
    try simp only [pM_1, pM_2, pM_3, pM_4, pM_5, pM_w1, pM_w2, pM_w3, pM_w4, pM_w5]
    refine g_aload0 27 rfl dX12_worsen_26 ?_
    refine g_getR 30 rfl fX12_19 (by first | rfl | exact st_o hb | exact st_1 hb | exact st_2 hb | exact st_3 hb | exact st_4 hb | exact st_5 hb | exact st_o hb2 | exact st_1 hb2 | exact st_2 hb2 | exact st_3 hb2 | exact st_4 hb2 | exact st_5 hb2) rfl dX12_worsen_27 ?_
    refine g_iload1 31 rfl dX12_worsen_30 ?_
    refine g_iconst 32 rfl (v := 0) dX12_worsen_31 (by decide) ?_
    refine g_iast 33 rfl dX12_worsen_32 (by first | rfl | exact st_o hb | exact st_1 hb | exact st_2 hb | exact st_3 hb | exact st_4 hb | exact st_5 hb | exact st_o hb2 | exact st_1 hb2 | exact st_2 hb2 | exact st_3 hb2 | exact st_4 hb2 | exact st_5 hb2) rfl rfl (by first | assumption | omega) ?_
    try simp only [pM_1, pM_2, pM_3, pM_4, pM_5, pM_w1, pM_w2, pM_w3, pM_w4, pM_w5]
    refine g_iconst 34 rfl (v := 0) dX12_worsen_33 (by decide) ?_
    refine g_zret rfl dX12_worsen_34 (by first | exact Or.inl rfl | exact Or.inr rfl | assumption) ?_
    first | exact z01 (Or.inl h6) | exact z01 (Or.inr h16) | exact z4 h42 | exact zz h6 h16 h42
  · refine g_aload0 10 rfl dX12_worsen_9 ?_
    refine g_getR 13 rfl fX12_7 (by first | rfl | exact st_o hb | exact st_1 hb | exact st_2 hb | exact st_3 hb | exact st_4 hb | exact st_5 hb | exact st_o hb2 | exact st_1 hb2 | exact st_2 hb2 | exact st_3 hb2 | exact st_4 hb2 | exact st_5 hb2) rfl dX12_worsen_10 ?_
    refine g_iload1 14 rfl dX12_worsen_13 ?_
    refine g_iald 15 rfl dX12_worsen_14 (by first | rfl | exact st_o hb | exact st_1 hb | exact st_2 hb | exact st_3 hb | exact st_4 hb | exact st_5 hb | exact st_o hb2 | exact st_1 hb2 | exact st_2 hb2 | exact st_3 hb2 | exact st_4 hb2 | exact st_5 hb2) rfl rfl (by first | assumption | omega) ?_
    try simp only [pM_1, pM_2, pM_3, pM_4, pM_5, pM_w1, pM_w2, pM_w3, pM_w4, pM_w5]
    refine g_iconst 16 rfl (v := 1) dX12_worsen_15 (by decide) ?_
    refine g_cmpne 35 19 rfl dX12_worsen_16 (by decide) (fun h16 => ?_) (fun h16 => ?_)
    · refine g_aload0 36 rfl dX12_worsen_35 ?_
      refine g_getR 39 rfl fX12_7 (by first | rfl | exact st_o hb | exact st_1 hb | exact st_2 hb | exact st_3 hb | exact st_4 hb | exact st_5 hb | exact st_o hb2 | exact st_1 hb2 | exact st_2 hb2 | exact st_3 hb2 | exact st_4 hb2 | exact st_5 hb2) rfl dX12_worsen_36 ?_
      refine g_iload1 40 rfl dX12_worsen_39 ?_
      refine g_iald 41 rfl dX12_worsen_40 (by first | rfl | exact st_o hb | exact st_1 hb | exact st_2 hb | exact st_3 hb | exact st_4 hb | exact st_5 hb | exact st_o hb2 | exact st_1 hb2 | exact st_2 hb2 | exact st_3 hb2 | exact st_4 hb2 | exact st_5 hb2) rfl rfl (by first | assumption | omega) ?_
      try simp only [pM_1, pM_2, pM_3, pM_4, pM_5, pM_w1, pM_w2, pM_w3, pM_w4, pM_w5]
      refine g_iconst 42 rfl (v := 4) dX12_worsen_41 (by decide) ?_
      refine g_cmpne 47 45 rfl dX12_worsen_42 (by decide) (fun h42 => ?_) (fun h42 => ?_)
      · refine g_aload0 48 rfl dX12_worsen_47 ?_
        refine g_getR 51 rfl fX12_7 (by first | rfl | exact st_o hb | exact st_1 hb | exact st_2 hb | exact st_3 hb | exact st_4 hb | exact st_5 hb | exact st_o hb2 | exact st_1 hb2 | exact st_2 hb2 | exact st_3 hb2 | exact st_4 hb2 | exact st_5 hb2) rfl dX12_worsen_48 ?_
        refine g_iload1 52 rfl dX12_worsen_51 ?_
        refine g_iconst 53 rfl (v := (-1)) dX12_worsen_52 (by decide) ?_
        refine g_iast 54 rfl dX12_worsen_53 (by first | rfl | exact st_o hb | exact st_1 hb | exact st_2 hb | exact st_3 hb | exact st_4 hb | exact st_5 hb | exact st_o hb2 | exact st_1 hb2 | exact st_2 hb2 | exact st_3 hb2 | exact st_4 hb2 | exact st_5 hb2) rfl rfl (by first | assumption | omega) ?_
        try simp only [pM_1, pM_2, pM_3, pM_4, pM_5, pM_w1, pM_w2, pM_w3, pM_w4, pM_w5]
        refine g_aload0 55 rfl dX12_worsen_54 ?_
        refine g_getR 58 rfl fX12_13 (by first | rfl | exact st_o hb | exact st_1 hb | exact st_2 hb | exact st_3 hb | exact st_4 hb | exact st_5 hb | exact st_o hb2 | exact st_1 hb2 | exact st_2 hb2 | exact st_3 hb2 | exact st_4 hb2 | exact st_5 hb2) rfl dX12_worsen_55 ?_
        refine g_iload1 59 rfl dX12_worsen_58 ?_
        refine g_iconst 60 rfl (v := 0) dX12_worsen_59 (by decide) ?_
        refine g_iast 61 rfl dX12_worsen_60 (by first | rfl | exact st_o hb | exact st_1 hb | exact st_2 hb | exact st_3 hb | exact st_4 hb | exact st_5 hb | exact st_o hb2 | exact st_1 hb2 | exact st_2 hb2 | exact st_3 hb2 | exact st_4 hb2 | exact st_5 hb2) rfl rfl (by first | assumption | omega) ?_
        try simp only [pM_1, pM_2, pM_3, pM_4, pM_5, pM_w1, pM_w2, pM_w3, pM_w4, pM_w5]
        refine g_aload0 62 rfl dX12_worsen_61 ?_
        refine g_getR 65 rfl fX12_16 (by first | rfl | exact st_o hb | exact st_1 hb | exact st_2 hb | exact st_3 hb | exact st_4 hb | exact st_5 hb | exact st_o hb2 | exact st_1 hb2 | exact st_2 hb2 | exact st_3 hb2 | exact st_4 hb2 | exact st_5 hb2) rfl dX12_worsen_62 ?_
        refine g_iload1 66 rfl dX12_worsen_65 ?_
        refine g_dup2 67 rfl dX12_worsen_66 rfl rfl ?_
        refine g_iald 68 rfl dX12_worsen_67 (by first | rfl | exact st_o hb | exact st_1 hb | exact st_2 hb | exact st_3 hb | exact st_4 hb | exact st_5 hb | exact st_o hb2 | exact st_1 hb2 | exact st_2 hb2 | exact st_3 hb2 | exact st_4 hb2 | exact st_5 hb2) rfl rfl (by first | assumption | omega) ?_
        try simp only [pM_1, pM_2, pM_3, pM_4, pM_5, pM_w1, pM_w2, pM_w3, pM_w4, pM_w5]
        refine g_iconst 69 rfl (v := 5) dX12_worsen_68 (by decide) ?_
        refine g_isub 70 rfl dX12_worsen_69 ?_
        refine g_iast 71 rfl dX12_worsen_70 (by first | rfl | exact st_o hb | exact st_1 hb | exact st_2 hb | exact st_3 hb | exact st_4 hb | exact st_5 hb | exact st_o hb2 | exact st_1 hb2 | exact st_2 hb2 | exact st_3 hb2 | exact st_4 hb2 | exact st_5 hb2) rfl rfl (by first | assumption | omega) ?_
        try simp only [pM_1, pM_2, pM_3, pM_4, pM_5, pM_w1, pM_w2, pM_w3, pM_w4, pM_w5]
        refine g_aload0 72 rfl dX12_worsen_71 ?_
        refine g_getR 75 rfl fX12_19 (by first | rfl | exact st_o hb | exact st_1 hb | exact st_2 hb | exact st_3 hb | exact st_4 hb | exact st_5 hb | exact st_o hb2 | exact st_1 hb2 | exact st_2 hb2 | exact st_3 hb2 | exact st_4 hb2 | exact st_5 hb2) rfl dX12_worsen_72 ?_
        refine g_iload1 76 rfl dX12_worsen_75 ?_
        refine g_iconst 77 rfl (v := 0) dX12_worsen_76 (by decide) ?_
        refine g_iast 78 rfl dX12_worsen_77 (by first | rfl | exact st_o hb | exact st_1 hb | exact st_2 hb | exact st_3 hb | exact st_4 hb | exact st_5 hb | exact st_o hb2 | exact st_1 hb2 | exact st_2 hb2 | exact st_3 hb2 | exact st_4 hb2 | exact st_5 hb2) rfl rfl (by first | assumption | omega) ?_
        try simp only [pM_1, pM_2, pM_3, pM_4, pM_5, pM_w1, pM_w2, pM_w3, pM_w4, pM_w5]
        refine g_aload0 79 rfl dX12_worsen_78 ?_
        refine g_getR 82 rfl fX12_22 (by first | rfl | exact st_o hb | exact st_1 hb | exact st_2 hb | exact st_3 hb | exact st_4 hb | exact st_5 hb | exact st_o hb2 | exact st_1 hb2 | exact st_2 hb2 | exact st_3 hb2 | exact st_4 hb2 | exact st_5 hb2) rfl dX12_worsen_79 ?_
        refine g_iload1 83 rfl dX12_worsen_82 ?_
        refine g_iconst 84 rfl (v := 0) dX12_worsen_83 (by decide) ?_
        refine g_iast 85 rfl dX12_worsen_84 (by first | rfl | exact st_o hb | exact st_1 hb | exact st_2 hb | exact st_3 hb | exact st_4 hb | exact st_5 hb | exact st_o hb2 | exact st_1 hb2 | exact st_2 hb2 | exact st_3 hb2 | exact st_4 hb2 | exact st_5 hb2) rfl rfl (by first | assumption | omega) ?_
        try simp only [pM_1, pM_2, pM_3, pM_4, pM_5, pM_w1, pM_w2, pM_w3, pM_w4, pM_w5]
        refine g_iconst 86 rfl (v := 1) dX12_worsen_85 (by decide) ?_
        refine g_zret rfl dX12_worsen_86 (by first | exact Or.inl rfl | exact Or.inr rfl | assumption) ?_
        first | exact z01 (Or.inl h6) | exact z01 (Or.inr h16) | exact z4 h42 | exact zz h6 h16 h42
      · refine g_iconst 46 rfl (v := 0) dX12_worsen_45 (by decide) ?_
        refine g_zret rfl dX12_worsen_46 (by first | exact Or.inl rfl | exact Or.inr rfl | assumption) ?_
        first | exact z01 (Or.inl h6) | exact z01 (Or.inr h16) | exact z4 h42 | exact zz h6 h16 h42
    · refine g_aload0 20 rfl dX12_worsen_19 ?_
      refine g_getR 23 rfl fX12_7 (by first | rfl | exact st_o hb | exact st_1 hb | exact st_2 hb | exact st_3 hb | exact st_4 hb | exact st_5 hb | exact st_o hb2 | exact st_1 hb2 | exact st_2 hb2 | exact st_3 hb2 | exact st_4 hb2 | exact st_5 hb2) rfl dX12_worsen_20 ?_
      refine g_iload1 24 rfl dX12_worsen_23 ?_
      refine g_iconst 25 rfl (v := 2) dX12_worsen_24 (by decide) ?_
      refine g_iast 26 rfl dX12_worsen_25 (by first | rfl | exact st_o hb | exact st_1 hb | exact st_2 hb | exact st_3 hb | exact st_4 hb | exact st_5 hb | exact st_o hb2 | exact st_1 hb2 | exact st_2 hb2 | exact st_3 hb2 | exact st_4 hb2 | exact st_5 hb2) rfl rfl (by first | assumption | omega) ?_
      try simp only [pM_1, pM_2, pM_3, pM_4, pM_5, pM_w1, pM_w2, pM_w3, pM_w4, pM_w5]
      refine g_aload0 27 rfl dX12_worsen_26 ?_
      refine g_getR 30 rfl fX12_19 (by first | rfl | exact st_o hb | exact st_1 hb | exact st_2 hb | exact st_3 hb | exact st_4 hb | exact st_5 hb | exact st_o hb2 | exact st_1 hb2 | exact st_2 hb2 | exact st_3 hb2 | exact st_4 hb2 | exact st_5 hb2) rfl dX12_worsen_27 ?_
      refine g_iload1 31 rfl dX12_worsen_30 ?_
      refine g_iconst 32 rfl (v := 0) dX12_worsen_31 (by decide) ?_
      refine g_iast 33 rfl dX12_worsen_32 (by first | rfl | exact st_o hb | exact st_1 hb | exact st_2 hb | exact st_3 hb | exact st_4 hb | exact st_5 hb | exact st_o hb2 | exact st_1 hb2 | exact st_2 hb2 | exact st_3 hb2 | exact st_4 hb2 | exact st_5 hb2) rfl rfl (by first | assumption | omega) ?_
      try simp only [pM_1, pM_2, pM_3, pM_4, pM_5, pM_w1, pM_w2, pM_w3, pM_w4, pM_w5]
      refine g_iconst 34 rfl (v := 0) dX12_worsen_33 (by decide) ?_
      refine g_zret rfl dX12_worsen_34 (by first | exact Or.inl rfl | exact Or.inr rfl | assumption) ?_
      first | exact z01 (Or.inl h6) | exact z01 (Or.inr h16) | exact z4 h42 | exact zz h6 h16 h42
theorem los_is {x : Sx} {c : Nat} : wJ x (upd (sJ x) c (if 0 ≤ sJ x c - 1 then sJ x c - 1 else 0)) = losS c x := by
  unfold losS
  have : (if 0 ≤ sJ x c - 1 then sJ x c - 1 else 0) = (if 0 < sJ x c - 1 then sJ x c - 1 else 0) := by
    generalize sJ x c - 1 = v
    by_cases h : 0 < v
    · rw [if_pos h, if_pos (Int32.le_of_lt h)]
    · rw [if_neg h]
      split
      · rename_i q; exact Int32.le_antisymm (Int32.not_lt.mp h) q
      · rfl
  rw [this]
theorem om_freeze {l : Launch} {M : Mm} {c : Nat} {x : Sx} {fr : Int32} (hc : c < 30) : Ov GM l mX12_freeze [.ref 0, .int (nI c), .int fr] (pM M x) (pM M (freS c fr (losS c x))) := by
  refine ok_of (by decide +kernel) rfl rfl ?_
  refine g_aload0 1 rfl dX12_freeze_0 ?_
  refine g_getR 4 rfl fX12_22 (by first | rfl | exact st_o hb | exact st_1 hb | exact st_2 hb | exact st_3 hb | exact st_4 hb | exact st_5 hb | exact st_o hb2 | exact st_1 hb2 | exact st_2 hb2 | exact st_3 hb2 | exact st_4 hb2 | exact st_5 hb2) rfl dX12_freeze_1 ?_
  refine g_iload1 5 rfl dX12_freeze_4 ?_
  refine g_aload0 6 rfl dX12_freeze_5 ?_
  refine g_getR 9 rfl fX12_22 (by first | rfl | exact st_o hb | exact st_1 hb | exact st_2 hb | exact st_3 hb | exact st_4 hb | exact st_5 hb | exact st_o hb2 | exact st_1 hb2 | exact st_2 hb2 | exact st_3 hb2 | exact st_4 hb2 | exact st_5 hb2) rfl dX12_freeze_6 ?_
  refine g_iload1 10 rfl dX12_freeze_9 ?_
  refine g_iald 11 rfl dX12_freeze_10 (by first | rfl | exact st_o hb | exact st_1 hb | exact st_2 hb | exact st_3 hb | exact st_4 hb | exact st_5 hb | exact st_o hb2 | exact st_1 hb2 | exact st_2 hb2 | exact st_3 hb2 | exact st_4 hb2 | exact st_5 hb2) rfl rfl (by first | assumption | omega) ?_
  try simp only [pM_1, pM_2, pM_3, pM_4, pM_5, pM_w1, pM_w2, pM_w3, pM_w4, pM_w5]
  refine g_iconst 12 rfl (v := 1) dX12_freeze_11 (by decide) ?_
  refine g_isub 13 rfl dX12_freeze_12 ?_
  refine g_callSi 16 1 rfl kX12_234 dX12_freeze_13 ⟨rfl, rfl⟩ om_atLeast rfl rfl rfl ?_
  refine g_iast 17 rfl dX12_freeze_16 (by first | rfl | exact st_o hb | exact st_1 hb | exact st_2 hb | exact st_3 hb | exact st_4 hb | exact st_5 hb | exact st_o hb2 | exact st_1 hb2 | exact st_2 hb2 | exact st_3 hb2 | exact st_4 hb2 | exact st_5 hb2) rfl rfl (by first | assumption | omega) ?_
  try simp only [pM_1, pM_2, pM_3, pM_4, pM_5, pM_w1, pM_w2, pM_w3, pM_w4, pM_w5]
  rw [los_is]
  generalize losS c x = y
  have y01 : sK y c = 0 ∨ sK y c = 1 → draV (sD y) < fr → pM M (freS c fr y) = pM M (wS (wH (wK (wD y (draD (sD y))) (upd (sK y) c 3)) (upd (sH y) c (sH y c + 2))) (upd (sS y) c 0)) := fun a b => by
    unfold freS; rw [if_pos a, if_pos b]; rfl
  have n01 : sK y c = 0 ∨ sK y c = 1 → ¬ draV (sD y) < fr → freS c fr y = wD y (draD (sD y)) := fun a b => by
    unfold freS; rw [if_pos a, if_neg b]
  have no : ¬ (sK y c = 0 ∨ sK y c = 1) → freS c fr y = y := fun a => by unfold freS; rw [if_neg a]
  refine g_aload0 18 rfl dX12_freeze_17 ?_
  refine g_getR 21 rfl fX12_7 (by first | rfl | exact st_o hb | exact st_1 hb | exact st_2 hb | exact st_3 hb | exact st_4 hb | exact st_5 hb | exact st_o hb2 | exact st_1 hb2 | exact st_2 hb2 | exact st_3 hb2 | exact st_4 hb2 | exact st_5 hb2) rfl dX12_freeze_18 ?_
  refine g_iload1 22 rfl dX12_freeze_21 ?_
  refine g_iald 23 rfl dX12_freeze_22 (by first | rfl | exact st_o hb | exact st_1 hb | exact st_2 hb | exact st_3 hb | exact st_4 hb | exact st_5 hb | exact st_o hb2 | exact st_1 hb2 | exact st_2 hb2 | exact st_3 hb2 | exact st_4 hb2 | exact st_5 hb2) rfl rfl (by first | assumption | omega) ?_
  try simp only [pM_1, pM_2, pM_3, pM_4, pM_5, pM_w1, pM_w2, pM_w3, pM_w4, pM_w5]
  refine g_ifeq 36 26 rfl dX12_freeze_23 (by decide) (fun h23 => ?_) (fun h23 => ?_)
  · refine g_aload0 37 rfl dX12_freeze_36 ?_
    refine g_callVi 40 0 rfl kX12_237 (by first | rfl | exact st_o hb | exact st_1 hb | exact st_2 hb | exact st_3 hb | exact st_4 hb | exact st_5 hb | exact st_o hb2 | exact st_1 hb2 | exact st_2 hb2 | exact st_3 hb2 | exact st_4 hb2 | exact st_5 hb2) dX12_freeze_37 ⟨rfl, rfl⟩ om_draw rfl rfl rfl ?_
    refine g_iload2 41 rfl dX12_freeze_40 ?_
    refine g_cmpge 68 44 rfl dX12_freeze_41 (by decide) (fun h41 => ?_) (fun h41 => ?_)
    · refine g_vret rfl dX12_freeze_68 ?_
      refine ⟨rfl, ?_⟩
      first | (rw [y01 (Or.inl h23) (Int32.not_le.mp h41)]; rfl) | (rw [n01 (Or.inl h23) (Int32.not_lt.mpr h41)]; done) | (rw [y01 (Or.inr h33) (Int32.not_le.mp h41)]; rfl) | (rw [n01 (Or.inr h33) (Int32.not_lt.mpr h41)]; done) | (rw [no (fun q => q.elim h23 h33)]; done)
    · refine g_aload0 45 rfl dX12_freeze_44 ?_
      refine g_getR 48 rfl fX12_7 (by first | rfl | exact st_o hb | exact st_1 hb | exact st_2 hb | exact st_3 hb | exact st_4 hb | exact st_5 hb | exact st_o hb2 | exact st_1 hb2 | exact st_2 hb2 | exact st_3 hb2 | exact st_4 hb2 | exact st_5 hb2) rfl dX12_freeze_45 ?_
      refine g_iload1 49 rfl dX12_freeze_48 ?_
      refine g_iconst 50 rfl (v := 3) dX12_freeze_49 (by decide) ?_
      refine g_iast 51 rfl dX12_freeze_50 (by first | rfl | exact st_o hb | exact st_1 hb | exact st_2 hb | exact st_3 hb | exact st_4 hb | exact st_5 hb | exact st_o hb2 | exact st_1 hb2 | exact st_2 hb2 | exact st_3 hb2 | exact st_4 hb2 | exact st_5 hb2) rfl rfl (by first | assumption | omega) ?_
      try simp only [pM_1, pM_2, pM_3, pM_4, pM_5, pM_w1, pM_w2, pM_w3, pM_w4, pM_w5]
      refine g_aload0 52 rfl dX12_freeze_51 ?_
      refine g_getR 55 rfl fX12_16 (by first | rfl | exact st_o hb | exact st_1 hb | exact st_2 hb | exact st_3 hb | exact st_4 hb | exact st_5 hb | exact st_o hb2 | exact st_1 hb2 | exact st_2 hb2 | exact st_3 hb2 | exact st_4 hb2 | exact st_5 hb2) rfl dX12_freeze_52 ?_
      refine g_iload1 56 rfl dX12_freeze_55 ?_
      refine g_dup2 57 rfl dX12_freeze_56 rfl rfl ?_
      refine g_iald 58 rfl dX12_freeze_57 (by first | rfl | exact st_o hb | exact st_1 hb | exact st_2 hb | exact st_3 hb | exact st_4 hb | exact st_5 hb | exact st_o hb2 | exact st_1 hb2 | exact st_2 hb2 | exact st_3 hb2 | exact st_4 hb2 | exact st_5 hb2) rfl rfl (by first | assumption | omega) ?_
      try simp only [pM_1, pM_2, pM_3, pM_4, pM_5, pM_w1, pM_w2, pM_w3, pM_w4, pM_w5]
      refine g_iconst 59 rfl (v := 2) dX12_freeze_58 (by decide) ?_
      refine g_iadd 60 rfl dX12_freeze_59 ?_
      refine g_iast 61 rfl dX12_freeze_60 (by first | rfl | exact st_o hb | exact st_1 hb | exact st_2 hb | exact st_3 hb | exact st_4 hb | exact st_5 hb | exact st_o hb2 | exact st_1 hb2 | exact st_2 hb2 | exact st_3 hb2 | exact st_4 hb2 | exact st_5 hb2) rfl rfl (by first | assumption | omega) ?_
      try simp only [pM_1, pM_2, pM_3, pM_4, pM_5, pM_w1, pM_w2, pM_w3, pM_w4, pM_w5]
      refine g_aload0 62 rfl dX12_freeze_61 ?_
      refine g_getR 65 rfl fX12_19 (by first | rfl | exact st_o hb | exact st_1 hb | exact st_2 hb | exact st_3 hb | exact st_4 hb | exact st_5 hb | exact st_o hb2 | exact st_1 hb2 | exact st_2 hb2 | exact st_3 hb2 | exact st_4 hb2 | exact st_5 hb2) rfl dX12_freeze_62 ?_
      refine g_iload1 66 rfl dX12_freeze_65 ?_
      refine g_iconst 67 rfl (v := 0) dX12_freeze_66 (by decide) ?_
      refine g_iast 68 rfl dX12_freeze_67 (by first | rfl | exact st_o hb | exact st_1 hb | exact st_2 hb | exact st_3 hb | exact st_4 hb | exact st_5 hb | exact st_o hb2 | exact st_1 hb2 | exact st_2 hb2 | exact st_3 hb2 | exact st_4 hb2 | exact st_5 hb2) rfl rfl (by first | assumption | omega) ?_
      try simp only [pM_1, pM_2, pM_3, pM_4, pM_5, pM_w1, pM_w2, pM_w3, pM_w4, pM_w5]
      refine g_vret rfl dX12_freeze_68 ?_
      refine ⟨rfl, ?_⟩
      first | (rw [y01 (Or.inl h23) (Int32.not_le.mp h41)]; rfl) | (rw [n01 (Or.inl h23) (Int32.not_lt.mpr h41)]; done) | (rw [y01 (Or.inr h33) (Int32.not_le.mp h41)]; rfl) | (rw [n01 (Or.inr h33) (Int32.not_lt.mpr h41)]; done) | (rw [no (fun q => q.elim h23 h33)]; done)
  · refine g_aload0 27 rfl dX12_freeze_26 ?_
    refine g_getR 30 rfl fX12_7 (by first | rfl | exact st_o hb | exact st_1 hb | exact st_2 hb | exact st_3 hb | exact st_4 hb | exact st_5 hb | exact st_o hb2 | exact st_1 hb2 | exact st_2 hb2 | exact st_3 hb2 | exact st_4 hb2 | exact st_5 hb2) rfl dX12_freeze_27 ?_
    refine g_iload1 31 rfl dX12_freeze_30 ?_
    refine g_iald 32 rfl dX12_freeze_31 (by first | rfl | exact st_o hb | exact st_1 hb | exact st_2 hb | exact st_3 hb | exact st_4 hb | exact st_5 hb | exact st_o hb2 | exact st_1 hb2 | exact st_2 hb2 | exact st_3 hb2 | exact st_4 hb2 | exact st_5 hb2) rfl rfl (by first | assumption | omega) ?_
    try simp only [pM_1, pM_2, pM_3, pM_4, pM_5, pM_w1, pM_w2, pM_w3, pM_w4, pM_w5]
    refine g_iconst 33 rfl (v := 1) dX12_freeze_32 (by decide) ?_
    refine g_cmpne 68 36 rfl dX12_freeze_33 (by decide) (fun h33 => ?_) (fun h33 => ?_)
    · refine g_vret rfl dX12_freeze_68 ?_
      refine ⟨rfl, ?_⟩
      first | (rw [y01 (Or.inl h23) (Int32.not_le.mp h41)]; rfl) | (rw [n01 (Or.inl h23) (Int32.not_lt.mpr h41)]; done) | (rw [y01 (Or.inr h33) (Int32.not_le.mp h41)]; rfl) | (rw [n01 (Or.inr h33) (Int32.not_lt.mpr h41)]; done) | (rw [no (fun q => q.elim h23 h33)]; done)
    · refine g_aload0 37 rfl dX12_freeze_36 ?_
      refine g_callVi 40 0 rfl kX12_237 (by first | rfl | exact st_o hb | exact st_1 hb | exact st_2 hb | exact st_3 hb | exact st_4 hb | exact st_5 hb | exact st_o hb2 | exact st_1 hb2 | exact st_2 hb2 | exact st_3 hb2 | exact st_4 hb2 | exact st_5 hb2) dX12_freeze_37 ⟨rfl, rfl⟩ om_draw rfl rfl rfl ?_
      refine g_iload2 41 rfl dX12_freeze_40 ?_
      refine g_cmpge 68 44 rfl dX12_freeze_41 (by decide) (fun h41 => ?_) (fun h41 => ?_)
      · refine g_vret rfl dX12_freeze_68 ?_
        refine ⟨rfl, ?_⟩
        first | (rw [y01 (Or.inl h23) (Int32.not_le.mp h41)]; rfl) | (rw [n01 (Or.inl h23) (Int32.not_lt.mpr h41)]; done) | (rw [y01 (Or.inr h33) (Int32.not_le.mp h41)]; rfl) | (rw [n01 (Or.inr h33) (Int32.not_lt.mpr h41)]; done) | (rw [no (fun q => q.elim h23 h33)]; done)
      · refine g_aload0 45 rfl dX12_freeze_44 ?_
        refine g_getR 48 rfl fX12_7 (by first | rfl | exact st_o hb | exact st_1 hb | exact st_2 hb | exact st_3 hb | exact st_4 hb | exact st_5 hb | exact st_o hb2 | exact st_1 hb2 | exact st_2 hb2 | exact st_3 hb2 | exact st_4 hb2 | exact st_5 hb2) rfl dX12_freeze_45 ?_
        refine g_iload1 49 rfl dX12_freeze_48 ?_
        refine g_iconst 50 rfl (v := 3) dX12_freeze_49 (by decide) ?_
        refine g_iast 51 rfl dX12_freeze_50 (by first | rfl | exact st_o hb | exact st_1 hb | exact st_2 hb | exact st_3 hb | exact st_4 hb | exact st_5 hb | exact st_o hb2 | exact st_1 hb2 | exact st_2 hb2 | exact st_3 hb2 | exact st_4 hb2 | exact st_5 hb2) rfl rfl (by first | assumption | omega) ?_
        try simp only [pM_1, pM_2, pM_3, pM_4, pM_5, pM_w1, pM_w2, pM_w3, pM_w4, pM_w5]
        refine g_aload0 52 rfl dX12_freeze_51 ?_
        refine g_getR 55 rfl fX12_16 (by first | rfl | exact st_o hb | exact st_1 hb | exact st_2 hb | exact st_3 hb | exact st_4 hb | exact st_5 hb | exact st_o hb2 | exact st_1 hb2 | exact st_2 hb2 | exact st_3 hb2 | exact st_4 hb2 | exact st_5 hb2) rfl dX12_freeze_52 ?_
        refine g_iload1 56 rfl dX12_freeze_55 ?_
        refine g_dup2 57 rfl dX12_freeze_56 rfl rfl ?_
        refine g_iald 58 rfl dX12_freeze_57 (by first | rfl | exact st_o hb | exact st_1 hb | exact st_2 hb | exact st_3 hb | exact st_4 hb | exact st_5 hb | exact st_o hb2 | exact st_1 hb2 | exact st_2 hb2 | exact st_3 hb2 | exact st_4 hb2 | exact st_5 hb2) rfl rfl (by first | assumption | omega) ?_
        try simp only [pM_1, pM_2, pM_3, pM_4, pM_5, pM_w1, pM_w2, pM_w3, pM_w4, pM_w5]
        refine g_iconst 59 rfl (v := 2) dX12_freeze_58 (by decide) ?_
        refine g_iadd 60 rfl dX12_freeze_59 ?_
        refine g_iast 61 rfl dX12_freeze_60 (by first | rfl | exact st_o hb | exact st_1 hb | exact st_2 hb | exact st_3 hb | exact st_4 hb | exact st_5 hb | exact st_o hb2 | exact st_1 hb2 | exact st_2 hb2 | exact st_3 hb2 | exact st_4 hb2 | exact st_5 hb2) rfl rfl (by first | assumption | omega) ?_
        try simp only [pM_1, pM_2, pM_3, pM_4, pM_5, pM_w1, pM_w2, pM_w3, pM_w4, pM_w5]
        refine g_aload0 62 rfl dX12_freeze_61 ?_
        refine g_getR 65 rfl fX12_19 (by first | rfl | exact st_o hb | exact st_1 hb | exact st_2 hb | exact st_3 hb | exact st_4 hb | exact st_5 hb | exact st_o hb2 | exact st_1 hb2 | exact st_2 hb2 | exact st_3 hb2 | exact st_4 hb2 | exact st_5 hb2) rfl dX12_freeze_62 ?_
        refine g_iload1 66 rfl dX12_freeze_65 ?_
        refine g_iconst 67 rfl (v := 0) dX12_freeze_66 (by decide) ?_
        refine g_iast 68 rfl dX12_freeze_67 (by first | rfl | exact st_o hb | exact st_1 hb | exact st_2 hb | exact st_3 hb | exact st_4 hb | exact st_5 hb | exact st_o hb2 | exact st_1 hb2 | exact st_2 hb2 | exact st_3 hb2 | exact st_4 hb2 | exact st_5 hb2) rfl rfl (by first | assumption | omega) ?_
        try simp only [pM_1, pM_2, pM_3, pM_4, pM_5, pM_w1, pM_w2, pM_w3, pM_w4, pM_w5]
        refine g_vret rfl dX12_freeze_68 ?_
        refine ⟨rfl, ?_⟩
        first | (rw [y01 (Or.inl h23) (Int32.not_le.mp h41)]; rfl) | (rw [n01 (Or.inl h23) (Int32.not_lt.mpr h41)]; done) | (rw [y01 (Or.inr h33) (Int32.not_le.mp h41)]; rfl) | (rw [n01 (Or.inr h33) (Int32.not_lt.mpr h41)]; done) | (rw [no (fun q => q.elim h23 h33)]; done)
theorem om_isBesideSand {l : Launch} {M : Mm} {R W c : Nat} {x : Sx} (hm : Mod M R W) (hc : c < R * W) : Oi GM l mX12_isBesideSand [.ref 0, .int (nI c)] (pM M x) (bssS x R W c) (pM M x) := by
  have h30 := hm.le
  have hm2 := pM_mod (x := x) hm
  refine ok_of (by decide +kernel) rfl rfl ?_
  refine g_iconst 1 rfl (v := 0) dX12_isBesideSand_0 (by decide) ?_
  refine g_istore2 2 rfl dX12_isBesideSand_1 rfl rfl ?_
  refine g_iconst 3 rfl (v := 0) dX12_isBesideSand_2 (by decide) ?_
  refine g_istore3 4 rfl dX12_isBesideSand_3 rfl rfl ?_
  have key : ∀ i, i ≤ 4 → ∀ v : Int32, ((v = 1 ∧ ∃ s, s < i ∧ bsd x R W c s) ∨ (v = 0 ∧ ¬ ∃ s, s < i ∧ bsd x R W c s)) → Go GM l mX12_isBesideSand 4 [.ref 0, .int (nI c), .int v, .int (nI i), .null] [] (pM M x) (fun r M1 => r = some (.inl (bssS x R W c)) ∧ M1 = pM M x) := by
    refine loop_up (P := fun i => ∀ v : Int32, ((v = 1 ∧ ∃ s, s < i ∧ bsd x R W c s) ∨ (v = 0 ∧ ¬ ∃ s, s < i ∧ bsd x R W c s)) → Go GM l mX12_isBesideSand 4 [.ref 0, .int (nI c), .int v, .int (nI i), .null] [] (pM M x) (fun r M1 => r = some (.inl (bssS x R W c)) ∧ M1 = pM M x)) 4 ?_ ?_
    · intro v hv
      refine g_iload3 5 rfl dX12_isBesideSand_4 ?_
      refine g_iconst 6 rfl (v := 4) dX12_isBesideSand_5 (by decide) ?_
      refine g_cmpge 50 9 rfl dX12_isBesideSand_6 (by decide) (fun _ => ?_) (fun h => absurd (by decide) h)
      refine g_iload2 51 rfl dX12_isBesideSand_50 ?_
      rcases hv with ⟨rfl, hv⟩ | ⟨rfl, hv⟩
      · refine g_zret rfl dX12_isBesideSand_51 (Or.inr rfl) ?_
        exact ⟨by rw [bssS, if_pos hv], rfl⟩
      · refine g_zret rfl dX12_isBesideSand_51 (Or.inl rfl) ?_
        exact ⟨by rw [bssS, if_neg hv], rfl⟩
    · intro i hi ih v hv
      have pos : bsd x R W c i ∨ (∃ s, s < i ∧ bsd x R W c s) → ∃ s, s < i + 1 ∧ bsd x R W c s := fun z => by
        rcases z with z | ⟨s, a, b⟩
        · exact ⟨i, by omega, z⟩
        · exact ⟨s, by omega, b⟩
      have neg : ¬ bsd x R W c i → (¬ ∃ s, s < i ∧ bsd x R W c s) → ¬ ∃ s, s < i + 1 ∧ bsd x R W c s := fun z1 z2 ⟨s, a, b⟩ => by
        by_cases hs : s = i
        · subst hs; exact z1 b
        · exact z2 ⟨s, by omega, b⟩
      refine g_iload3 5 rfl dX12_isBesideSand_4 ?_
      refine g_iconst 6 rfl (v := 4) dX12_isBesideSand_5 (by decide) ?_
      refine g_cmpge 50 9 rfl dX12_isBesideSand_6 (by decide) (fun h => absurd h (nI_ge hi (by decide))) (fun _ => ?_)
      refine g_aload0 10 rfl dX12_isBesideSand_9 ?_
      refine g_iload1 11 rfl dX12_isBesideSand_10 ?_
      refine g_iload3 12 rfl dX12_isBesideSand_11 ?_
      refine g_callVi 15 2 rfl kX12_147 (by first | rfl | exact st_o hb | exact st_1 hb | exact st_2 hb | exact st_3 hb | exact st_4 hb | exact st_5 hb | exact st_o hb2 | exact st_1 hb2 | exact st_2 hb2 | exact st_3 hb2 | exact st_4 hb2 | exact st_5 hb2) dX12_isBesideSand_12 ⟨rfl, rfl⟩ (om_beside hm2 hc hi) rfl rfl rfl ?_
      refine g_istore4 17 rfl dX12_isBesideSand_15 rfl rfl ?_
      refine g_iload2 18 rfl dX12_isBesideSand_17 ?_
      rcases hv with ⟨rfl, hv⟩ | ⟨rfl, hv⟩
      · refine g_ifne 38 21 rfl dX12_isBesideSand_18 (by decide) (fun _ => ?_) (fun h => absurd h (by decide))
        refine g_iconst 39 rfl (v := 1) dX12_isBesideSand_38 (by decide) ?_
        refine g_goto 43 dX12_isBesideSand_39 (by decide) ?_
        refine g_istore2 44 rfl dX12_isBesideSand_43 rfl rfl ?_
        refine g_iinc3 47 rfl dX12_isBesideSand_44 rfl rfl _ (by first | exact iinc1 _ | exact iincx _ | rfl) ?_
        refine g_goto 4 dX12_isBesideSand_47 (by decide) ?_
        refine g_fg 4 ?_
        exact ih 1 (Or.inl ⟨rfl, pos (Or.inr hv)⟩)
      · refine g_ifne 38 21 rfl dX12_isBesideSand_18 (by decide) (fun h => absurd rfl h) (fun _ => ?_)
        cases hk : nb R W c i with
        | none =>
          refine g_iload4 23 rfl dX12_isBesideSand_21 ?_
          refine g_iconst 24 rfl (v := (-1)) dX12_isBesideSand_23 (by decide) ?_
          refine g_cmpeq 42 27 rfl dX12_isBesideSand_24 (by decide) (fun _ => ?_) (fun z => absurd rfl z)
          refine g_iconst 43 rfl (v := 0) dX12_isBesideSand_42 (by decide) ?_
          refine g_istore2 44 rfl dX12_isBesideSand_43 rfl rfl ?_
          refine g_iinc3 47 rfl dX12_isBesideSand_44 rfl rfl _ (by first | exact iinc1 _ | exact iincx _ | rfl) ?_
          refine g_goto 4 dX12_isBesideSand_47 (by decide) ?_
          refine g_fg 4 ?_
          exact ih 0 (Or.inr ⟨rfl, neg (bsd_none hk) hv⟩)
        | some k =>
          have hk2 := nb_lt hc hk
          refine g_iload4 23 rfl dX12_isBesideSand_21 ?_
          refine g_iconst 24 rfl (v := (-1)) dX12_isBesideSand_23 (by decide) ?_
          refine g_cmpeq 42 27 rfl dX12_isBesideSand_24 (by decide) (fun h => absurd h (nI_ne_m1 (by omega))) (fun _ => ?_)
          refine g_aload0 28 rfl dX12_isBesideSand_27 ?_
          refine g_getR 31 rfl fX12_7 (by first | rfl | exact st_o hb | exact st_1 hb | exact st_2 hb | exact st_3 hb | exact st_4 hb | exact st_5 hb | exact st_o hb2 | exact st_1 hb2 | exact st_2 hb2 | exact st_3 hb2 | exact st_4 hb2 | exact st_5 hb2) rfl dX12_isBesideSand_28 ?_
          refine g_iload4 33 rfl dX12_isBesideSand_31 ?_
          refine g_iald 34 rfl dX12_isBesideSand_33 (by first | rfl | exact st_o hb | exact st_1 hb | exact st_2 hb | exact st_3 hb | exact st_4 hb | exact st_5 hb | exact st_o hb2 | exact st_1 hb2 | exact st_2 hb2 | exact st_3 hb2 | exact st_4 hb2 | exact st_5 hb2) rfl rfl (by first | assumption | omega) ?_
          try simp only [pM_1, pM_2, pM_3, pM_4, pM_5, pM_w1, pM_w2, pM_w3, pM_w4, pM_w5]
          refine g_iconst 35 rfl (v := (-1)) dX12_isBesideSand_34 (by decide) ?_
          refine g_cmpne 42 38 rfl dX12_isBesideSand_35 (by decide) (fun h35 => ?_) (fun h35 => ?_)
          · refine g_iconst 43 rfl (v := 0) dX12_isBesideSand_42 (by decide) ?_
            refine g_istore2 44 rfl dX12_isBesideSand_43 rfl rfl ?_
            refine g_iinc3 47 rfl dX12_isBesideSand_44 rfl rfl _ (by first | exact iinc1 _ | exact iincx _ | rfl) ?_
            refine g_goto 4 dX12_isBesideSand_47 (by decide) ?_
            refine g_fg 4 ?_
            exact ih 0 (Or.inr ⟨rfl, neg (fun z => h35 ((bsd_some hk).mp z)) hv⟩)
          · refine g_iconst 39 rfl (v := 1) dX12_isBesideSand_38 (by decide) ?_
            refine g_goto 43 dX12_isBesideSand_39 (by decide) ?_
            refine g_istore2 44 rfl dX12_isBesideSand_43 rfl rfl ?_
            refine g_iinc3 47 rfl dX12_isBesideSand_44 rfl rfl _ (by first | exact iinc1 _ | exact iincx _ | rfl) ?_
            refine g_goto 4 dX12_isBesideSand_47 (by decide) ?_
            refine g_fg 4 ?_
            exact ih 1 (Or.inl ⟨rfl, pos (Or.inl ((bsd_some hk).mpr h35))⟩)
  exact key 0 (by omega) 0 (Or.inr ⟨rfl, fun ⟨s, a, _⟩ => absurd a (by omega)⟩)
/-! carts -/
def CrM (M : Mm) (k : Ct) : Prop := k.1 ≤ 6 ∧ M.1 0 9 = nI k.1 ∧ ∀ i, i < k.1 → M.1 6 i = nI (k.2.1 i) ∧ M.1 7 i = k.2.2 i ∧ k.2.1 i < 10
abbrev qWr (R W : Nat) (k : Ct) (M : Mm) (x : Sx) : Rr → Mm → Prop := fun r M' => r = none ∧ ∃ B g, M' = pM (setA (setA M 16 B) 18 g) x ∧ eqN (R * W) B (weaX R W k x) ∧ ∀ c, c < R * W → g c = holdS R W x c
theorem om_layWear {l : Launch} {M : Mm} {R W : Nat} {k : Ct} {x : Sx} (hm : Mod M R W) (hk : CrM M k) : Ok GM l mX12_layWear [.ref 0] (pM M x) (qWr R W k M x) := by
  have h30 := hm.le
  have hb := hm.b
  have hk6 := hk.1
  have hm2 : ∀ B, Mod (pM (setA M 16 B) x) R W := fun B => pM_mod (mod_sA hm (by decide))
  have e0 : ∀ B, (pM (setA M 16 B) x).1 0 0 = nI R := fun B => (hm2 B).2.1
  have e1 : ∀ B, (pM (setA M 16 B) x).1 0 1 = nI W := fun B => (hm2 B).2.2
  have e9 : ∀ B, (pM (setA M 16 B) x).1 0 9 = nI k.1 := fun B => by rw [pM_o (Or.inl rfl), sA_n (by decide)]; exact hk.2.1
  have e6 : ∀ B i, i < k.1 → (pM (setA M 16 B) x).1 6 i = nI (k.2.1 i) := fun B i hi => by rw [pM_o (Or.inr (by decide)), sA_n (by decide)]; exact (hk.2.2 i hi).1
  have e7 : ∀ B i, i < k.1 → (pM (setA M 16 B) x).1 7 i = k.2.2 i := fun B i hi => by rw [pM_o (Or.inr (by decide)), sA_n (by decide)]; exact (hk.2.2 i hi).2.1
  refine ok_of (by decide +kernel) rfl rfl ?_
  refine g_aload0 1 rfl dX12_layWear_0 ?_
  refine g_callV 4 0 rfl kX12_205 (by first | rfl | exact st_o hb | exact st_1 hb | exact st_2 hb | exact st_3 hb | exact st_4 hb | exact st_5 hb | exact st_o hb2 | exact st_1 hb2 | exact st_2 hb2 | exact st_3 hb2 | exact st_4 hb2 | exact st_5 hb2) dX12_layWear_1 ⟨rfl, rfl⟩ om_clearWear rfl rfl rfl (fun r M1 hq => ?_)
  obtain ⟨rfl, f, rfl, hf⟩ := hq
  try simp only [rV, Option.toList, List.cons_append, List.nil_append]
  refine g_iconst 5 rfl (v := 0) dX12_layWear_4 (by decide) ?_
  refine g_istore1 6 rfl dX12_layWear_5 rfl rfl ?_
  have hE : eqN (R * W) (weaS (gx x) R W k f) (weaX R W k x) := weaS_E eqN.rf (fun c hc => hf c (by omega))
  refine loop_up (P := fun i => Go GM l mX12_layWear 6 [.ref 0, .int (nI i), .null, .null] [] (pM (setA M 16 (itN (crtS (gx x) R W k) i f)) x) (qWr R W k M x)) k.1 ?_ ?_ 0 (by omega)
  · rw [show itN (crtS (gx x) R W k) k.1 f = weaS (gx x) R W k f from rfl]
    generalize weaS (gx x) R W k f = B at hE ⊢
    have hm3 : ∀ g, Mod (pM (setA (setA M 16 B) 18 g) x) R W := fun g => pM_mod (mod_sA (mod_sA hm (by decide)) (by decide))
    have r18 : ∀ g, (pM (setA (setA M 16 B) 18 g) x).1 18 = g := fun g => by rw [pM_o (Or.inr (by decide)), sA_s]
    have w18 : ∀ g e, setA (pM (setA (setA M 16 B) 18 g) x) 18 e = pM (setA (setA M 16 B) 18 e) x := fun g e => by rw [pM_wo (Or.inr (by decide)), sA_sA]
    refine g_iload1 7 rfl dX12_layWear_6 ?_
    refine g_aload0 8 rfl dX12_layWear_7 ?_
    refine g_getI 11 rfl fX12_134 (by first | rfl | exact st_o hb | exact st_1 hb | exact st_2 hb | exact st_3 hb | exact st_4 hb | exact st_5 hb | exact st_o hb2 | exact st_1 hb2 | exact st_2 hb2 | exact st_3 hb2 | exact st_4 hb2 | exact st_5 hb2) rfl dX12_layWear_8 ?_
    try simp only [pM_1, e0, e1, e9]
    refine g_cmpge 84 14 rfl dX12_layWear_11 (by decide) (fun _ => ?_) (fun h => absurd (Int32.le_refl _) h)
    refine g_iconst 85 rfl (v := 0) dX12_layWear_84 (by decide) ?_
    refine g_istore1 86 rfl dX12_layWear_85 rfl rfl ?_
    refine g_mem (pM (setA (setA M 16 B) 18 ((setA M 16 B).1 18)) x) (by rw [sA_id]) ?_
    have key : ∀ i, i ≤ R * W → ∀ g, (∀ c, c < i → g c = holdS R W x c) → Go GM l mX12_layWear 86 [.ref 0, .int (nI i), .null, .null] [] (pM (setA (setA M 16 B) 18 g) x) (qWr R W k M x) := by
      refine loop_up (P := fun i => ∀ g, (∀ c, c < i → g c = holdS R W x c) → Go GM l mX12_layWear 86 [.ref 0, .int (nI i), .null, .null] [] (pM (setA (setA M 16 B) 18 g) x) (qWr R W k M x)) (R * W) ?_ ?_
      · intro g hg
        refine g_iload1 87 rfl dX12_layWear_86 ?_
        refine g_aload0 88 rfl dX12_layWear_87 ?_
        refine g_callVi 91 0 rfl kX12_140 (by first | rfl | exact st_o hb | exact st_1 hb | exact st_2 hb | exact st_3 hb | exact st_4 hb | exact st_5 hb | exact st_o hb2 | exact st_1 hb2 | exact st_2 hb2 | exact st_3 hb2 | exact st_4 hb2 | exact st_5 hb2) dX12_layWear_88 ⟨rfl, rfl⟩ (om_cells (hm3 g)) rfl rfl rfl ?_
        refine g_cmpge 111 94 rfl dX12_layWear_91 (by decide) (fun _ => ?_) (fun h => absurd (Int32.le_refl _) h)
        refine g_vret rfl dX12_layWear_111 ?_
        exact ⟨rfl, B, g, rfl, hE, hg⟩
      · intro i hi ih g hg
        refine g_iload1 87 rfl dX12_layWear_86 ?_
        refine g_aload0 88 rfl dX12_layWear_87 ?_
        refine g_callVi 91 0 rfl kX12_140 (by first | rfl | exact st_o hb | exact st_1 hb | exact st_2 hb | exact st_3 hb | exact st_4 hb | exact st_5 hb | exact st_o hb2 | exact st_1 hb2 | exact st_2 hb2 | exact st_3 hb2 | exact st_4 hb2 | exact st_5 hb2) dX12_layWear_88 ⟨rfl, rfl⟩ (om_cells (hm3 g)) rfl rfl rfl ?_
        refine g_cmpge 111 94 rfl dX12_layWear_91 (by decide) (fun h => absurd h (nI_ge hi (by omega))) (fun _ => ?_)
        refine g_aload0 95 rfl dX12_layWear_94 ?_
        refine g_getR 98 rfl fX12_66 (by first | rfl | exact st_o hb | exact st_1 hb | exact st_2 hb | exact st_3 hb | exact st_4 hb | exact st_5 hb | exact st_o hb2 | exact st_1 hb2 | exact st_2 hb2 | exact st_3 hb2 | exact st_4 hb2 | exact st_5 hb2) rfl dX12_layWear_95 ?_
        refine g_iload1 99 rfl dX12_layWear_98 ?_
        refine g_aload0 100 rfl dX12_layWear_99 ?_
        refine g_iload1 101 rfl dX12_layWear_100 ?_
        refine g_callVi 104 1 rfl kX12_153 (by first | rfl | exact st_o hb | exact st_1 hb | exact st_2 hb | exact st_3 hb | exact st_4 hb | exact st_5 hb | exact st_o hb2 | exact st_1 hb2 | exact st_2 hb2 | exact st_3 hb2 | exact st_4 hb2 | exact st_5 hb2) dX12_layWear_101 ⟨rfl, rfl⟩ (om_hold (mod_sA (mod_sA hm (by decide)) (by decide)) hi) rfl rfl rfl ?_
        refine g_iast 105 rfl dX12_layWear_104 (by first | rfl | exact st_o hb | exact st_1 hb | exact st_2 hb | exact st_3 hb | exact st_4 hb | exact st_5 hb | exact st_o hb2 | exact st_1 hb2 | exact st_2 hb2 | exact st_3 hb2 | exact st_4 hb2 | exact st_5 hb2) rfl rfl (by first | assumption | omega) ?_
        try simp only [r18, w18]
        refine g_iinc1 108 rfl dX12_layWear_105 rfl rfl _ (by first | exact iinc1 _ | exact iincx _ | rfl) ?_
        refine g_goto 86 dX12_layWear_108 (by decide) ?_
        refine ih _ (fun c hc => ?_)
        by_cases hci : c = i
        · subst hci; rw [upd_at]
        · rw [pk_un hci]; exact hg c (by omega)
    exact key 0 (by omega) _ (fun c hc => absurd hc (by omega))
  · intro i hi ih
    simp only [it4, crtS] at ih
    generalize itN (crtS (gx x) R W k) i f = B1 at ih ⊢
    have hrow := (hk.2.2 i hi).2.2
    refine g_iload1 7 rfl dX12_layWear_6 ?_
    refine g_aload0 8 rfl dX12_layWear_7 ?_
    refine g_getI 11 rfl fX12_134 (by first | rfl | exact st_o hb | exact st_1 hb | exact st_2 hb | exact st_3 hb | exact st_4 hb | exact st_5 hb | exact st_o hb2 | exact st_1 hb2 | exact st_2 hb2 | exact st_3 hb2 | exact st_4 hb2 | exact st_5 hb2) rfl dX12_layWear_8 ?_
    try simp only [pM_1, e0, e1, e9]
    refine g_cmpge 84 14 rfl dX12_layWear_11 (by decide) (fun h => absurd h (nI_ge hi (by omega))) (fun _ => ?_)
    refine g_iconst 15 rfl (v := 0) dX12_layWear_14 (by decide) ?_
    refine g_istore2 16 rfl dX12_layWear_15 rfl rfl ?_
    by_cases hr : k.2.1 i < R
    · refine loop_up (P := fun c => Go GM l mX12_layWear 16 [.ref 0, .int (nI i), .int (nI c), .null] [] (pM (setA M 16 (itN (crtB (gx x) R W (k.2.1 i) (k.2.2 i)) c B1)) x) (qWr R W k M x)) W ?_ ?_ 0 (by omega)
      · refine g_iload2 17 rfl dX12_layWear_16 ?_
        refine g_aload0 18 rfl dX12_layWear_17 ?_
        refine g_getI 21 rfl fX12_128 (by first | rfl | exact st_o hb | exact st_1 hb | exact st_2 hb | exact st_3 hb | exact st_4 hb | exact st_5 hb | exact st_o hb2 | exact st_1 hb2 | exact st_2 hb2 | exact st_3 hb2 | exact st_4 hb2 | exact st_5 hb2) rfl dX12_layWear_18 ?_
        try simp only [pM_1, e0, e1, e9]
        refine g_cmpge 78 24 rfl dX12_layWear_21 (by decide) (fun _ => ?_) (fun h => absurd (Int32.le_refl _) h)
        refine g_iinc1 81 rfl dX12_layWear_78 rfl rfl _ (by first | exact iinc1 _ | exact iincx _ | rfl) ?_
        refine g_goto 6 dX12_layWear_81 (by decide) ?_
        refine g_fg 2 ?_
        exact ih
      · intro c hc ih2
        simp only [it4, crtB] at ih2
        rw [if_pos hr] at ih2
        generalize itN (crtB (gx x) R W (k.2.1 i) (k.2.2 i)) c B1 = B2 at ih2 ⊢
        have hl := rc_lt hr hc
        refine g_iload2 17 rfl dX12_layWear_16 ?_
        refine g_aload0 18 rfl dX12_layWear_17 ?_
        refine g_getI 21 rfl fX12_128 (by first | rfl | exact st_o hb | exact st_1 hb | exact st_2 hb | exact st_3 hb | exact st_4 hb | exact st_5 hb | exact st_o hb2 | exact st_1 hb2 | exact st_2 hb2 | exact st_3 hb2 | exact st_4 hb2 | exact st_5 hb2) rfl dX12_layWear_18 ?_
        try simp only [pM_1, e0, e1, e9]
        refine g_cmpge 78 24 rfl dX12_layWear_21 (by decide) (fun h => absurd h (nI_ge hc (by omega))) (fun _ => ?_)
        refine g_aload0 25 rfl dX12_layWear_24 ?_
        refine g_getR 28 rfl fX12_29 (by first | rfl | exact st_o hb | exact st_1 hb | exact st_2 hb | exact st_3 hb | exact st_4 hb | exact st_5 hb | exact st_o hb2 | exact st_1 hb2 | exact st_2 hb2 | exact st_3 hb2 | exact st_4 hb2 | exact st_5 hb2) rfl dX12_layWear_25 ?_
        refine g_iload1 29 rfl dX12_layWear_28 ?_
        refine g_iald 30 rfl dX12_layWear_29 (by first | rfl | exact st_o hb | exact st_1 hb | exact st_2 hb | exact st_3 hb | exact st_4 hb | exact st_5 hb | exact st_o hb2 | exact st_1 hb2 | exact st_2 hb2 | exact st_3 hb2 | exact st_4 hb2 | exact st_5 hb2) rfl rfl (by first | assumption | omega) ?_
        try simp only [pM_1, e0, e1, e9]
        rw [e6 _ i hi]
        refine g_aload0 31 rfl dX12_layWear_30 ?_
        refine g_getI 34 rfl fX12_125 (by first | rfl | exact st_o hb | exact st_1 hb | exact st_2 hb | exact st_3 hb | exact st_4 hb | exact st_5 hb | exact st_o hb2 | exact st_1 hb2 | exact st_2 hb2 | exact st_3 hb2 | exact st_4 hb2 | exact st_5 hb2) rfl dX12_layWear_31 ?_
        try simp only [pM_1, e0, e1, e9]
        refine g_cmpge 78 37 rfl dX12_layWear_34 (by decide) (fun h => absurd h (nI_ge hr (by omega))) (fun _ => ?_)
        refine g_aload0 38 rfl dX12_layWear_37 ?_
        refine g_getR 41 rfl fX12_29 (by first | rfl | exact st_o hb | exact st_1 hb | exact st_2 hb | exact st_3 hb | exact st_4 hb | exact st_5 hb | exact st_o hb2 | exact st_1 hb2 | exact st_2 hb2 | exact st_3 hb2 | exact st_4 hb2 | exact st_5 hb2) rfl dX12_layWear_38 ?_
        refine g_iload1 42 rfl dX12_layWear_41 ?_
        refine g_iald 43 rfl dX12_layWear_42 (by first | rfl | exact st_o hb | exact st_1 hb | exact st_2 hb | exact st_3 hb | exact st_4 hb | exact st_5 hb | exact st_o hb2 | exact st_1 hb2 | exact st_2 hb2 | exact st_3 hb2 | exact st_4 hb2 | exact st_5 hb2) rfl rfl (by first | assumption | omega) ?_
        try simp only [pM_1, e0, e1, e9]
        rw [e6 _ i hi]
        refine g_aload0 44 rfl dX12_layWear_43 ?_
        refine g_getI 47 rfl fX12_128 (by first | rfl | exact st_o hb | exact st_1 hb | exact st_2 hb | exact st_3 hb | exact st_4 hb | exact st_5 hb | exact st_o hb2 | exact st_1 hb2 | exact st_2 hb2 | exact st_3 hb2 | exact st_4 hb2 | exact st_5 hb2) rfl dX12_layWear_44 ?_
        try simp only [pM_1, e0, e1, e9]
        refine g_imul 48 rfl dX12_layWear_47 ?_
        refine g_iload2 49 rfl dX12_layWear_48 ?_
        refine g_iadd 50 rfl dX12_layWear_49 ?_
        rw [pk_mul, nI_add]
        refine g_istore3 51 rfl dX12_layWear_50 rfl rfl ?_
        refine g_aload0 52 rfl dX12_layWear_51 ?_
        refine g_getR 55 rfl fX12_7 (by first | rfl | exact st_o hb | exact st_1 hb | exact st_2 hb | exact st_3 hb | exact st_4 hb | exact st_5 hb | exact st_o hb2 | exact st_1 hb2 | exact st_2 hb2 | exact st_3 hb2 | exact st_4 hb2 | exact st_5 hb2) rfl dX12_layWear_52 ?_
        refine g_iload3 56 rfl dX12_layWear_55 ?_
        refine g_iald 57 rfl dX12_layWear_56 (by first | rfl | exact st_o hb | exact st_1 hb | exact st_2 hb | exact st_3 hb | exact st_4 hb | exact st_5 hb | exact st_o hb2 | exact st_1 hb2 | exact st_2 hb2 | exact st_3 hb2 | exact st_4 hb2 | exact st_5 hb2) rfl rfl (by first | assumption | omega) ?_
        try simp only [pM_1, e0, e1, e9]
        refine g_iconst 58 rfl (v := (-1)) dX12_layWear_57 (by decide) ?_
        refine g_cmpeq 72 61 rfl dX12_layWear_58 (by decide) (fun h58 => ?_) (fun h58 => ?_)
        · have hg : gx x (k.2.1 i * W + c) = -1 := by show gpI (sK x (k.2.1 i * W + c)) = -1; rw [gpI, if_pos h58]
          rw [layS, if_pos hg] at ih2
          refine g_iinc2 75 rfl dX12_layWear_72 rfl rfl _ (by first | exact iinc1 _ | exact iincx _ | rfl) ?_
          refine g_goto 16 dX12_layWear_75 (by decide) ?_
          refine g_fg 3 ?_
          exact ih2
        · refine g_aload0 62 rfl dX12_layWear_61 ?_
          refine g_iload3 63 rfl dX12_layWear_62 ?_
          refine g_aload0 64 rfl dX12_layWear_63 ?_
          refine g_getR 67 rfl fX12_32 (by first | rfl | exact st_o hb | exact st_1 hb | exact st_2 hb | exact st_3 hb | exact st_4 hb | exact st_5 hb | exact st_o hb2 | exact st_1 hb2 | exact st_2 hb2 | exact st_3 hb2 | exact st_4 hb2 | exact st_5 hb2) rfl dX12_layWear_64 ?_
          refine g_iload1 68 rfl dX12_layWear_67 ?_
          refine g_iald 69 rfl dX12_layWear_68 (by first | rfl | exact st_o hb | exact st_1 hb | exact st_2 hb | exact st_3 hb | exact st_4 hb | exact st_5 hb | exact st_o hb2 | exact st_1 hb2 | exact st_2 hb2 | exact st_3 hb2 | exact st_4 hb2 | exact st_5 hb2) rfl rfl (by first | assumption | omega) ?_
          try simp only [pM_1, e0, e1, e9]
          rw [e7 _ i hi]
          refine g_callVv 72 2 rfl kX12_208 (by first | rfl | exact st_o hb | exact st_1 hb | exact st_2 hb | exact st_3 hb | exact st_4 hb | exact st_5 hb | exact st_o hb2 | exact st_1 hb2 | exact st_2 hb2 | exact st_3 hb2 | exact st_4 hb2 | exact st_5 hb2) dX12_layWear_69 ⟨rfl, rfl⟩ (om_bear hm hl h58) rfl rfl rfl ?_
          refine g_iinc2 75 rfl dX12_layWear_72 rfl rfl _ (by first | exact iinc1 _ | exact iincx _ | rfl) ?_
          refine g_goto 16 dX12_layWear_75 (by decide) ?_
          refine g_fg 3 ?_
          exact ih2
    · have idn : ∀ n, itN (crtB (gx x) R W (k.2.1 i) (k.2.2 i)) n B1 = B1 := fun n => by
        induction n with
        | zero => rfl
        | succ n ihn => rw [it4, ihn, crtB, if_neg hr]
      rw [idn] at ih
      refine g_iload2 17 rfl dX12_layWear_16 ?_
      refine g_aload0 18 rfl dX12_layWear_17 ?_
      refine g_getI 21 rfl fX12_128 (by first | rfl | exact st_o hb | exact st_1 hb | exact st_2 hb | exact st_3 hb | exact st_4 hb | exact st_5 hb | exact st_o hb2 | exact st_1 hb2 | exact st_2 hb2 | exact st_3 hb2 | exact st_4 hb2 | exact st_5 hb2) rfl dX12_layWear_18 ?_
      try simp only [pM_1, e0, e1, e9]
      refine g_cmpge 78 24 rfl dX12_layWear_21 (by decide) (fun _ => ?_) (fun _ => ?_)
      · refine g_iinc1 81 rfl dX12_layWear_78 rfl rfl _ (by first | exact iinc1 _ | exact iincx _ | rfl) ?_
        refine g_goto 6 dX12_layWear_81 (by decide) ?_
        refine g_fg 2 ?_
        exact ih
      · refine g_aload0 25 rfl dX12_layWear_24 ?_
        refine g_getR 28 rfl fX12_29 (by first | rfl | exact st_o hb | exact st_1 hb | exact st_2 hb | exact st_3 hb | exact st_4 hb | exact st_5 hb | exact st_o hb2 | exact st_1 hb2 | exact st_2 hb2 | exact st_3 hb2 | exact st_4 hb2 | exact st_5 hb2) rfl dX12_layWear_25 ?_
        refine g_iload1 29 rfl dX12_layWear_28 ?_
        refine g_iald 30 rfl dX12_layWear_29 (by first | rfl | exact st_o hb | exact st_1 hb | exact st_2 hb | exact st_3 hb | exact st_4 hb | exact st_5 hb | exact st_o hb2 | exact st_1 hb2 | exact st_2 hb2 | exact st_3 hb2 | exact st_4 hb2 | exact st_5 hb2) rfl rfl (by first | assumption | omega) ?_
        try simp only [pM_1, e0, e1, e9]
        rw [e6 _ i hi]
        refine g_aload0 31 rfl dX12_layWear_30 ?_
        refine g_getI 34 rfl fX12_125 (by first | rfl | exact st_o hb | exact st_1 hb | exact st_2 hb | exact st_3 hb | exact st_4 hb | exact st_5 hb | exact st_o hb2 | exact st_1 hb2 | exact st_2 hb2 | exact st_3 hb2 | exact st_4 hb2 | exact st_5 hb2) rfl dX12_layWear_31 ?_
        try simp only [pM_1, e0, e1, e9]
        refine g_cmpge 78 37 rfl dX12_layWear_34 (by decide) (fun _ => ?_) (fun h => absurd (nI_le (by omega) (by omega)) h)
        refine g_iinc1 81 rfl dX12_layWear_78 rfl rfl _ (by first | exact iinc1 _ | exact iincx _ | rfl) ?_
        refine g_goto 6 dX12_layWear_81 (by decide) ?_
        refine g_fg 2 ?_
        exact ih
