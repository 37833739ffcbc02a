/-! the reference: neighbours, hold, blows -/
theorem nI_m1 (k : Nat) : nI k + (-1) = nI k - 1 := by rw [Int32.sub_eq_add_neg]
theorem wi_k {n k : Nat} (hn : n < 2 ^ 31) (hk : k < 2 ^ 31) : (0 ≤ nI k ∧ nI k ≤ nI n - 1) ↔ k < n := by
  rw [wi_in hn, in_nI hn]
  constructor
  · intro ⟨_, h⟩; exact Nat.lt_of_not_le (fun z => h (nI_le z hk))
  · intro h; exact ⟨nI_pos hk, nI_ge h hn⟩
theorem wi_m {n : Nat} : ¬ (0 ≤ nI 0 - 1 ∧ nI 0 - 1 ≤ nI n - 1) := fun h => absurd h.1 (by decide)
/-- the last steps of beside: in the street, or none -/
theorem bes_fin {l : Launch} {M : Mm} {R W : Nat} {c s : Int32} {r q : Int32} {v : Int32} (hm : Mod M R W) (h1 : (0 ≤ r ∧ r ≤ nI R - 1) → (0 ≤ q ∧ q ≤ nI W - 1) → v = r * nI W + q) (h2 : ¬ ((0 ≤ r ∧ r ≤ nI R - 1) ∧ (0 ≤ q ∧ q ≤ nI W - 1)) → v = -1) : Go GM l mX12_beside 54 [.ref 0, .int c, .int s, .int r, .int q] [] M (fun z M' => z = some (.inl v) ∧ M' = M) := by
  have e0 := hm.2.1
  have e1 := hm.2.2
  refine g_iload3 55 rfl dX12_beside_54 ?_
  refine g_iconst 56 rfl (v := 0) dX12_beside_55 (by decide) ?_
  refine g_aload0 57 rfl dX12_beside_56 ?_
  refine g_getI 60 rfl fX12_125 (by first | rfl | exact st_o hb | exact st_1 hb | exact st_2 hb | exact st_3 hb | exact st_4 hb | exact st_5 hb | exact st_o hb2 | exact st_1 hb2 | exact st_2 hb2 | exact st_3 hb2 | exact st_4 hb2 | exact st_5 hb2) rfl dX12_beside_57 ?_
  try simp only [e0, e1]
  refine g_iconst 61 rfl (v := 1) dX12_beside_60 (by decide) ?_
  refine g_isub 62 rfl dX12_beside_61 ?_
  refine g_callS 65 3 rfl kX12_78 dX12_beside_62 ⟨rfl, rfl⟩ om_within rfl rfl rfl (fun r M1 hq => ?_)
  obtain ⟨rfl, ⟨rfl, hq⟩ | ⟨rfl, hq⟩⟩ := hq
  try simp only [rV, Option.toList, List.cons_append, List.nil_append]
  · refine g_ifeq 95 68 rfl dX12_beside_65 (by decide) (fun h => absurd h (by decide)) (fun _ => ?_)
    refine g_iload4 70 rfl dX12_beside_68 ?_
    refine g_iconst 71 rfl (v := 0) dX12_beside_70 (by decide) ?_
    refine g_aload0 72 rfl dX12_beside_71 ?_
    refine g_getI 75 rfl fX12_128 (by first | rfl | exact st_o hb | exact st_1 hb | exact st_2 hb | exact st_3 hb | exact st_4 hb | exact st_5 hb | exact st_o hb2 | exact st_1 hb2 | exact st_2 hb2 | exact st_3 hb2 | exact st_4 hb2 | exact st_5 hb2) rfl dX12_beside_72 ?_
    try simp only [e0, e1]
    refine g_iconst 76 rfl (v := 1) dX12_beside_75 (by decide) ?_
    refine g_isub 77 rfl dX12_beside_76 ?_
    refine g_callS 80 3 rfl kX12_78 dX12_beside_77 ⟨rfl, rfl⟩ om_within rfl rfl rfl (fun r M1 hq => ?_)
    obtain ⟨rfl, ⟨rfl, hq2⟩ | ⟨rfl, hq2⟩⟩ := hq
    try simp only [rV, Option.toList, List.cons_append, List.nil_append]
    · refine g_ifeq 95 83 rfl dX12_beside_80 (by decide) (fun h => absurd h (by decide)) (fun _ => ?_)
      refine g_iload3 84 rfl dX12_beside_83 ?_
      refine g_aload0 85 rfl dX12_beside_84 ?_
      refine g_getI 88 rfl fX12_128 (by first | rfl | exact st_o hb | exact st_1 hb | exact st_2 hb | exact st_3 hb | exact st_4 hb | exact st_5 hb | exact st_o hb2 | exact st_1 hb2 | exact st_2 hb2 | exact st_3 hb2 | exact st_4 hb2 | exact st_5 hb2) rfl dX12_beside_85 ?_
      try simp only [e0, e1]
      refine g_imul 89 rfl dX12_beside_88 ?_
      refine g_iload4 91 rfl dX12_beside_89 ?_
      refine g_iadd 92 rfl dX12_beside_91 ?_
      refine g_goto 96 dX12_beside_92 (by decide) ?_
      refine g_iret rfl dX12_beside_96 ?_
      exact ⟨by rw [h1 hq hq2], rfl⟩
    · refine g_ifeq 95 83 rfl dX12_beside_80 (by decide) (fun _ => ?_) (fun h => absurd rfl h)
      refine g_iconst 96 rfl (v := (-1)) dX12_beside_95 (by decide) ?_
      refine g_iret rfl dX12_beside_96 ?_
      exact ⟨by rw [h2 (fun z => hq2 z.2)], rfl⟩
  · refine g_ifeq 95 68 rfl dX12_beside_65 (by decide) (fun _ => ?_) (fun h => absurd rfl h)
    refine g_iconst 96 rfl (v := (-1)) dX12_beside_95 (by decide) ?_
    refine g_iret rfl dX12_beside_96 ?_
    exact ⟨by rw [h2 (fun z => hq z.1)], rfl⟩
theorem om_beside {l : Launch} {M : Mm} {R W c s : Nat} (hm : Mod M R W) (hc : c < R * W) (hs : s < 4) : Oi GM l mX12_beside [.ref 0, .int (nI c), .int (nI s)] M (oI (nb R W c s)) M := by
  have h30 := hm.le
  have hb := hm.b
  have e1 := hm.2.2
  have hW : 0 < W := by
    rcases Nat.eq_zero_or_pos W with h0 | h0
    · subst h0; simp at hc
    · exact h0
  have hd : nI c / nI W = nI (c / W) := pk_div (by omega) hW (by omega)
  have hr : nI c - nI c / nI W * nI W = nI (c % W) := pk_rem (by omega) hW (by omega)
  have hcW : c / W < R := Nat.div_lt_of_lt_mul (by rw [Nat.mul_comm]; exact hc)
  have hmW : c % W < W := Nat.mod_lt _ hW
  have hdm : c / W * W + c % W = c := by rw [Nat.mul_comm]; exact Nat.div_add_mod c W
  have hl30 : c / W ≤ 30 := by omega
  have hR5 : R ≤ 30 ∧ W ≤ 30 := by omega
  have hnW : ¬ nI W = 0 := nI_ne0 hW (by omega)
  have mk : ∀ (r q v : Int32), v = oI (nb R W c s) → (v = if (0 ≤ r ∧ r < nI R ∧ 0 ≤ q ∧ q < nI W) then r * nI W + q else -1) → Go GM l mX12_beside 54 [.ref 0, .int (nI c), .int (nI s), .int r, .int q] [] M (fun z M' => z = some (.inl (oI (nb R W c s))) ∧ M' = M) := by
    intro r q v hv hv2
    rw [← hv]
    have cv : ∀ (a : Int32) (n : Nat), n ≤ 30 → ((0 ≤ a ∧ a ≤ nI n - 1) ↔ (0 ≤ a ∧ a < nI n)) := by
      intro a n hn
      rw [wi_in (by omega), in_nI (by omega), Int32.not_lt, Int32.not_le]
    refine bes_fin hm (fun a b => ?_) (fun z => ?_)
    · rw [hv2, if_pos]
      have a := (cv r R hR5.1).mp a
      have b := (cv q W hR5.2).mp b
      exact ⟨a.1, a.2, b.1, b.2⟩
    · rw [hv2, if_neg]
      intro y
      exact z ⟨(cv r R hR5.1).mpr ⟨y.1, y.2.1⟩, (cv q W hR5.2).mpr ⟨y.2.2.1, y.2.2.2⟩⟩
  refine ok_of (by decide +kernel) rfl rfl ?_
  rcases (show s = 0 ∨ s = 1 ∨ s = 2 ∨ s = 3 by omega) with rfl | rfl | rfl | rfl
  · refine g_iload1 1 rfl dX12_beside_0 ?_
    refine g_aload0 2 rfl dX12_beside_1 ?_
    refine g_getI 5 rfl fX12_128 (by first | rfl | exact st_o hb | exact st_1 hb | exact st_2 hb | exact st_3 hb | exact st_4 hb | exact st_5 hb | exact st_o hb2 | exact st_1 hb2 | exact st_2 hb2 | exact st_3 hb2 | exact st_4 hb2 | exact st_5 hb2) rfl dX12_beside_2 ?_
    try simp only [e1]
    refine g_idiv 6 rfl dX12_beside_5 hnW ?_
    rw [hd]
    refine g_iload2 7 rfl dX12_beside_6 ?_
    refine g_ifne 14 10 rfl dX12_beside_7 (by decide) (fun h => absurd rfl h) (fun _ => ?_)
    refine g_iconst 11 rfl (v := (-1)) dX12_beside_10 (by decide) ?_
    refine g_goto 24 dX12_beside_11 (by decide) ?_
    refine g_iadd 25 rfl dX12_beside_24 ?_
    refine g_istore3 26 rfl dX12_beside_25 rfl rfl ?_
    refine g_iload1 27 rfl dX12_beside_26 ?_
    refine g_aload0 28 rfl dX12_beside_27 ?_
    refine g_getI 31 rfl fX12_128 (by first | rfl | exact st_o hb | exact st_1 hb | exact st_2 hb | exact st_3 hb | exact st_4 hb | exact st_5 hb | exact st_o hb2 | exact st_1 hb2 | exact st_2 hb2 | exact st_3 hb2 | exact st_4 hb2 | exact st_5 hb2) rfl dX12_beside_28 ?_
    try simp only [e1]
    refine g_irem 32 rfl dX12_beside_31 hnW ?_
    rw [hr, nI_m1]
    refine g_iload2 33 rfl dX12_beside_32 ?_
    refine g_iconst 34 rfl (v := 1) dX12_beside_33 (by decide) ?_
    refine g_cmpne 41 37 rfl dX12_beside_34 (by decide) (fun _ => ?_) (fun h => absurd h (by decide))
    refine g_iload2 42 rfl dX12_beside_41 ?_
    refine g_iconst 43 rfl (v := 3) dX12_beside_42 (by decide) ?_
    refine g_cmpne 50 46 rfl dX12_beside_43 (by decide) (fun _ => ?_) (fun h => absurd h (by decide))
    refine g_iconst 51 rfl (v := 0) dX12_beside_50 (by decide) ?_
    refine g_iadd 52 rfl dX12_beside_51 ?_
    refine g_istore4 54 rfl dX12_beside_52 rfl rfl ?_
    rw [Int32.add_zero]
    refine mk _ _ _ ?_ rfl
    have := num_0 (R := R) (W := W) hR5 hcW hmW
    rw [hdm] at this
    exact this
  · refine g_iload1 1 rfl dX12_beside_0 ?_
    refine g_aload0 2 rfl dX12_beside_1 ?_
    refine g_getI 5 rfl fX12_128 (by first | rfl | exact st_o hb | exact st_1 hb | exact st_2 hb | exact st_3 hb | exact st_4 hb | exact st_5 hb | exact st_o hb2 | exact st_1 hb2 | exact st_2 hb2 | exact st_3 hb2 | exact st_4 hb2 | exact st_5 hb2) rfl dX12_beside_2 ?_
    try simp only [e1]
    refine g_idiv 6 rfl dX12_beside_5 hnW ?_
    rw [hd]
    refine g_iload2 7 rfl dX12_beside_6 ?_
    refine g_ifne 14 10 rfl dX12_beside_7 (by decide) (fun _ => ?_) (fun h => absurd h (by decide))
    refine g_iload2 15 rfl dX12_beside_14 ?_
    refine g_iconst 16 rfl (v := 2) dX12_beside_15 (by decide) ?_
    refine g_cmpne 23 19 rfl dX12_beside_16 (by decide) (fun _ => ?_) (fun h => absurd h (by decide))
    refine g_iconst 24 rfl (v := 0) dX12_beside_23 (by decide) ?_
    refine g_iadd 25 rfl dX12_beside_24 ?_
    refine g_istore3 26 rfl dX12_beside_25 rfl rfl ?_
    refine g_iload1 27 rfl dX12_beside_26 ?_
    refine g_aload0 28 rfl dX12_beside_27 ?_
    refine g_getI 31 rfl fX12_128 (by first | rfl | exact st_o hb | exact st_1 hb | exact st_2 hb | exact st_3 hb | exact st_4 hb | exact st_5 hb | exact st_o hb2 | exact st_1 hb2 | exact st_2 hb2 | exact st_3 hb2 | exact st_4 hb2 | exact st_5 hb2) rfl dX12_beside_28 ?_
    try simp only [e1]
    refine g_irem 32 rfl dX12_beside_31 hnW ?_
    rw [hr, Int32.add_zero]
    refine g_iload2 33 rfl dX12_beside_32 ?_
    refine g_iconst 34 rfl (v := 1) dX12_beside_33 (by decide) ?_
    refine g_cmpne 41 37 rfl dX12_beside_34 (by decide) (fun h => absurd rfl h) (fun _ => ?_)
    refine g_iconst 38 rfl (v := 1) dX12_beside_37 (by decide) ?_
    refine g_goto 51 dX12_beside_38 (by decide) ?_
    refine g_iadd 52 rfl dX12_beside_51 ?_
    refine g_istore4 54 rfl dX12_beside_52 rfl rfl ?_
    refine mk _ _ _ ?_ rfl
    have := num_1 (R := R) (W := W) hR5 hcW hmW
    rw [hdm] at this
    exact this
  · refine g_iload1 1 rfl dX12_beside_0 ?_
    refine g_aload0 2 rfl dX12_beside_1 ?_
    refine g_getI 5 rfl fX12_128 (by first | rfl | exact st_o hb | exact st_1 hb | exact st_2 hb | exact st_3 hb | exact st_4 hb | exact st_5 hb | exact st_o hb2 | exact st_1 hb2 | exact st_2 hb2 | exact st_3 hb2 | exact st_4 hb2 | exact st_5 hb2) rfl dX12_beside_2 ?_
    try simp only [e1]
    refine g_idiv 6 rfl dX12_beside_5 hnW ?_
    rw [hd]
    refine g_iload2 7 rfl dX12_beside_6 ?_
    refine g_ifne 14 10 rfl dX12_beside_7 (by decide) (fun _ => ?_) (fun h => absurd h (by decide))
    refine g_iload2 15 rfl dX12_beside_14 ?_
    refine g_iconst 16 rfl (v := 2) dX12_beside_15 (by decide) ?_
    refine g_cmpne 23 19 rfl dX12_beside_16 (by decide) (fun h => absurd rfl h) (fun _ => ?_)
    refine g_iconst 20 rfl (v := 1) dX12_beside_19 (by decide) ?_
    refine g_goto 24 dX12_beside_20 (by decide) ?_
    refine g_iadd 25 rfl dX12_beside_24 ?_
    refine g_istore3 26 rfl dX12_beside_25 rfl rfl ?_
    refine g_iload1 27 rfl dX12_beside_26 ?_
    refine g_aload0 28 rfl dX12_beside_27 ?_
    refine g_getI 31 rfl fX12_128 (by first | rfl | exact st_o hb | exact st_1 hb | exact st_2 hb | exact st_3 hb | exact st_4 hb | exact st_5 hb | exact st_o hb2 | exact st_1 hb2 | exact st_2 hb2 | exact st_3 hb2 | exact st_4 hb2 | exact st_5 hb2) rfl dX12_beside_28 ?_
    try simp only [e1]
    refine g_irem 32 rfl dX12_beside_31 hnW ?_
    rw [hr]
    refine g_iload2 33 rfl dX12_beside_32 ?_
    refine g_iconst 34 rfl (v := 1) dX12_beside_33 (by decide) ?_
    refine g_cmpne 41 37 rfl dX12_beside_34 (by decide) (fun _ => ?_) (fun h => absurd h (by decide))
    refine g_iload2 42 rfl dX12_beside_41 ?_
    refine g_iconst 43 rfl (v := 3) dX12_beside_42 (by decide) ?_
    refine g_cmpne 50 46 rfl dX12_beside_43 (by decide) (fun _ => ?_) (fun h => absurd h (by decide))
    refine g_iconst 51 rfl (v := 0) dX12_beside_50 (by decide) ?_
    refine g_iadd 52 rfl dX12_beside_51 ?_
    refine g_istore4 54 rfl dX12_beside_52 rfl rfl ?_
    rw [Int32.add_zero]
    refine mk _ _ _ ?_ rfl
    have := num_2 (R := R) (W := W) hR5 hcW hmW
    rw [hdm] at this
    exact this
  · refine g_iload1 1 rfl dX12_beside_0 ?_
    refine g_aload0 2 rfl dX12_beside_1 ?_
    refine g_getI 5 rfl fX12_128 (by first | rfl | exact st_o hb | exact st_1 hb | exact st_2 hb | exact st_3 hb | exact st_4 hb | exact st_5 hb | exact st_o hb2 | exact st_1 hb2 | exact st_2 hb2 | exact st_3 hb2 | exact st_4 hb2 | exact st_5 hb2) rfl dX12_beside_2 ?_
    try simp only [e1]
    refine g_idiv 6 rfl dX12_beside_5 hnW ?_
    rw [hd]
    refine g_iload2 7 rfl dX12_beside_6 ?_
    refine g_ifne 14 10 rfl dX12_beside_7 (by decide) (fun _ => ?_) (fun h => absurd h (by decide))
    refine g_iload2 15 rfl dX12_beside_14 ?_
    refine g_iconst 16 rfl (v := 2) dX12_beside_15 (by decide) ?_
    refine g_cmpne 23 19 rfl dX12_beside_16 (by decide) (fun _ => ?_) (fun h => absurd h (by decide))
    refine g_iconst 24 rfl (v := 0) dX12_beside_23 (by decide) ?_
    refine g_iadd 25 rfl dX12_beside_24 ?_
    refine g_istore3 26 rfl dX12_beside_25 rfl rfl ?_
    refine g_iload1 27 rfl dX12_beside_26 ?_
    refine g_aload0 28 rfl dX12_beside_27 ?_
    refine g_getI 31 rfl fX12_128 (by first | rfl | exact st_o hb | exact st_1 hb | exact st_2 hb | exact st_3 hb | exact st_4 hb | exact st_5 hb | exact st_o hb2 | exact st_1 hb2 | exact st_2 hb2 | exact st_3 hb2 | exact st_4 hb2 | exact st_5 hb2) rfl dX12_beside_28 ?_
    try simp only [e1]
    refine g_irem 32 rfl dX12_beside_31 hnW ?_
    rw [hr, Int32.add_zero]
    refine g_iload2 33 rfl dX12_beside_32 ?_
    refine g_iconst 34 rfl (v := 1) dX12_beside_33 (by decide) ?_
    refine g_cmpne 41 37 rfl dX12_beside_34 (by decide) (fun _ => ?_) (fun h => absurd h (by decide))
    refine g_iload2 42 rfl dX12_beside_41 ?_
    refine g_iconst 43 rfl (v := 3) dX12_beside_42 (by decide) ?_
    refine g_cmpne 50 46 rfl dX12_beside_43 (by decide) (fun h => absurd rfl h) (fun _ => ?_)
    refine g_iconst 47 rfl (v := (-1)) dX12_beside_46 (by decide) ?_
    refine g_goto 51 dX12_beside_47 (by decide) ?_
    refine g_iadd 52 rfl dX12_beside_51 ?_
    refine g_istore4 54 rfl dX12_beside_52 rfl rfl ?_
    rw [nI_m1]
    refine mk _ _ _ ?_ rfl
    have := num_3 (R := R) (W := W) hR5 hcW hmW
    rw [hdm] at this
    exact this
theorem om_grip {l : Launch} {M : Mm} {c : Nat} {x : Sx} (hc : c < 30) : Oi GM l mX12_grip [.ref 0, .int (nI c)] (pM M x) (gripK (sK x c)) (pM M x) := by
  refine ok_of (by decide +kernel) rfl rfl ?_
  refine g_aload0 1 rfl dX12_grip_0 ?_
  refine g_getR 4 rfl fX12_7 (by first | rfl | exact st_o hb | exact st_1 hb | exact st_2 hb | exact st_3 hb | exact st_4 hb | exact st_5 hb | exact st_o hb2 | exact st_1 hb2 | exact st_2 hb2 | exact st_3 hb2 | exact st_4 hb2 | exact st_5 hb2) rfl dX12_grip_1 ?_
  refine g_iload1 5 rfl dX12_grip_4 ?_
  refine g_iald 6 rfl dX12_grip_5 (by first | rfl | exact st_o hb | exact st_1 hb | exact st_2 hb | exact st_3 hb | exact st_4 hb | exact st_5 hb | exact st_o hb2 | exact st_1 hb2 | exact st_2 hb2 | exact st_3 hb2 | exact st_4 hb2 | exact st_5 hb2) rfl rfl (by first | assumption | omega) ?_
  try simp only [pM_1, pM_2, pM_3, pM_4, pM_5, pM_w1, pM_w2, pM_w3, pM_w4, pM_w5]
  refine g_tab5 0 1 2 3 4 46 40 42 46 46 44 dX12_grip_6 (by decide) (by decide) (by decide) (by decide) (by decide) (by decide) (by decide) (by decide) (by decide) (by decide) (by decide) (by decide) (fun h6 => ?_) (fun h6 => ?_) (fun h6 => ?_) (fun h6 => ?_) (fun h6 => ?_) (fun h6 => ?_)
  · refine g_iconst 47 rfl (v := 0) dX12_grip_46 (by decide) ?_
    refine g_iret rfl dX12_grip_47 ?_
    exact ⟨by first | rw [gripK_out h6] | (rw [h6]; rfl), rfl⟩
  · refine g_iconst 41 rfl (v := 2) dX12_grip_40 (by decide) ?_
    refine g_iret rfl dX12_grip_41 ?_
    exact ⟨by first | rw [gripK_out h6] | (rw [h6]; rfl), rfl⟩
  · refine g_iconst 43 rfl (v := 1) dX12_grip_42 (by decide) ?_
    refine g_iret rfl dX12_grip_43 ?_
    exact ⟨by first | rw [gripK_out h6] | (rw [h6]; rfl), rfl⟩
  · refine g_iconst 47 rfl (v := 0) dX12_grip_46 (by decide) ?_
    refine g_iret rfl dX12_grip_47 ?_
    exact ⟨by first | rw [gripK_out h6] | (rw [h6]; rfl), rfl⟩
  · refine g_iconst 47 rfl (v := 0) dX12_grip_46 (by decide) ?_
    refine g_iret rfl dX12_grip_47 ?_
    exact ⟨by first | rw [gripK_out h6] | (rw [h6]; rfl), rfl⟩
  · refine g_iconst 45 rfl (v := 3) dX12_grip_44 (by decide) ?_
    refine g_iret rfl dX12_grip_45 ?_
    exact ⟨by first | rw [gripK_out h6] | (rw [h6]; rfl), rfl⟩
theorem om_hold {l : Launch} {M : Mm} {R W c : Nat} {x : Sx} (hm : Mod M R W) (hc : c < R * W) : Oi GM l mX12_hold [.ref 0, .int (nI c)] (pM M x) (holdS R W x c) (pM M x) := by
  have h30 := hm.le
  have hm2 := pM_mod (x := x) hm
  refine ok_of (by decide +kernel) rfl rfl ?_
  refine g_aload0 1 rfl dX12_hold_0 ?_
  refine g_getR 4 rfl fX12_22 (by first | rfl | exact st_o hb | exact st_1 hb | exact st_2 hb | exact st_3 hb | exact st_4 hb | exact st_5 hb | exact st_o hb2 | exact st_1 hb2 | exact st_2 hb2 | exact st_3 hb2 | exact st_4 hb2 | exact st_5 hb2) rfl dX12_hold_1 ?_
  refine g_iload1 5 rfl dX12_hold_4 ?_
  refine g_iald 6 rfl dX12_hold_5 (by first | rfl | exact st_o hb | exact st_1 hb | exact st_2 hb | exact st_3 hb | exact st_4 hb | exact st_5 hb | exact st_o hb2 | exact st_1 hb2 | exact st_2 hb2 | exact st_3 hb2 | exact st_4 hb2 | exact st_5 hb2) rfl rfl (by first | assumption | omega) ?_
  try simp only [pM_1, pM_2, pM_3, pM_4, pM_5, pM_w1, pM_w2, pM_w3, pM_w4, pM_w5]
  refine g_istore2 7 rfl dX12_hold_6 rfl rfl ?_
  refine g_iconst 8 rfl (v := 0) dX12_hold_7 (by decide) ?_
  refine g_istore3 9 rfl dX12_hold_8 rfl rfl ?_
  refine loop_up (P := fun i => Go GM l mX12_hold 9 [.ref 0, .int (nI c), .int (holdN (sK x) (sJ x) R W c i), .int (nI i), .null] [] (pM M x) _) 4 ?_ ?_ 0 (by omega)
  · refine g_iload3 10 rfl dX12_hold_9 ?_
    refine g_iconst 11 rfl (v := 4) dX12_hold_10 (by decide) ?_
    refine g_cmpge 47 14 rfl dX12_hold_11 (by decide) (fun _ => ?_) (fun h => absurd (by decide) h)
    refine g_iload2 48 rfl dX12_hold_47 ?_
    refine g_iret rfl dX12_hold_48 ?_
    exact ⟨rfl, rfl⟩
  · intro i hi ih
    refine g_iload3 10 rfl dX12_hold_9 ?_
    refine g_iconst 11 rfl (v := 4) dX12_hold_10 (by decide) ?_
    refine g_cmpge 47 14 rfl dX12_hold_11 (by decide) (fun h => absurd h (nI_ge hi (by decide))) (fun _ => ?_)
    refine g_aload0 15 rfl dX12_hold_14 ?_
    refine g_iload1 16 rfl dX12_hold_15 ?_
    refine g_iload3 17 rfl dX12_hold_16 ?_
    refine g_callVi 20 2 rfl kX12_147 (by first | rfl | exact st_o hb | exact st_1 hb | exact st_2 hb | exact st_3 hb | exact st_4 hb | exact st_5 hb | exact st_o hb2 | exact st_1 hb2 | exact st_2 hb2 | exact st_3 hb2 | exact st_4 hb2 | exact st_5 hb2) dX12_hold_17 ⟨rfl, rfl⟩ (om_beside hm2 hc hi) rfl rfl rfl ?_
    refine g_istore4 22 rfl dX12_hold_20 rfl rfl ?_
    refine g_iload2 23 rfl dX12_hold_22 ?_
    refine g_iload4 25 rfl dX12_hold_23 ?_
    have e : holdN (sK x) (sJ x) R W c (i + 1) = holdN (sK x) (sJ x) R W c i + gO (sK x) (nb R W c i) := rfl
    rw [e] at ih
    cases hk : nb R W c i with
    | none =>
      rw [hk] at ih
      refine g_iconst 26 rfl (v := (-1)) dX12_hold_25 (by decide) ?_
      refine g_cmpne 33 29 rfl dX12_hold_26 (by decide) (fun h => absurd rfl h) (fun _ => ?_)
      refine g_iconst 30 rfl (v := 0) dX12_hold_29 (by decide) ?_
      refine g_goto 39 dX12_hold_30 (by decide) ?_
      refine g_iadd 40 rfl dX12_hold_39 ?_
      refine g_istore2 41 rfl dX12_hold_40 rfl rfl ?_
      refine g_iinc3 44 rfl dX12_hold_41 rfl rfl _ (by first | exact iinc1 _ | exact iincx _ | rfl) ?_
      refine g_goto 9 dX12_hold_44 (by decide) ?_
      refine g_fg 4 ?_
      exact ih
    | some k =>
      rw [hk] at ih
      have hk2 := nb_lt hc hk
      refine g_iconst 26 rfl (v := (-1)) dX12_hold_25 (by decide) ?_
      refine g_cmpne 33 29 rfl dX12_hold_26 (by decide) (fun _ => ?_) (fun h => absurd h (nI_ne_m1 (by omega)))
      refine g_aload0 34 rfl dX12_hold_33 ?_
      refine g_iload4 36 rfl dX12_hold_34 ?_
      refine g_callVi 39 1 rfl kX12_150 (by first | rfl | exact st_o hb | exact st_1 hb | exact st_2 hb | exact st_3 hb | exact st_4 hb | exact st_5 hb | exact st_o hb2 | exact st_1 hb2 | exact st_2 hb2 | exact st_3 hb2 | exact st_4 hb2 | exact st_5 hb2) dX12_hold_36 ⟨rfl, rfl⟩ (om_grip (by omega)) rfl rfl rfl ?_
      refine g_iadd 40 rfl dX12_hold_39 ?_
      refine g_istore2 41 rfl dX12_hold_40 rfl rfl ?_
      refine g_iinc3 44 rfl dX12_hold_41 rfl rfl _ (by first | exact iinc1 _ | exact iincx _ | rfl) ?_
      refine g_goto 9 dX12_hold_44 (by decide) ?_
      refine g_fg 4 ?_
      exact ih
theorem om_cellNow {l : Launch} {M : Mm} {R W c : Nat} {x : Sx} {q : Int32} (hm : Mod M R W) (hc : c < R * W) (hq : vp_in q 6) : Oi GM l mX12_cellNow [.ref 0, .int (nI c), .int q] (pM M x) (telS R W x c q) (pM M x) := by
  have h30 := hm.le
  refine ok_of (by decide +kernel) rfl rfl ?_
  refine g_iload2 1 rfl dX12_cellNow_0 ?_
  refine g_tab5 0 1 2 3 4 71 36 43 50 57 64 dX12_cellNow_1 (by decide) (by decide) (by decide) (by decide) (by decide) (by decide) (by decide) (by decide) (by decide) (by decide) (by decide) (by decide) (fun h1 => ?_) (fun h1 => ?_) (fun h1 => ?_) (fun h1 => ?_) (fun h1 => ?_) (fun h1 => ?_)
  · refine g_aload0 72 rfl dX12_cellNow_71 ?_
    refine g_iload1 73 rfl dX12_cellNow_72 ?_
    refine g_callVi 76 1 rfl kX12_153 (by first | rfl | exact st_o hb | exact st_1 hb | exact st_2 hb | exact st_3 hb | exact st_4 hb | exact st_5 hb | exact st_o hb2 | exact st_1 hb2 | exact st_2 hb2 | exact st_3 hb2 | exact st_4 hb2 | exact st_5 hb2) dX12_cellNow_73 ⟨rfl, rfl⟩ (om_hold hm hc) rfl rfl rfl ?_
    refine g_iret rfl dX12_cellNow_76 ?_
    refine ⟨?_, rfl⟩
    first | (rw [h1]; rfl) | (obtain ⟨j, hj, rfl⟩ := vp_in_of hq (by decide); rw [nI_toInt (by omega)] at h1; have : j = 5 := (by omega); subst this; rfl)
  · refine g_aload0 37 rfl dX12_cellNow_36 ?_
    refine g_getR 40 rfl fX12_7 (by first | rfl | exact st_o hb | exact st_1 hb | exact st_2 hb | exact st_3 hb | exact st_4 hb | exact st_5 hb | exact st_o hb2 | exact st_1 hb2 | exact st_2 hb2 | exact st_3 hb2 | exact st_4 hb2 | exact st_5 hb2) rfl dX12_cellNow_37 ?_
    refine g_iload1 41 rfl dX12_cellNow_40 ?_
    refine g_iald 42 rfl dX12_cellNow_41 (by first | rfl | exact st_o hb | exact st_1 hb | exact st_2 hb | exact st_3 hb | exact st_4 hb | exact st_5 hb | exact st_o hb2 | exact st_1 hb2 | exact st_2 hb2 | exact st_3 hb2 | exact st_4 hb2 | exact st_5 hb2) rfl rfl (by first | assumption | omega) ?_
    try simp only [pM_1, pM_2, pM_3, pM_4, pM_5, pM_w1, pM_w2, pM_w3, pM_w4, pM_w5]
    refine g_iret rfl dX12_cellNow_42 ?_
    refine ⟨?_, rfl⟩
    first | (rw [h1]; rfl) | (obtain ⟨j, hj, rfl⟩ := vp_in_of hq (by decide); rw [nI_toInt (by omega)] at h1; have : j = 5 := (by omega); subst this; rfl)
  · refine g_aload0 44 rfl dX12_cellNow_43 ?_
    refine g_getR 47 rfl fX12_13 (by first | rfl | exact st_o hb | exact st_1 hb | exact st_2 hb | exact st_3 hb | exact st_4 hb | exact st_5 hb | exact st_o hb2 | exact st_1 hb2 | exact st_2 hb2 | exact st_3 hb2 | exact st_4 hb2 | exact st_5 hb2) rfl dX12_cellNow_44 ?_
    refine g_iload1 48 rfl dX12_cellNow_47 ?_
    refine g_iald 49 rfl dX12_cellNow_48 (by first | rfl | exact st_o hb | exact st_1 hb | exact st_2 hb | exact st_3 hb | exact st_4 hb | exact st_5 hb | exact st_o hb2 | exact st_1 hb2 | exact st_2 hb2 | exact st_3 hb2 | exact st_4 hb2 | exact st_5 hb2) rfl rfl (by first | assumption | omega) ?_
    try simp only [pM_1, pM_2, pM_3, pM_4, pM_5, pM_w1, pM_w2, pM_w3, pM_w4, pM_w5]
    refine g_iret rfl dX12_cellNow_49 ?_
    refine ⟨?_, rfl⟩
    first | (rw [h1]; rfl) | (obtain ⟨j, hj, rfl⟩ := vp_in_of hq (by decide); rw [nI_toInt (by omega)] at h1; have : j = 5 := (by omega); subst this; rfl)
  · refine g_aload0 51 rfl dX12_cellNow_50 ?_
    refine g_getR 54 rfl fX12_16 (by first | rfl | exact st_o hb | exact st_1 hb | exact st_2 hb | exact st_3 hb | exact st_4 hb | exact st_5 hb | exact st_o hb2 | exact st_1 hb2 | exact st_2 hb2 | exact st_3 hb2 | exact st_4 hb2 | exact st_5 hb2) rfl dX12_cellNow_51 ?_
    refine g_iload1 55 rfl dX12_cellNow_54 ?_
    refine g_iald 56 rfl dX12_cellNow_55 (by first | rfl | exact st_o hb | exact st_1 hb | exact st_2 hb | exact st_3 hb | exact st_4 hb | exact st_5 hb | exact st_o hb2 | exact st_1 hb2 | exact st_2 hb2 | exact st_3 hb2 | exact st_4 hb2 | exact st_5 hb2) rfl rfl (by first | assumption | omega) ?_
    try simp only [pM_1, pM_2, pM_3, pM_4, pM_5, pM_w1, pM_w2, pM_w3, pM_w4, pM_w5]
    refine g_iret rfl dX12_cellNow_56 ?_
    refine ⟨?_, rfl⟩
    first | (rw [h1]; rfl) | (obtain ⟨j, hj, rfl⟩ := vp_in_of hq (by decide); rw [nI_toInt (by omega)] at h1; have : j = 5 := (by omega); subst this; rfl)
  · refine g_aload0 58 rfl dX12_cellNow_57 ?_
    refine g_getR 61 rfl fX12_19 (by first | rfl | exact st_o hb | exact st_1 hb | exact st_2 hb | exact st_3 hb | exact st_4 hb | exact st_5 hb | exact st_o hb2 | exact st_1 hb2 | exact st_2 hb2 | exact st_3 hb2 | exact st_4 hb2 | exact st_5 hb2) rfl dX12_cellNow_58 ?_
    refine g_iload1 62 rfl dX12_cellNow_61 ?_
    refine g_iald 63 rfl dX12_cellNow_62 (by first | rfl | exact st_o hb | exact st_1 hb | exact st_2 hb | exact st_3 hb | exact st_4 hb | exact st_5 hb | exact st_o hb2 | exact st_1 hb2 | exact st_2 hb2 | exact st_3 hb2 | exact st_4 hb2 | exact st_5 hb2) rfl rfl (by first | assumption | omega) ?_
    try simp only [pM_1, pM_2, pM_3, pM_4, pM_5, pM_w1, pM_w2, pM_w3, pM_w4, pM_w5]
    refine g_iret rfl dX12_cellNow_63 ?_
    refine ⟨?_, rfl⟩
    first | (rw [h1]; rfl) | (obtain ⟨j, hj, rfl⟩ := vp_in_of hq (by decide); rw [nI_toInt (by omega)] at h1; have : j = 5 := (by omega); subst this; rfl)
  · refine g_aload0 65 rfl dX12_cellNow_64 ?_
    refine g_getR 68 rfl fX12_22 (by first | rfl | exact st_o hb | exact st_1 hb | exact st_2 hb | exact st_3 hb | exact st_4 hb | exact st_5 hb | exact st_o hb2 | exact st_1 hb2 | exact st_2 hb2 | exact st_3 hb2 | exact st_4 hb2 | exact st_5 hb2) rfl dX12_cellNow_65 ?_
    refine g_iload1 69 rfl dX12_cellNow_68 ?_
    refine g_iald 70 rfl dX12_cellNow_69 (by first | rfl | exact st_o hb | exact st_1 hb | exact st_2 hb | exact st_3 hb | exact st_4 hb | exact st_5 hb | exact st_o hb2 | exact st_1 hb2 | exact st_2 hb2 | exact st_3 hb2 | exact st_4 hb2 | exact st_5 hb2) rfl rfl (by first | assumption | omega) ?_
    try simp only [pM_1, pM_2, pM_3, pM_4, pM_5, pM_w1, pM_w2, pM_w3, pM_w4, pM_w5]
    refine g_iret rfl dX12_cellNow_70 ?_
    refine ⟨?_, rfl⟩
    first | (rw [h1]; rfl) | (obtain ⟨j, hj, rfl⟩ := vp_in_of hq (by decide); rw [nI_toInt (by omega)] at h1; have : j = 5 := (by omega); subst this; rfl)
theorem om_stoneMany {l : Launch} {M : Mm} {R W : Nat} {x : Sx} (hm : Mod M R W) : Oi GM l mX12_stoneMany [.ref 0] (pM M x) (stoN x (R * W)) (pM M x) := by
  have h30 := hm.le
  have hm2 := pM_mod (x := x) hm
  refine ok_of (by decide +kernel) rfl rfl ?_
  refine g_iconst 1 rfl (v := 0) dX12_stoneMany_0 (by decide) ?_
  refine g_istore1 2 rfl dX12_stoneMany_1 rfl rfl ?_
  refine g_iconst 3 rfl (v := 0) dX12_stoneMany_2 (by decide) ?_
  refine g_istore2 4 rfl dX12_stoneMany_3 rfl rfl ?_
  refine loop_up (P := fun i => Go GM l mX12_stoneMany 4 [.ref 0, .int (stoN x i), .int (nI i)] [] (pM M x) _) (R * W) ?_ ?_ 0 (by omega)
  · refine g_iload2 5 rfl dX12_stoneMany_4 ?_
    refine g_aload0 6 rfl dX12_stoneMany_5 ?_
    refine g_callVi 9 0 rfl kX12_140 (by first | rfl | exact st_o hb | exact st_1 hb | exact st_2 hb | exact st_3 hb | exact st_4 hb | exact st_5 hb | exact st_o hb2 | exact st_1 hb2 | exact st_2 hb2 | exact st_3 hb2 | exact st_4 hb2 | exact st_5 hb2) dX12_stoneMany_6 ⟨rfl, rfl⟩ (om_cells hm2) rfl rfl rfl ?_
    refine g_cmpge 36 12 rfl dX12_stoneMany_9 (by decide) (fun h9 => ?_) (fun h => absurd (Int32.le_refl _) h)
    refine g_iload1 37 rfl dX12_stoneMany_36 ?_
    refine g_iret rfl dX12_stoneMany_37 ?_
    exact ⟨rfl, rfl⟩
  · intro i hi ih
    rw [stoN] at ih
    refine g_iload2 5 rfl dX12_stoneMany_4 ?_
    refine g_aload0 6 rfl dX12_stoneMany_5 ?_
    refine g_callVi 9 0 rfl kX12_140 (by first | rfl | exact st_o hb | exact st_1 hb | exact st_2 hb | exact st_3 hb | exact st_4 hb | exact st_5 hb | exact st_o hb2 | exact st_1 hb2 | exact st_2 hb2 | exact st_3 hb2 | exact st_4 hb2 | exact st_5 hb2) dX12_stoneMany_6 ⟨rfl, rfl⟩ (om_cells hm2) rfl rfl rfl ?_
    refine g_cmpge 36 12 rfl dX12_stoneMany_9 (by decide) (fun h => absurd h (nI_ge hi (by omega))) (fun h9 => ?_)
    refine g_iload1 13 rfl dX12_stoneMany_12 ?_
    refine g_aload0 14 rfl dX12_stoneMany_13 ?_
    refine g_getR 17 rfl fX12_7 (by first | rfl | exact st_o hb | exact st_1 hb | exact st_2 hb | exact st_3 hb | exact st_4 hb | exact st_5 hb | exact st_o hb2 | exact st_1 hb2 | exact st_2 hb2 | exact st_3 hb2 | exact st_4 hb2 | exact st_5 hb2) rfl dX12_stoneMany_14 ?_
    refine g_iload2 18 rfl dX12_stoneMany_17 ?_
    refine g_iald 19 rfl dX12_stoneMany_18 (by first | rfl | exact st_o hb | exact st_1 hb | exact st_2 hb | exact st_3 hb | exact st_4 hb | exact st_5 hb | exact st_o hb2 | exact st_1 hb2 | exact st_2 hb2 | exact st_3 hb2 | exact st_4 hb2 | exact st_5 hb2) rfl rfl (by first | assumption | omega) ?_
    try simp only [pM_1, pM_2, pM_3, pM_4, pM_5, pM_w1, pM_w2, pM_w3, pM_w4, pM_w5]
    refine g_iconst 20 rfl (v := (-1)) dX12_stoneMany_19 (by decide) ?_
    refine g_cmpne 27 23 rfl dX12_stoneMany_20 (by decide) (fun h20 => ?_) (fun h20 => ?_)
    · refine g_iconst 28 rfl (v := 1) dX12_stoneMany_27 (by decide) ?_
      refine g_iadd 29 rfl dX12_stoneMany_28 ?_
      refine g_istore1 30 rfl dX12_stoneMany_29 rfl rfl ?_
      refine g_iinc2 33 rfl dX12_stoneMany_30 rfl rfl _ (by first | exact iinc1 _ | exact iincx _ | rfl) ?_
      refine g_goto 4 dX12_stoneMany_33 (by decide) ?_
      (first | (rw [if_neg h20] at ih; exact ih) | (rw [if_pos h20] at ih; rw [Int32.add_zero]; exact ih))
    · refine g_iconst 24 rfl (v := 0) dX12_stoneMany_23 (by decide) ?_
      refine g_goto 28 dX12_stoneMany_24 (by decide) ?_
      refine g_iadd 29 rfl dX12_stoneMany_28 ?_
      refine g_istore1 30 rfl dX12_stoneMany_29 rfl rfl ?_
      refine g_iinc2 33 rfl dX12_stoneMany_30 rfl rfl _ (by first | exact iinc1 _ | exact iincx _ | rfl) ?_
      refine g_goto 4 dX12_stoneMany_33 (by decide) ?_
      (first | (rw [if_neg h20] at ih; exact ih) | (rw [if_pos h20] at ih; rw [Int32.add_zero]; exact ih))
