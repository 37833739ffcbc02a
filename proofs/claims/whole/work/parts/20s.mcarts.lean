/-! the reference's texts: carts -/
def RC3 (M : Mm) (f k z : Nat → Int32) : Mm := setA (setA (setA M 0 f) 14 k) 15 z
theorem rc3_0 {M : Mm} {f k z : Nat → Int32} : (RC3 M f k z).1 0 = f := by unfold RC3; rw [sA_n (by decide), sA_n (by decide), sA_s]
theorem rc3_14 {M : Mm} {f k z : Nat → Int32} : (RC3 M f k z).1 14 = k := by unfold RC3; rw [sA_n (by decide), sA_s]
theorem rc3_15 {M : Mm} {f k z : Nat → Int32} : (RC3 M f k z).1 15 = z := by unfold RC3; rw [sA_s]
theorem rc3_n {M : Mm} {f k z : Nat → Int32} {h : Nat} (h3 : h ≠ 0) (h4 : h ≠ 14) (h5 : h ≠ 15) : (RC3 M f k z).1 h = M.1 h := by unfold RC3; rw [sA_n h5, sA_n h4, sA_n h3]
theorem rc3_w0 {M : Mm} {f k z e : Nat → Int32} : setA (RC3 M f k z) 0 e = RC3 M e k z := by unfold RC3; rw [sA_sw (by decide), sA_sw (h' := 0) (h := 14) (by decide), sA_sA]
theorem rc3_w14 {M : Mm} {f k z e : Nat → Int32} : setA (RC3 M f k z) 14 e = RC3 M f e z := by unfold RC3; rw [sA_sw (by decide), sA_sA]
theorem rc3_w15 {M : Mm} {f k z e : Nat → Int32} : setA (RC3 M f k z) 15 e = RC3 M f k e := by unfold RC3; rw [sA_sA]
theorem rc3_id {M : Mm} : RC3 M (M.1 0) (M.1 14) (M.1 15) = M := by unfold RC3; rw [sA_id, sA_id, sA_id]
/-- the reference's rows hold carts being read -/
def CMr (f a b : Nat → Int32) (s : Cs) : Prop := csI s ∧ f 31 = nI s.1 ∧ (∀ i, i < csM s → a i = s.2.2.1 i) ∧ ∀ i, i < s.1 → b i = s.2.2.2 i
abbrev qNc (M : Mm) (f0 : Nat → Int32) (c : Int32) (s : Cs) : Rr → Mm → Prop := fun r M' => ∃ f a b, M' = RC3 M f a b ∧ (∀ q, q ≤ 22 → f q = f0 q) ∧ ((∃ s', stC c s = some s' ∧ CMr f a b s' ∧ r = some (.inl (nI s'.2.1))) ∨ (r = some (.inl (-1)) ∧ stC c s = none))
theorem dig_49 {c : Int32} : (49 ≤ c ∧ c ≤ 57) ↔ (dig c ∧ ¬ c = 48) := by
  unfold dig
  rw [← Int32.toInt_inj]
  simp only [Int32.le_iff_toInt_le]
  have e1 : (48 : Int32).toInt = 48 := by decide
  have e2 : (57 : Int32).toInt = 57 := by decide
  have e3 : (49 : Int32).toInt = 49 := by decide
  rw [e1, e2, e3]
  omega
theorem om_nextCart {l : Launch} {M : Mm} {c : Int32} {f a b : Nat → Int32} {s : Cs} (hs : CMr f a b s) : Ok GM l mX12_nextCart [.ref 0, .int (nI s.2.1), .int c] (RC3 M f a b) (qNc M f c s) := by
  obtain ⟨hI, e31, ha, hb⟩ := hs
  obtain ⟨k, d, ro, lo⟩ := s
  simp only at e31 hb
  obtain ⟨hk6, hd4, hk5, hk1⟩ := hI
  simp only at hk6 hd4 hk5 hk1
  show Ok GM l mX12_nextCart [.ref 0, .int (nI d), .int c] (RC3 M f a b) (qNc M f c (k, d, ro, lo))
  refine ok_of (by decide +kernel) rfl rfl ?_
  have tail : 3 ≤ d → ¬ (d = 3 ∧ dig c) → Go GM l mX12_nextCart 165 [.ref 0, .int (nI d), .int c] [] (RC3 M f a b) (qNc M f c (k, d, ro, lo)) := by
    intro hd3 hc
    have d0 : ¬ d = 0 := by omega
    have d1 : ¬ d = 1 := by omega
    have d2 : ¬ d = 2 := by omega
    have em : csM (k, d, ro, lo) = k := by simp only [csM]; rw [if_neg (by omega)]
    rw [em] at ha
    refine g_iload2 166 rfl dX12_nextCart_165 ?_
    refine g_bipush 168 rfl (v := 44) dX12_nextCart_166 (by decide) ?_
    refine g_cmpne 184 171 rfl dX12_nextCart_168 (by decide) (fun q => ?_) (fun q => ?_)
    · refine g_iconst 185 rfl (v := (-1)) dX12_nextCart_184 (by decide) ?_
      refine g_iret rfl dX12_nextCart_185 ?_
      refine ⟨f, a, b, rfl, up22s, Or.inr ⟨rfl, ?_⟩⟩
      simp only [stC, d0, d1, d2, if_false]
      rw [if_neg hc, if_neg (fun z => q z.1)]
    · refine g_aload0 172 rfl dX12_nextCart_171 ?_
      refine g_getI 175 rfl fX12_109 (by first | rfl | exact st_o hb | exact st_1 hb | exact st_2 hb | exact st_3 hb | exact st_4 hb | exact st_5 hb | exact st_o hb2 | exact st_1 hb2 | exact st_2 hb2 | exact st_3 hb2 | exact st_4 hb2 | exact st_5 hb2) rfl dX12_nextCart_172 ?_
      try simp only [rc3_0, rc3_14, rc3_15, rc3_w0, rc3_w14, rc3_w15, e31]
      refine g_bipush 177 rfl (v := 6) dX12_nextCart_175 (by decide) ?_
      refine g_cmpge 184 180 rfl dX12_nextCart_177 (by decide) (fun q2 => ?_) (fun q2 => ?_)
      · refine g_iconst 185 rfl (v := (-1)) dX12_nextCart_184 (by decide) ?_
        refine g_iret rfl dX12_nextCart_185 ?_
        refine ⟨f, a, b, rfl, up22s, Or.inr ⟨rfl, ?_⟩⟩
        simp only [stC, d0, d1, d2, if_false]
        rw [if_neg hc, if_neg (fun z => absurd q2 (nI_ge (b := 6) z.2 (by decide)))]
      · have hk6' : k < 6 := Nat.lt_of_not_le (fun z => q2 (nI_le (a := 6) z (by omega)))
        refine g_iconst 181 rfl (v := 0) dX12_nextCart_180 (by decide) ?_
        refine g_goto 185 dX12_nextCart_181 (by decide) ?_
        refine g_iret rfl dX12_nextCart_185 ?_
        have em2 : csM (k, 0, ro, lo) = k := by simp [csM]
        refine ⟨f, a, b, rfl, up22s, Or.inl ⟨(k, 0, ro, lo), ?_, ⟨⟨hk6, by show 0 ≤ 4; omega, fun _ => by show k ≤ 5; omega, fun h => absurd h (by show ¬ 3 ≤ 0; omega)⟩, e31, by rw [em2]; exact ha, hb⟩, rfl⟩⟩
        simp only [stC, d0, d1, d2, if_false]
        rw [if_neg hc, if_pos ⟨q, hk6'⟩]
  refine g_iload1 1 rfl dX12_nextCart_0 ?_
  rcases tab4 hd4 with rfl | rfl | rfl | rfl | rfl
  · have hk := hk5 (by omega)
    have em : csM (k, 0, ro, lo) = k := by simp [csM]
    rw [em] at ha
    refine g_tabIn 28 dX12_nextCart_1 (by decide) (by decide) (by rfl) (by decide) ?_
    refine g_aload0 29 rfl dX12_nextCart_28 ?_
    refine g_getR 32 rfl fX12_54 (by first | rfl | exact st_o hb | exact st_1 hb | exact st_2 hb | exact st_3 hb | exact st_4 hb | exact st_5 hb | exact st_o hb2 | exact st_1 hb2 | exact st_2 hb2 | exact st_3 hb2 | exact st_4 hb2 | exact st_5 hb2) rfl dX12_nextCart_29 ?_
    refine g_aload0 33 rfl dX12_nextCart_32 ?_
    refine g_getI 36 rfl fX12_109 (by first | rfl | exact st_o hb | exact st_1 hb | exact st_2 hb | exact st_3 hb | exact st_4 hb | exact st_5 hb | exact st_o hb2 | exact st_1 hb2 | exact st_2 hb2 | exact st_3 hb2 | exact st_4 hb2 | exact st_5 hb2) rfl dX12_nextCart_33 ?_
    try simp only [rc3_0, rc3_14, rc3_15, rc3_w0, rc3_w14, rc3_w15, e31]
    refine g_iload2 37 rfl dX12_nextCart_36 ?_
    refine g_bipush 39 rfl (v := 48) dX12_nextCart_37 (by decide) ?_
    refine g_isub 40 rfl dX12_nextCart_39 ?_
    refine g_iast 41 rfl dX12_nextCart_40 (by first | rfl | exact st_o hb | exact st_1 hb | exact st_2 hb | exact st_3 hb | exact st_4 hb | exact st_5 hb | exact st_o hb2 | exact st_1 hb2 | exact st_2 hb2 | exact st_3 hb2 | exact st_4 hb2 | exact st_5 hb2) rfl rfl (by first | assumption | omega) ?_
    try simp only [rc3_0, rc3_14, rc3_15, rc3_w0, rc3_w14, rc3_w15, e31]
    refine g_iload2 42 rfl dX12_nextCart_41 ?_
    refine g_callS 45 1 rfl kX12_112 dX12_nextCart_42 ⟨rfl, rfl⟩ om_isDigit rfl rfl rfl (fun r M1 hq => ?_)
    obtain ⟨rfl, ⟨rfl, hq⟩ | ⟨rfl, hq⟩⟩ := hq
    try simp only [rV, Option.toList, List.cons_append, List.nil_append]
    · refine g_ifeq 52 48 rfl dX12_nextCart_45 (by decide) (fun h => absurd h (by decide)) (fun _ => ?_)
      refine g_iconst 49 rfl (v := 1) dX12_nextCart_48 (by decide) ?_
      refine g_goto 53 dX12_nextCart_49 (by decide) ?_
      refine g_iret rfl dX12_nextCart_53 ?_
      have em2 : csM (k, 1, upd ro k (c - 48), lo) = k + 1 := by simp [csM]
      refine ⟨_, _, _, rfl, up22s, Or.inl ⟨(k, 1, upd ro k (c - 48), lo), by simp only [stC, if_true]; rw [if_pos hq], ⟨⟨by show k ≤ 6; omega, by show 1 ≤ 4; omega, fun _ => hk, fun h => absurd h (by show ¬ 3 ≤ 1; omega)⟩, e31, ?_, hb⟩, rfl⟩⟩
      intro i hi
      rw [em2] at hi
      by_cases e : i = k
      · subst e; rw [upd_at]; exact (upd_at _ _ _).symm
      · rw [pk_un e]; exact (ha i (by omega)).trans (pk_un e).symm
    · refine g_ifeq 52 48 rfl dX12_nextCart_45 (by decide) (fun _ => ?_) (fun h => absurd rfl h)
      refine g_iconst 53 rfl (v := (-1)) dX12_nextCart_52 (by decide) ?_
      refine g_iret rfl dX12_nextCart_53 ?_
      exact ⟨_, _, _, rfl, up22s, Or.inr ⟨rfl, by rw [stC, if_pos rfl, if_neg hq]⟩⟩
  · have hk := hk5 (by omega)
    have em : csM (k, 1, ro, lo) = csM (k, 2, ro, lo) := by simp [csM]
    refine g_tabIn 54 dX12_nextCart_1 (by decide) (by decide) (by rfl) (by decide) ?_
    refine g_iload2 55 rfl dX12_nextCart_54 ?_
    refine g_bipush 57 rfl (v := 120) dX12_nextCart_55 (by decide) ?_
    refine g_cmpne 64 60 rfl dX12_nextCart_57 (by decide) (fun q => ?_) (fun q => ?_)
    · refine g_iconst 65 rfl (v := (-1)) dX12_nextCart_64 (by decide) ?_
      refine g_iret rfl dX12_nextCart_65 ?_
      exact ⟨_, _, _, rfl, up22s, Or.inr ⟨rfl, by rw [stC, if_neg (show ¬ (1 : Nat) = 0 by decide), if_pos rfl, if_neg q]⟩⟩
    · refine g_iconst 61 rfl (v := 2) dX12_nextCart_60 (by decide) ?_
      refine g_goto 65 dX12_nextCart_61 (by decide) ?_
      refine g_iret rfl dX12_nextCart_65 ?_
      refine ⟨_, _, _, rfl, up22s, Or.inl ⟨(k, 2, ro, lo), by rw [stC, if_neg (show ¬ (1 : Nat) = 0 by decide), if_pos rfl, if_pos q], ⟨⟨hk6, by show 2 ≤ 4; omega, fun _ => hk, fun h => absurd h (by show ¬ 3 ≤ 2; omega)⟩, e31, by rw [← em]; exact ha, hb⟩, rfl⟩⟩
  · have hk := hk5 (by omega)
    have em : csM (k, 2, ro, lo) = k + 1 := by simp [csM]
    rw [em] at ha
    refine g_tabIn 66 dX12_nextCart_1 (by decide) (by decide) (by rfl) (by decide) ?_
    refine g_aload0 67 rfl dX12_nextCart_66 ?_
    refine g_getR 70 rfl fX12_57 (by first | rfl | exact st_o hb | exact st_1 hb | exact st_2 hb | exact st_3 hb | exact st_4 hb | exact st_5 hb | exact st_o hb2 | exact st_1 hb2 | exact st_2 hb2 | exact st_3 hb2 | exact st_4 hb2 | exact st_5 hb2) rfl dX12_nextCart_67 ?_
    refine g_aload0 71 rfl dX12_nextCart_70 ?_
    refine g_getI 74 rfl fX12_109 (by first | rfl | exact st_o hb | exact st_1 hb | exact st_2 hb | exact st_3 hb | exact st_4 hb | exact st_5 hb | exact st_o hb2 | exact st_1 hb2 | exact st_2 hb2 | exact st_3 hb2 | exact st_4 hb2 | exact st_5 hb2) rfl dX12_nextCart_71 ?_
    try simp only [rc3_0, rc3_14, rc3_15, rc3_w0, rc3_w14, rc3_w15, e31]
    refine g_iload2 75 rfl dX12_nextCart_74 ?_
    refine g_bipush 77 rfl (v := 48) dX12_nextCart_75 (by decide) ?_
    refine g_isub 78 rfl dX12_nextCart_77 ?_
    refine g_iast 79 rfl dX12_nextCart_78 (by first | rfl | exact st_o hb | exact st_1 hb | exact st_2 hb | exact st_3 hb | exact st_4 hb | exact st_5 hb | exact st_o hb2 | exact st_1 hb2 | exact st_2 hb2 | exact st_3 hb2 | exact st_4 hb2 | exact st_5 hb2) rfl rfl (by first | assumption | omega) ?_
    try simp only [rc3_0, rc3_14, rc3_15, rc3_w0, rc3_w14, rc3_w15, e31]
    refine g_aload0 80 rfl dX12_nextCart_79 ?_
    refine g_dup 81 rfl dX12_nextCart_80 rfl ?_
    refine g_getI 84 rfl fX12_109 (by first | rfl | exact st_o hb | exact st_1 hb | exact st_2 hb | exact st_3 hb | exact st_4 hb | exact st_5 hb | exact st_o hb2 | exact st_1 hb2 | exact st_2 hb2 | exact st_3 hb2 | exact st_4 hb2 | exact st_5 hb2) rfl dX12_nextCart_81 ?_
    try simp only [rc3_0, rc3_14, rc3_15, rc3_w0, rc3_w14, rc3_w15, e31]
    refine g_iload2 85 rfl dX12_nextCart_84 ?_
    refine g_bipush 87 rfl (v := 49) dX12_nextCart_85 (by decide) ?_
    refine g_bipush 89 rfl (v := 57) dX12_nextCart_87 (by decide) ?_
    refine g_callS 92 3 rfl kX12_78 dX12_nextCart_89 ⟨rfl, rfl⟩ om_within rfl rfl rfl (fun r M1 hq => ?_)
    obtain ⟨rfl, ⟨rfl, hq⟩ | ⟨rfl, hq⟩⟩ := hq
    try simp only [rV, Option.toList, List.cons_append, List.nil_append]
    · refine g_ifeq 99 95 rfl dX12_nextCart_92 (by decide) (fun h => absurd h (by decide)) (fun _ => ?_)
      refine g_iconst 96 rfl (v := 1) dX12_nextCart_95 (by decide) ?_
      refine g_goto 100 dX12_nextCart_96 (by decide) ?_
      refine g_iadd 101 rfl dX12_nextCart_100 ?_
      refine g_putI 104 rfl fX12_109 (by first | rfl | exact st_o hb | exact st_1 hb | exact st_2 hb | exact st_3 hb | exact st_4 hb | exact st_5 hb | exact st_o hb2 | exact st_1 hb2 | exact st_2 hb2 | exact st_3 hb2 | exact st_4 hb2 | exact st_5 hb2) rfl dX12_nextCart_101 ?_
      try simp only [rc3_0, rc3_14, rc3_15, rc3_w0, rc3_w14, rc3_w15, e31]
      refine g_iload2 105 rfl dX12_nextCart_104 ?_
      refine g_bipush 107 rfl (v := 49) dX12_nextCart_105 (by decide) ?_
      refine g_bipush 109 rfl (v := 57) dX12_nextCart_107 (by decide) ?_
      refine g_callS 112 3 rfl kX12_78 dX12_nextCart_109 ⟨rfl, rfl⟩ om_within rfl rfl rfl (fun r M1 hq => ?_)
      obtain ⟨rfl, ⟨rfl, hq2⟩ | ⟨rfl, hq2⟩⟩ := hq
      try simp only [rV, Option.toList, List.cons_append, List.nil_append]
      · refine g_ifeq 119 115 rfl dX12_nextCart_112 (by decide) (fun h => absurd h (by decide)) (fun _ => ?_)
        refine g_iconst 116 rfl (v := 3) dX12_nextCart_115 (by decide) ?_
        refine g_goto 120 dX12_nextCart_116 (by decide) ?_
        refine g_iret rfl dX12_nextCart_120 ?_
        have em2 : csM (k + 1, 3, ro, upd lo k (c - 48)) = k + 1 := by simp [csM]
        refine ⟨_, _, _, rfl, up22 (by decide) up22s, Or.inl ⟨(k + 1, 3, ro, upd lo k (c - 48)), ?_, ⟨⟨by show k + 1 ≤ 6; omega, by show 3 ≤ 4; omega, fun h => absurd h (by show ¬ 3 ≤ 2; omega), fun _ => by show 1 ≤ k + 1; omega⟩, by rw [upd_at, nI_1], by rw [em2]; exact ha, ?_⟩, rfl⟩⟩
        · have := dig_49.mp hq
          simp [stC, this.1, this.2]
        · intro i hi
          simp only at hi
          by_cases e : i = k
          · subst e; rw [upd_at]; exact (upd_at _ _ _).symm
          · rw [pk_un e]; exact (hb i (by omega)).trans (pk_un e).symm
      · exact absurd hq hq2
    · refine g_ifeq 99 95 rfl dX12_nextCart_92 (by decide) (fun _ => ?_) (fun h => absurd rfl h)
      refine g_iconst 100 rfl (v := 0) dX12_nextCart_99 (by decide) ?_
      refine g_iadd 101 rfl dX12_nextCart_100 ?_
      refine g_putI 104 rfl fX12_109 (by first | rfl | exact st_o hb | exact st_1 hb | exact st_2 hb | exact st_3 hb | exact st_4 hb | exact st_5 hb | exact st_o hb2 | exact st_1 hb2 | exact st_2 hb2 | exact st_3 hb2 | exact st_4 hb2 | exact st_5 hb2) rfl dX12_nextCart_101 ?_
      try simp only [rc3_0, rc3_14, rc3_15, rc3_w0, rc3_w14, rc3_w15, e31]
      refine g_iload2 105 rfl dX12_nextCart_104 ?_
      refine g_bipush 107 rfl (v := 49) dX12_nextCart_105 (by decide) ?_
      refine g_bipush 109 rfl (v := 57) dX12_nextCart_107 (by decide) ?_
      refine g_callS 112 3 rfl kX12_78 dX12_nextCart_109 ⟨rfl, rfl⟩ om_within rfl rfl rfl (fun r M1 hq => ?_)
      obtain ⟨rfl, ⟨rfl, hq2⟩ | ⟨rfl, hq2⟩⟩ := hq
      try simp only [rV, Option.toList, List.cons_append, List.nil_append]
      · exact absurd hq2 hq
      · refine g_ifeq 119 115 rfl dX12_nextCart_112 (by decide) (fun _ => ?_) (fun h => absurd rfl h)
        refine g_iconst 120 rfl (v := (-1)) dX12_nextCart_119 (by decide) ?_
        refine g_iret rfl dX12_nextCart_120 ?_
        refine ⟨_, _, _, rfl, up22 (by decide) up22s, Or.inr ⟨rfl, ?_⟩⟩
        rw [stC, if_neg (show ¬ (2 : Nat) = 0 by decide), if_neg (show ¬ (2 : Nat) = 1 by decide), if_pos rfl, if_neg (fun z => hq (dig_49.mpr z))]
  · have hk := hk1 (by omega)
    have em : csM (k, 3, ro, lo) = k := by simp [csM]
    have e1 : nI k - 1 = nI (k - 1) := by rw [show (1 : Int32) = nI 1 from rfl, pk_sub hk]
    have tail := tail (by omega)
    rw [em] at ha
    refine g_tabOut 121 dX12_nextCart_1 (by decide) (by decide) ?_
    refine g_iload1 122 rfl dX12_nextCart_121 ?_
    refine g_iconst 123 rfl (v := 3) dX12_nextCart_122 (by decide) ?_
    refine g_cmpne 165 126 rfl dX12_nextCart_123 (by decide) (fun h => absurd rfl h) (fun _ => ?_)
    refine g_iload2 127 rfl dX12_nextCart_126 ?_
    refine g_callS 130 1 rfl kX12_112 dX12_nextCart_127 ⟨rfl, rfl⟩ om_isDigit rfl rfl rfl (fun r M1 hq => ?_)
    obtain ⟨rfl, ⟨rfl, hq⟩ | ⟨rfl, hq⟩⟩ := hq
    try simp only [rV, Option.toList, List.cons_append, List.nil_append]
    · refine g_ifeq 165 133 rfl dX12_nextCart_130 (by decide) (fun h => absurd h (by decide)) (fun _ => ?_)
      refine g_aload0 134 rfl dX12_nextCart_133 ?_
      refine g_getR 137 rfl fX12_57 (by first | rfl | exact st_o hb | exact st_1 hb | exact st_2 hb | exact st_3 hb | exact st_4 hb | exact st_5 hb | exact st_o hb2 | exact st_1 hb2 | exact st_2 hb2 | exact st_3 hb2 | exact st_4 hb2 | exact st_5 hb2) rfl dX12_nextCart_134 ?_
      refine g_aload0 138 rfl dX12_nextCart_137 ?_
      refine g_getI 141 rfl fX12_109 (by first | rfl | exact st_o hb | exact st_1 hb | exact st_2 hb | exact st_3 hb | exact st_4 hb | exact st_5 hb | exact st_o hb2 | exact st_1 hb2 | exact st_2 hb2 | exact st_3 hb2 | exact st_4 hb2 | exact st_5 hb2) rfl dX12_nextCart_138 ?_
      try simp only [rc3_0, rc3_14, rc3_15, rc3_w0, rc3_w14, rc3_w15, e31]
      refine g_iconst 142 rfl (v := 1) dX12_nextCart_141 (by decide) ?_
      refine g_isub 143 rfl dX12_nextCart_142 ?_
      rw [e1]
      refine g_bipush 145 rfl (v := 10) dX12_nextCart_143 (by decide) ?_
      refine g_aload0 146 rfl dX12_nextCart_145 ?_
      refine g_getR 149 rfl fX12_57 (by first | rfl | exact st_o hb | exact st_1 hb | exact st_2 hb | exact st_3 hb | exact st_4 hb | exact st_5 hb | exact st_o hb2 | exact st_1 hb2 | exact st_2 hb2 | exact st_3 hb2 | exact st_4 hb2 | exact st_5 hb2) rfl dX12_nextCart_146 ?_
      refine g_aload0 150 rfl dX12_nextCart_149 ?_
      refine g_getI 153 rfl fX12_109 (by first | rfl | exact st_o hb | exact st_1 hb | exact st_2 hb | exact st_3 hb | exact st_4 hb | exact st_5 hb | exact st_o hb2 | exact st_1 hb2 | exact st_2 hb2 | exact st_3 hb2 | exact st_4 hb2 | exact st_5 hb2) rfl dX12_nextCart_150 ?_
      try simp only [rc3_0, rc3_14, rc3_15, rc3_w0, rc3_w14, rc3_w15, e31]
      refine g_iconst 154 rfl (v := 1) dX12_nextCart_153 (by decide) ?_
      refine g_isub 155 rfl dX12_nextCart_154 ?_
      rw [e1]
      refine g_iald 156 rfl dX12_nextCart_155 (by first | rfl | exact st_o hb | exact st_1 hb | exact st_2 hb | exact st_3 hb | exact st_4 hb | exact st_5 hb | exact st_o hb2 | exact st_1 hb2 | exact st_2 hb2 | exact st_3 hb2 | exact st_4 hb2 | exact st_5 hb2) rfl rfl (by first | assumption | omega) ?_
      try simp only [rc3_0, rc3_14, rc3_15, rc3_w0, rc3_w14, rc3_w15, e31]
      refine g_imul 157 rfl dX12_nextCart_156 ?_
      refine g_iload2 158 rfl dX12_nextCart_157 ?_
      refine g_iadd 159 rfl dX12_nextCart_158 ?_
      refine g_bipush 161 rfl (v := 48) dX12_nextCart_159 (by decide) ?_
      refine g_isub 162 rfl dX12_nextCart_161 ?_
      refine g_iast 163 rfl dX12_nextCart_162 (by first | rfl | exact st_o hb | exact st_1 hb | exact st_2 hb | exact st_3 hb | exact st_4 hb | exact st_5 hb | exact st_o hb2 | exact st_1 hb2 | exact st_2 hb2 | exact st_3 hb2 | exact st_4 hb2 | exact st_5 hb2) rfl rfl (by first | assumption | omega) ?_
      try simp only [rc3_0, rc3_14, rc3_15, rc3_w0, rc3_w14, rc3_w15, e31]
      refine g_iconst 164 rfl (v := 4) dX12_nextCart_163 (by decide) ?_
      refine g_iret rfl dX12_nextCart_164 ?_
      have em2 : csM (k, 4, ro, upd lo (k - 1) (10 * lo (k - 1) + (c - 48))) = k := by simp [csM]
      refine ⟨_, _, _, rfl, up22s, Or.inl ⟨(k, 4, ro, upd lo (k - 1) (10 * lo (k - 1) + (c - 48))), by simp [stC, hq], ⟨⟨hk6, by show 4 ≤ 4; omega, fun h => absurd h (by show ¬ 4 ≤ 2; omega), fun _ => hk⟩, e31, by rw [em2]; exact ha, ?_⟩, rfl⟩⟩
      intro i hi
      simp only at hi
      by_cases e : i = k - 1
      · subst e
        rw [upd_at, hb _ (by omega)]
        refine Eq.trans ?_ (upd_at _ _ _).symm
        rw [Int32.sub_eq_add_neg, Int32.sub_eq_add_neg, Int32.add_assoc]
      · rw [pk_un e]; exact (hb i (by omega)).trans (pk_un e).symm
    · refine g_ifeq 165 133 rfl dX12_nextCart_130 (by decide) (fun _ => ?_) (fun h => absurd rfl h)
      exact tail (fun z => hq z.2)
  · refine g_tabOut 121 dX12_nextCart_1 (by decide) (by decide) ?_
    refine g_iload1 122 rfl dX12_nextCart_121 ?_
    refine g_iconst 123 rfl (v := 3) dX12_nextCart_122 (by decide) ?_
    refine g_cmpne 165 126 rfl dX12_nextCart_123 (by decide) (fun _ => ?_) (fun h => absurd h (by decide))
    exact tail (by omega) (fun z => absurd z.1 (by decide))
/-- behind a reading of the page as carts -/
abbrev qRc (M : Mm) (L : Nat) (p : Nat → Int32) : Rr → Mm → Prop := fun r M' => r = none ∧ ∃ f k z, M' = RC3 M f k z ∧ (∀ q, q ≤ 22 → f q = M.1 0 q) ∧ f 23 = nI (runF stC p L 0 cs0).1 ∧ ((f 24 = 1 ∧ ∃ t, isC L p t ∧ CMr f k z t) ∨ (f 24 = 0 ∧ ¬ ∃ t, isC L p t))
theorem CMr.u {f k z : Nat → Int32} {t : Cs} {j : Nat} {v : Int32} (h : CMr f k z t) (hj : j < 25) : CMr (upd f j v) k z t := ⟨h.1, by rw [pk_un (by omega)]; exact h.2.1, h.2.2.1, h.2.2.2⟩
theorem om_readCarts {l : Launch} {M : Mm} {L : Nat} {p : Nat → Int32} (hp : PgM M L p) : Ok GM l mX12_readCarts [.ref 0] M (qRc M L p) := by
  obtain ⟨hL, hl, hc⟩ := hp
  have e2 : ∀ f k z i, i < L → (RC3 M f k z).1 9 i = p i := fun f k z i hi => by rw [rc3_n (by decide) (by decide) (by decide)]; exact hc i hi
  refine ok_of (by decide +kernel) rfl rfl ?_
  refine g_mem (RC3 M (M.1 0) (M.1 14) (M.1 15)) rc3_id.symm ?_
  have fin : ∀ f k z n s (v1 v2 : Value), csI s → v1.category = 1 → (∀ q, q ≤ 22 → f q = M.1 0 q) → n = (runF stC p L 0 cs0).1 → (∀ t, (runF stC p L 0 cs0).2 = some t → t = s ∧ CMr f k z t) → Go GM l mX12_readCarts 74 [.ref 0, .int (nI s.2.1), .int (nI n), v1, v2] [] (RC3 M f k z) (qRc M L p) := by
    intro f k z n s v1 v2 hsI hv1 hf hn hT
    have g15 : ∀ v, upd f 23 v 15 = nI L := fun v => by rw [pk_un (by decide), hf 15 (by decide)]; exact hl
    have no : ¬ (∃ t, isC L p t) → Go GM l mX12_readCarts 97 [.ref 0, .int (nI s.2.1), .int (nI n), v1, v2] [.ref 0] (RC3 M (upd f 23 (nI n)) k z) (qRc M L p) := by
      intro hno
      refine g_iconst 98 rfl (v := 0) dX12_readCarts_97 (by decide) ?_
      refine g_putZ 101 rfl fX12_106 (by first | rfl | exact st_o hb | exact st_1 hb | exact st_2 hb | exact st_3 hb | exact st_4 hb | exact st_5 hb | exact st_o hb2 | exact st_1 hb2 | exact st_2 hb2 | exact st_3 hb2 | exact st_4 hb2 | exact st_5 hb2) rfl dX12_readCarts_98 (by first | exact Or.inl rfl | exact Or.inr rfl | assumption) ?_
      try simp only [rc3_0, rc3_w0]
      refine g_vret rfl dX12_readCarts_101 ?_
      refine ⟨rfl, _, _, _, rfl, up22 (by decide) (up22 (by decide) hf), ?_, Or.inr ⟨upd_at _ _ _, hno⟩⟩
      rw [pk_un (by decide), upd_at, hn]
    refine g_aload0 75 rfl dX12_readCarts_74 ?_
    refine g_iload2 76 rfl dX12_readCarts_75 ?_
    refine g_putI 79 rfl fX12_103 (by first | rfl | exact st_o hb | exact st_1 hb | exact st_2 hb | exact st_3 hb | exact st_4 hb | exact st_5 hb | exact st_o hb2 | exact st_1 hb2 | exact st_2 hb2 | exact st_3 hb2 | exact st_4 hb2 | exact st_5 hb2) rfl dX12_readCarts_76 ?_
    try simp only [rc3_0, rc3_w0]
    refine g_aload0 80 rfl dX12_readCarts_79 ?_
    refine g_iload2 81 rfl dX12_readCarts_80 ?_
    refine g_aload0 82 rfl dX12_readCarts_81 ?_
    refine g_getI 85 rfl fX12_74 (by first | rfl | exact st_o hb | exact st_1 hb | exact st_2 hb | exact st_3 hb | exact st_4 hb | exact st_5 hb | exact st_o hb2 | exact st_1 hb2 | exact st_2 hb2 | exact st_3 hb2 | exact st_4 hb2 | exact st_5 hb2) rfl dX12_readCarts_82 ?_
    try simp only [rc3_0, rc3_w0]
    rw [g15]
    rcases run_some (step := stC) (p := p) L 0 cs0 with ⟨t, h1, h2⟩ | ⟨h1, h2⟩
    · rw [Nat.zero_add] at h2
      obtain ⟨rfl, hT2⟩ := hT t h1
      rw [hn, h2]
      rw [hn, h2] at no
      have h4 := hsI.2.1
      refine g_cmpne 97 88 rfl dX12_readCarts_85 (by decide) (fun h => absurd rfl h) (fun _ => ?_)
      refine g_iload1 89 rfl dX12_readCarts_88 ?_
      refine g_iconst 90 rfl (v := 2) dX12_readCarts_89 (by decide) ?_
      refine g_cmple 97 93 rfl dX12_readCarts_90 (by decide) (fun h90 => no (fun ⟨t', ht'⟩ => ?_)) (fun h90 => ?_)
      · have h3 := ht'.1
        rw [h1] at h3
        cases h3
        exact absurd h90 (nI_ge (a := 2) (by have : 3 ≤ t.2.1 := ht'.2; omega) (by omega))
      · refine g_iconst 94 rfl (v := 1) dX12_readCarts_93 (by decide) ?_
        refine g_goto 98 dX12_readCarts_94 (by decide) ?_
        refine g_putZ 101 rfl fX12_106 (by first | rfl | exact st_o hb | exact st_1 hb | exact st_2 hb | exact st_3 hb | exact st_4 hb | exact st_5 hb | exact st_o hb2 | exact st_1 hb2 | exact st_2 hb2 | exact st_3 hb2 | exact st_4 hb2 | exact st_5 hb2) rfl dX12_readCarts_98 (by first | exact Or.inl rfl | exact Or.inr rfl | assumption) ?_
        try simp only [rc3_0, rc3_w0]
        refine g_vret rfl dX12_readCarts_101 ?_
        have hw : csW t := by
          show 3 ≤ t.2.1
          rcases Nat.lt_or_ge 2 t.2.1 with z | z
          · omega
          · exact absurd (nI_le (b := 2) z (by decide)) h90
        refine ⟨rfl, _, _, _, rfl, up22 (by decide) (up22 (by decide) hf), ?_, Or.inl ⟨upd_at _ _ _, t, ⟨h1, hw⟩, (hT2.u (by decide)).u (by decide)⟩⟩
        rw [pk_un (by decide), upd_at, h2]
    · have hne : ¬ nI n = nI L := fun q => by
        have := (nI_eq (by omega) (by omega)).mp q
        omega
      refine g_cmpne 97 88 rfl dX12_readCarts_85 (by decide) (fun _ => ?_) (fun h => absurd h hne)
      exact no (fun ⟨t', g1, g2⟩ => by rw [h1] at g1; cases g1)
  refine g_aload0 1 rfl dX12_readCarts_0 ?_
  refine g_iconst 2 rfl (v := 0) dX12_readCarts_1 (by decide) ?_
  refine g_putI 5 rfl fX12_109 (by first | rfl | exact st_o hb | exact st_1 hb | exact st_2 hb | exact st_3 hb | exact st_4 hb | exact st_5 hb | exact st_o hb2 | exact st_1 hb2 | exact st_2 hb2 | exact st_3 hb2 | exact st_4 hb2 | exact st_5 hb2) rfl dX12_readCarts_2 ?_
  try simp only [rc3_0, rc3_w0]
  refine g_iconst 6 rfl (v := 0) dX12_readCarts_5 (by decide) ?_
  refine g_istore1 7 rfl dX12_readCarts_6 rfl rfl ?_
  refine g_iconst 8 rfl (v := 0) dX12_readCarts_7 (by decide) ?_
  refine g_istore2 9 rfl dX12_readCarts_8 rfl rfl ?_
  refine g_iconst 10 rfl (v := 1) dX12_readCarts_9 (by decide) ?_
  refine g_istore3 11 rfl dX12_readCarts_10 rfl rfl ?_
  refine loop_up (P := fun i => ∀ f k z t, (∀ q, q ≤ 22 → f q = M.1 0 q) → CMr f k z t → runF stC p (L - i) i t = runF stC p L 0 cs0 → Go GM l mX12_readCarts 11 [.ref 0, .int (nI t.2.1), .int (nI i), .int 1, .null] [] (RC3 M f k z) (qRc M L p)) L ?_ ?_ 0 (by omega) _ _ _ cs0 (up22 (by decide) up22s) ⟨⟨by decide, by decide, by decide, by decide⟩, by rw [upd_at]; rfl, fun i h => absurd h (by simp [csM, cs0]), fun i h => absurd h (by simp [cs0])⟩ rfl
  · intro f k z t hf hs he
    rw [Nat.sub_self] at he
    have he : (L, some t) = runF stC p L 0 cs0 := he
    refine g_iload2 12 rfl dX12_readCarts_11 ?_
    refine g_aload0 13 rfl dX12_readCarts_12 ?_
    refine g_getI 16 rfl fX12_74 (by first | rfl | exact st_o hb | exact st_1 hb | exact st_2 hb | exact st_3 hb | exact st_4 hb | exact st_5 hb | exact st_o hb2 | exact st_1 hb2 | exact st_2 hb2 | exact st_3 hb2 | exact st_4 hb2 | exact st_5 hb2) rfl dX12_readCarts_13 ?_
    try simp only [rc3_0, rc3_w0]
    rw [hf 15 (by decide), hl]
    refine g_cmpge 74 19 rfl dX12_readCarts_16 (by decide) (fun _ => ?_) (fun h => absurd (Int32.le_refl _) h)
    exact fin f k z L t _ _ hs.1 rfl hf (by rw [← he]) (fun t' ht => by rw [← he] at ht; cases ht; exact ⟨rfl, hs⟩)
  · intro i hi ih f k z t hf hs he
    rw [show L - i = L - (i + 1) + 1 by omega, runF] at he
    refine g_iload2 12 rfl dX12_readCarts_11 ?_
    refine g_aload0 13 rfl dX12_readCarts_12 ?_
    refine g_getI 16 rfl fX12_74 (by first | rfl | exact st_o hb | exact st_1 hb | exact st_2 hb | exact st_3 hb | exact st_4 hb | exact st_5 hb | exact st_o hb2 | exact st_1 hb2 | exact st_2 hb2 | exact st_3 hb2 | exact st_4 hb2 | exact st_5 hb2) rfl dX12_readCarts_13 ?_
    try simp only [rc3_0, rc3_w0]
    rw [hf 15 (by decide), hl]
    refine g_cmpge 74 19 rfl dX12_readCarts_16 (by decide) (fun h => absurd h (nI_ge hi (by omega))) (fun _ => ?_)
    refine g_iload3 20 rfl dX12_readCarts_19 ?_
    refine g_ifeq 74 23 rfl dX12_readCarts_20 (by decide) (fun h => absurd h (by decide)) (fun _ => ?_)
    refine g_aload0 24 rfl dX12_readCarts_23 ?_
    refine g_iload1 25 rfl dX12_readCarts_24 ?_
    refine g_aload0 26 rfl dX12_readCarts_25 ?_
    refine g_getR 29 rfl fX12_38 (by first | rfl | exact st_o hb | exact st_1 hb | exact st_2 hb | exact st_3 hb | exact st_4 hb | exact st_5 hb | exact st_o hb2 | exact st_1 hb2 | exact st_2 hb2 | exact st_3 hb2 | exact st_4 hb2 | exact st_5 hb2) rfl dX12_readCarts_26 ?_
    refine g_iload2 30 rfl dX12_readCarts_29 ?_
    refine g_bald 31 rfl dX12_readCarts_30 (by first | rfl | exact st_o hb | exact st_1 hb | exact st_2 hb | exact st_3 hb | exact st_4 hb | exact st_5 hb | exact st_o hb2 | exact st_1 hb2 | exact st_2 hb2 | exact st_3 hb2 | exact st_4 hb2 | exact st_5 hb2) rfl rfl (by first | assumption | omega) ?_
    try simp only [rc3_0, rc3_w0]
    rw [e2 _ _ _ i hi]
    refine g_callV 34 2 rfl kX12_115 (by first | rfl | exact st_o hb | exact st_1 hb | exact st_2 hb | exact st_3 hb | exact st_4 hb | exact st_5 hb | exact st_o hb2 | exact st_1 hb2 | exact st_2 hb2 | exact st_3 hb2 | exact st_4 hb2 | exact st_5 hb2) dX12_readCarts_31 ⟨rfl, rfl⟩ (om_nextCart hs) rfl rfl rfl (fun r M1 hq => ?_)
    obtain ⟨f2, k2, z2, rfl, hf2, hq⟩ := hq
    try simp only [rV, Option.toList, List.cons_append, List.nil_append]
    have hf3 : ∀ q, q ≤ 22 → f2 q = M.1 0 q := fun q hq => (hf2 q hq).trans (hf q hq)
    rcases hq with ⟨t', h1, h2, rfl⟩ | ⟨rfl, h1⟩
    · rw [h1] at he
      have h4 := h2.1.2.1
      refine g_istore4 36 rfl dX12_readCarts_34 rfl rfl ?_
      refine g_iload4 38 rfl dX12_readCarts_36 ?_
      refine g_iconst 39 rfl (v := (-1)) dX12_readCarts_38 (by decide) ?_
      refine g_cmpeq 46 42 rfl dX12_readCarts_39 (by decide) (fun q => absurd q (nI_ne_m1 (by omega))) (fun _ => ?_)
      refine g_iconst 43 rfl (v := 1) dX12_readCarts_42 (by decide) ?_
      refine g_goto 47 dX12_readCarts_43 (by decide) ?_
      refine g_istore3 48 rfl dX12_readCarts_47 rfl rfl ?_
      refine g_iload3 49 rfl dX12_readCarts_48 ?_
      refine g_ifeq 57 52 rfl dX12_readCarts_49 (by decide) (fun h => absurd h (by decide)) (fun _ => ?_)
      refine g_iload4 54 rfl dX12_readCarts_52 ?_
      refine g_goto 58 dX12_readCarts_54 (by decide) ?_
      refine g_istore1 59 rfl dX12_readCarts_58 rfl rfl ?_
      refine g_iload2 60 rfl dX12_readCarts_59 ?_
      refine g_iload3 61 rfl dX12_readCarts_60 ?_
      refine g_ifeq 68 64 rfl dX12_readCarts_61 (by decide) (fun h => absurd h (by decide)) (fun _ => ?_)
      refine g_iconst 65 rfl (v := 1) dX12_readCarts_64 (by decide) ?_
      refine g_goto 69 dX12_readCarts_65 (by decide) ?_
      refine g_iadd 70 rfl dX12_readCarts_69 ?_
      rw [nI_1]
      refine g_istore2 71 rfl dX12_readCarts_70 rfl rfl ?_
      refine g_goto 11 dX12_readCarts_71 (by decide) ?_
      refine g_fg 4 ?_
      exact ih f2 k2 z2 t' hf3 h2 he
    · rw [h1] at he
      have he : (i, none) = runF stC p L 0 cs0 := he
      refine g_istore4 36 rfl dX12_readCarts_34 rfl rfl ?_
      refine g_iload4 38 rfl dX12_readCarts_36 ?_
      refine g_iconst 39 rfl (v := (-1)) dX12_readCarts_38 (by decide) ?_
      refine g_cmpeq 46 42 rfl dX12_readCarts_39 (by decide) (fun _ => ?_) (fun q => absurd rfl q)
      refine g_iconst 47 rfl (v := 0) dX12_readCarts_46 (by decide) ?_
      refine g_istore3 48 rfl dX12_readCarts_47 rfl rfl ?_
      refine g_iload3 49 rfl dX12_readCarts_48 ?_
      refine g_ifeq 57 52 rfl dX12_readCarts_49 (by decide) (fun _ => ?_) (fun h => absurd rfl h)
      refine g_iload1 58 rfl dX12_readCarts_57 ?_
      refine g_istore1 59 rfl dX12_readCarts_58 rfl rfl ?_
      refine g_iload2 60 rfl dX12_readCarts_59 ?_
      refine g_iload3 61 rfl dX12_readCarts_60 ?_
      refine g_ifeq 68 64 rfl dX12_readCarts_61 (by decide) (fun _ => ?_) (fun h => absurd rfl h)
      refine g_iconst 69 rfl (v := 0) dX12_readCarts_68 (by decide) ?_
      refine g_iadd 70 rfl dX12_readCarts_69 ?_
      rw [Int32.add_zero]
      refine g_istore2 71 rfl dX12_readCarts_70 rfl rfl ?_
      refine g_goto 11 dX12_readCarts_71 (by decide) ?_
      refine g_iload2 12 rfl dX12_readCarts_11 ?_
      refine g_aload0 13 rfl dX12_readCarts_12 ?_
      refine g_getI 16 rfl fX12_74 (by first | rfl | exact st_o hb | exact st_1 hb | exact st_2 hb | exact st_3 hb | exact st_4 hb | exact st_5 hb | exact st_o hb2 | exact st_1 hb2 | exact st_2 hb2 | exact st_3 hb2 | exact st_4 hb2 | exact st_5 hb2) rfl dX12_readCarts_13 ?_
      try simp only [rc3_0, rc3_w0]
      rw [hf3 15 (by decide), hl]
      refine g_cmpge 74 19 rfl dX12_readCarts_16 (by decide) (fun h => absurd h (nI_ge hi (by omega))) (fun _ => ?_)
      refine g_iload3 20 rfl dX12_readCarts_19 ?_
      refine g_ifeq 74 23 rfl dX12_readCarts_20 (by decide) (fun _ => ?_) (fun h => absurd rfl h)
      exact fin f2 k2 z2 i t _ _ hs.1 rfl hf3 (by rw [← he]) (fun t' ht => by rw [← he] at ht; cases ht)
