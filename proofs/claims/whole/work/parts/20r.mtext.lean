/-! the reference's texts: a street -/
def RT3 (M : Mm) (f k z : Nat → Int32) : Mm := setA (setA (setA M 0 f) 12 k) 13 z
theorem rt3_0 {M : Mm} {f k z : Nat → Int32} : (RT3 M f k z).1 0 = f := by unfold RT3; rw [sA_n (by decide), sA_n (by decide), sA_s]
theorem rt3_12 {M : Mm} {f k z : Nat → Int32} : (RT3 M f k z).1 12 = k := by unfold RT3; rw [sA_n (by decide), sA_s]
theorem rt3_13 {M : Mm} {f k z : Nat → Int32} : (RT3 M f k z).1 13 = z := by unfold RT3; rw [sA_s]
theorem rt3_n {M : Mm} {f k z : Nat → Int32} {h : Nat} (h3 : h ≠ 0) (h4 : h ≠ 12) (h5 : h ≠ 13) : (RT3 M f k z).1 h = M.1 h := by unfold RT3; rw [sA_n h5, sA_n h4, sA_n h3]
theorem rt3_w0 {M : Mm} {f k z e : Nat → Int32} : setA (RT3 M f k z) 0 e = RT3 M e k z := by unfold RT3; rw [sA_sw (by decide), sA_sw (h' := 0) (h := 12) (by decide), sA_sA]
theorem rt3_w12 {M : Mm} {f k z e : Nat → Int32} : setA (RT3 M f k z) 12 e = RT3 M f e z := by unfold RT3; rw [sA_sw (by decide), sA_sA]
theorem rt3_w13 {M : Mm} {f k z e : Nat → Int32} : setA (RT3 M f k z) 13 e = RT3 M f k e := by unfold RT3; rw [sA_sA]
theorem rt3_id {M : Mm} : RT3 M (M.1 0) (M.1 12) (M.1 13) = M := by unfold RT3; rw [sA_id, sA_id, sA_id]
theorem rt3_l {M : Mm} {f k z : Nat → Int32} : (RT3 M f k z).2 = M.2 := rfl
/-- the reference's rows hold a street being read -/
def TR (f k z : Nat → Int32) (t : Tx) : Prop := txI t ∧ f 25 = nI t.1 ∧ f 26 = nI t.2.1 ∧ f 27 = nI t.2.2.1 ∧ ((t.2.2.2.1 ∧ f 28 = 1) ∨ (¬ t.2.2.2.1 ∧ f 28 = 0)) ∧ (∀ c, c < txN t → k c = t.2.2.2.2.1 c) ∧ ∀ c, c < txN t → z c = t.2.2.2.2.2 c
abbrev qTm (M : Mm) (f0 : Nat → Int32) (c : Int32) (t : Tx) : Rr → Mm → Prop := fun r M' => ∃ f k z, M' = RT3 M f k z ∧ (∀ q, q ≤ 22 → f q = f0 q) ∧ ((r = some (.inl 1) ∧ ∃ t', stT c t = some t' ∧ TR f k z t') ∨ (r = some (.inl 0) ∧ stT c t = none))
theorem up22 {f f0 : Nat → Int32} {j : Nat} {v : Int32} (hj : 22 < j) (h : ∀ q, q ≤ 22 → f q = f0 q) : ∀ q, q ≤ 22 → upd f j v q = f0 q := fun q hq => by rw [pk_un (by omega)]; exact h q hq
theorem up22s {f : Nat → Int32} : ∀ q : Nat, q ≤ 22 → f q = f q := fun _ _ => rfl
theorem om_takeStreet {l : Launch} {M : Mm} {c : Int32} {f k z : Nat → Int32} {t : Tx} (hs : TR f k z t) : Ok GM l mX12_takeStreet [.ref 0, .int c] (RT3 M f k z) (qTm M f c t) := by
  obtain ⟨hI, h2, h3, h4, h6, hk, hz⟩ := hs
  have hn := hI.n
  have hd1 := hI.2.2
  obtain ⟨r, w, h, d, K, Z⟩ := t
  obtain ⟨n, en⟩ : ∃ n, n = txN (r, w, h, d, K, Z) := ⟨_, rfl⟩
  have en2 : n = r * w + h := en
  simp only at h2 h3 h4 h6 hk hz hd1
  rw [← en] at hk hz hn
  obtain ⟨hr, hI2, -⟩ := hI
  simp only at hr hI2
  have ea : nI r * nI w + nI h = nI n := by rw [pk_mul, nI_add, en2]
  refine ok_of (by decide +kernel) rfl rfl ?_
  refine g_aload0 1 rfl dX12_takeStreet_0 ?_
  refine g_getI 4 rfl fX12_82 (by first | rfl | exact st_o hb | exact st_1 hb | exact st_2 hb | exact st_3 hb | exact st_4 hb | exact st_5 hb | exact st_o hb2 | exact st_1 hb2 | exact st_2 hb2 | exact st_3 hb2 | exact st_4 hb2 | exact st_5 hb2) rfl dX12_takeStreet_1 ?_
  try simp only [rt3_0, rt3_12, rt3_13, rt3_w0, rt3_w12, rt3_w13, h2, h3, h4]
  refine g_aload0 5 rfl dX12_takeStreet_4 ?_
  refine g_getI 8 rfl fX12_85 (by first | rfl | exact st_o hb | exact st_1 hb | exact st_2 hb | exact st_3 hb | exact st_4 hb | exact st_5 hb | exact st_o hb2 | exact st_1 hb2 | exact st_2 hb2 | exact st_3 hb2 | exact st_4 hb2 | exact st_5 hb2) rfl dX12_takeStreet_5 ?_
  try simp only [rt3_0, rt3_12, rt3_13, rt3_w0, rt3_w12, rt3_w13, h2, h3, h4]
  refine g_imul 9 rfl dX12_takeStreet_8 ?_
  refine g_aload0 10 rfl dX12_takeStreet_9 ?_
  refine g_getI 13 rfl fX12_88 (by first | rfl | exact st_o hb | exact st_1 hb | exact st_2 hb | exact st_3 hb | exact st_4 hb | exact st_5 hb | exact st_o hb2 | exact st_1 hb2 | exact st_2 hb2 | exact st_3 hb2 | exact st_4 hb2 | exact st_5 hb2) rfl dX12_takeStreet_10 ?_
  try simp only [rt3_0, rt3_12, rt3_13, rt3_w0, rt3_w12, rt3_w13, h2, h3, h4]
  refine g_iadd 14 rfl dX12_takeStreet_13 ?_
  rw [ea]
  refine g_istore2 15 rfl dX12_takeStreet_14 rfl rfl ?_
  refine g_aload0 16 rfl dX12_takeStreet_15 ?_
  refine g_getI 19 rfl fX12_91 (by first | rfl | exact st_o hb | exact st_1 hb | exact st_2 hb | exact st_3 hb | exact st_4 hb | exact st_5 hb | exact st_o hb2 | exact st_1 hb2 | exact st_2 hb2 | exact st_3 hb2 | exact st_4 hb2 | exact st_5 hb2) rfl dX12_takeStreet_16 ?_
  try simp only [rt3_0, rt3_12, rt3_13, rt3_w0, rt3_w12, rt3_w13, h2, h3, h4]
  rcases h6 with ⟨hd, e6⟩ | ⟨hd, e6⟩
  · have hh1 := hd1 hd
    have hn1 : 1 ≤ n := by omega
    rw [e6]
    refine g_ifeq 48 22 rfl dX12_takeStreet_19 (by decide) (fun h => absurd h (by decide)) (fun _ => ?_)
    refine g_aload0 23 rfl dX12_takeStreet_22 ?_
    refine g_getR 26 rfl fX12_51 (by first | rfl | exact st_o hb | exact st_1 hb | exact st_2 hb | exact st_3 hb | exact st_4 hb | exact st_5 hb | exact st_o hb2 | exact st_1 hb2 | exact st_2 hb2 | exact st_3 hb2 | exact st_4 hb2 | exact st_5 hb2) rfl dX12_takeStreet_23 ?_
    refine g_iload2 27 rfl dX12_takeStreet_26 ?_
    refine g_iconst 28 rfl (v := 1) dX12_takeStreet_27 (by decide) ?_
    refine g_isub 29 rfl dX12_takeStreet_28 ?_
    refine g_top (nI (n - 1)) (by rw [show (1 : Int32) = nI 1 from rfl, pk_sub hn1]) ?_
    refine g_iload1 30 rfl dX12_takeStreet_29 ?_
    refine g_bipush 32 rfl (v := 48) dX12_takeStreet_30 (by decide) ?_
    refine g_isub 33 rfl dX12_takeStreet_32 ?_
    refine g_iast 34 rfl dX12_takeStreet_33 (by first | rfl | exact st_o hb | exact st_1 hb | exact st_2 hb | exact st_3 hb | exact st_4 hb | exact st_5 hb | exact st_o hb2 | exact st_1 hb2 | exact st_2 hb2 | exact st_3 hb2 | exact st_4 hb2 | exact st_5 hb2) rfl rfl (by first | assumption | omega) ?_
    try simp only [rt3_0, rt3_12, rt3_13, rt3_w0, rt3_w12, rt3_w13, h2, h3, h4]
    refine g_aload0 35 rfl dX12_takeStreet_34 ?_
    refine g_iconst 36 rfl (v := 0) dX12_takeStreet_35 (by decide) ?_
    refine g_putZ 39 rfl fX12_91 (by first | rfl | exact st_o hb | exact st_1 hb | exact st_2 hb | exact st_3 hb | exact st_4 hb | exact st_5 hb | exact st_o hb2 | exact st_1 hb2 | exact st_2 hb2 | exact st_3 hb2 | exact st_4 hb2 | exact st_5 hb2) rfl dX12_takeStreet_36 (by first | exact Or.inl rfl | exact Or.inr rfl | assumption) ?_
    try simp only [rt3_0, rt3_12, rt3_13, rt3_w0, rt3_w12, rt3_w13, h2, h3, h4]
    refine g_iload1 40 rfl dX12_takeStreet_39 ?_
    refine g_bipush 42 rfl (v := 49) dX12_takeStreet_40 (by decide) ?_
    refine g_bipush 44 rfl (v := 57) dX12_takeStreet_42 (by decide) ?_
    refine g_callS 47 3 rfl kX12_78 dX12_takeStreet_44 ⟨rfl, rfl⟩ om_within rfl rfl rfl (fun r M1 hq => ?_)
    obtain ⟨rfl, ⟨rfl, hq⟩ | ⟨rfl, hq⟩⟩ := hq
    try simp only [rV, Option.toList, List.cons_append, List.nil_append]
    · refine g_zret rfl dX12_takeStreet_47 (Or.inr rfl) ?_
      refine ⟨_, _, _, rfl, up22 (by decide) up22s, Or.inl ⟨rfl, (r, w, h, False, K, upd Z (n - 1) (c - 48)), ?_, ⟨hr, hI2, fun h => h.elim⟩, ?_, ?_, ?_, Or.inr ⟨fun h => h, upd_at _ _ _⟩, ?_, ?_⟩⟩
      · rw [stT, if_pos hd, if_pos hq, ← en]
      · rw [pk_un (by decide)]; exact h2
      · rw [pk_un (by decide)]; exact h3
      · rw [pk_un (by decide)]; exact h4
      · intro c' hc'; exact hk c' (by rw [en2]; exact hc')
      · intro c' hc'
        have hc' : c' < n := by rw [en2]; exact hc'
        by_cases e : c' = n - 1
        · subst e; rw [upd_at]; exact (upd_at _ _ _).symm
        · rw [pk_un e]; exact (hz c' hc').trans (pk_un e).symm
    · refine g_zret rfl dX12_takeStreet_47 (Or.inl rfl) ?_
      refine ⟨_, _, _, rfl, up22 (by decide) up22s, Or.inr ⟨rfl, ?_⟩⟩
      rw [stT, if_pos hd, if_neg hq]
  · rw [e6]
    refine g_ifeq 48 22 rfl dX12_takeStreet_19 (by decide) (fun _ => ?_) (fun h => absurd rfl h)
    obtain ⟨rm, hrm⟩ : ∃ rm, rm = if r = 0 then 6 else w := ⟨_, rfl⟩
    have hrm6 : rm ≤ 6 := by rw [hrm]; rcases hI2 with ⟨a, b, c⟩ | ⟨a, b, c, d⟩ <;> split <;> omega
    have hh : h ≤ rm := by rw [hrm]; rcases hI2 with ⟨a, b, c⟩ | ⟨a, b, c, d⟩ <;> split <;> omega
    have hlt : h < rm → n < 30 := by
      intro q
      rw [en2]
      rcases hI2 with ⟨a, b, c⟩ | ⟨a, b, c, d⟩
      · rw [a]; omega
      · have : r * w ≤ 4 * w := Nat.mul_le_mul_right w hr
        rw [hrm, if_neg (by omega)] at q
        omega
    have cell : (kndO c = -1 → c = 46) → ¬ c = 47 → Go GM l mX12_takeStreet 62 [.ref 0, .int c, .int (nI n), .null] [] (RT3 M f k z) (qTm M f c (r, w, h, d, K, Z)) := by
      intro hg hc
      have k46 : c = 46 → kndO c = -1 := fun q => by rw [q]; decide
      have rest : Go GM l mX12_takeStreet 82 [.ref 0, .int c, .int (nI n), .null] [.int (nI rm), .int (nI h)] (RT3 M f k z) (qTm M f c (r, w, h, d, K, Z)) := by
        refine g_cmpne 87 85 rfl dX12_takeStreet_82 (by decide) (fun q => ?_) (fun q => ?_)
        · have hq : h < rm := by
            rcases Nat.lt_or_ge h rm with z | z
            · exact z
            · exact absurd (by rw [show h = rm by omega]) q
          have hq2 := hlt hq
          have hsome : stT c (r, w, h, d, K, Z) = some (r, w, h + 1, ¬ kndO c = -1, upd K n (kndO c), upd Z n 0) := by
            simp only [stT, hd, hc, if_false, ← hrm]
            rw [if_neg (fun z => z.2 (hg z.1)), if_neg (show ¬ h = rm by omega), show txN (r, w, h, False, K, Z) = n from en2.symm]
          have en' : ∀ p K' Z', txN (r, w, h + 1, p, K', Z') = n + 1 := fun p K' Z' => by rw [en2]; simp only [txN]; omega
          have hI' : ∀ p K' Z', txI (r, w, h + 1, p, K', Z') := by
            intro p K' Z'
            refine ⟨hr, ?_, fun _ => by show 1 ≤ h + 1; omega⟩
            simp only
            rcases hI2 with ⟨a, b, c⟩ | ⟨a, b, c, e⟩
            · left; rw [hrm, if_pos a] at hq; exact ⟨a, b, by omega⟩
            · right; rw [hrm, if_neg (by omega)] at hq; exact ⟨a, b, c, by omega⟩
          have fin : ∀ v, ((¬ kndO c = -1 ∧ v = 1) ∨ (¬ ¬ kndO c = -1 ∧ v = 0)) → TR (upd (upd f 28 v) 27 (nI h + 1)) (upd k n (kndO c)) (upd z n 0) (r, w, h + 1, ¬ kndO c = -1, upd K n (kndO c), upd Z n 0) := by
            intro v hv
            refine ⟨hI' _ _ _, ?_, ?_, ?_, ?_, ?_, ?_⟩
            · rw [pk_un (by decide), pk_un (by decide)]; exact h2
            · rw [pk_un (by decide), pk_un (by decide)]; exact h3
            · rw [upd_at, nI_1]
            · rw [pk_un (by decide), upd_at]; exact hv
            · intro c' hc'
              rw [en'] at hc'
              by_cases e : c' = n
              · subst e; rw [upd_at]; exact (upd_at _ _ _).symm
              · rw [pk_un e]; exact (hk c' (by omega)).trans (pk_un e).symm
            · intro c' hc'
              rw [en'] at hc'
              by_cases e : c' = n
              · subst e; rw [upd_at]; exact (upd_at _ _ _).symm
              · rw [pk_un e]; exact (hz c' (by omega)).trans (pk_un e).symm
          refine g_aload0 88 rfl dX12_takeStreet_87 ?_
          refine g_getR 91 rfl fX12_48 (by first | rfl | exact st_o hb | exact st_1 hb | exact st_2 hb | exact st_3 hb | exact st_4 hb | exact st_5 hb | exact st_o hb2 | exact st_1 hb2 | exact st_2 hb2 | exact st_3 hb2 | exact st_4 hb2 | exact st_5 hb2) rfl dX12_takeStreet_88 ?_
          refine g_iload2 92 rfl dX12_takeStreet_91 ?_
          refine g_iload1 93 rfl dX12_takeStreet_92 ?_
          refine g_callSi 96 1 rfl kX12_95 dX12_takeStreet_93 ⟨rfl, rfl⟩ om_kindBy rfl rfl rfl ?_
          refine g_iast 97 rfl dX12_takeStreet_96 (by first | rfl | exact st_o hb | exact st_1 hb | exact st_2 hb | exact st_3 hb | exact st_4 hb | exact st_5 hb | exact st_o hb2 | exact st_1 hb2 | exact st_2 hb2 | exact st_3 hb2 | exact st_4 hb2 | exact st_5 hb2) rfl rfl (by first | assumption | omega) ?_
          try simp only [rt3_0, rt3_12, rt3_13, rt3_w0, rt3_w12, rt3_w13, h2, h3, h4]
          refine g_aload0 98 rfl dX12_takeStreet_97 ?_
          refine g_getR 101 rfl fX12_51 (by first | rfl | exact st_o hb | exact st_1 hb | exact st_2 hb | exact st_3 hb | exact st_4 hb | exact st_5 hb | exact st_o hb2 | exact st_1 hb2 | exact st_2 hb2 | exact st_3 hb2 | exact st_4 hb2 | exact st_5 hb2) rfl dX12_takeStreet_98 ?_
          refine g_iload2 102 rfl dX12_takeStreet_101 ?_
          refine g_iconst 103 rfl (v := 0) dX12_takeStreet_102 (by decide) ?_
          refine g_iast 104 rfl dX12_takeStreet_103 (by first | rfl | exact st_o hb | exact st_1 hb | exact st_2 hb | exact st_3 hb | exact st_4 hb | exact st_5 hb | exact st_o hb2 | exact st_1 hb2 | exact st_2 hb2 | exact st_3 hb2 | exact st_4 hb2 | exact st_5 hb2) rfl rfl (by first | assumption | omega) ?_
          try simp only [rt3_0, rt3_12, rt3_13, rt3_w0, rt3_w12, rt3_w13, h2, h3, h4]
          refine g_aload0 105 rfl dX12_takeStreet_104 ?_
          refine g_iload1 106 rfl dX12_takeStreet_105 ?_
          refine g_bipush 108 rfl (v := 46) dX12_takeStreet_106 (by decide) ?_
          refine g_cmpeq 115 111 rfl dX12_takeStreet_108 (by decide) (fun q => ?_) (fun q => ?_)
          · refine g_iconst 116 rfl (v := 0) dX12_takeStreet_115 (by decide) ?_
            refine g_putZ 119 rfl fX12_91 (by first | rfl | exact st_o hb | exact st_1 hb | exact st_2 hb | exact st_3 hb | exact st_4 hb | exact st_5 hb | exact st_o hb2 | exact st_1 hb2 | exact st_2 hb2 | exact st_3 hb2 | exact st_4 hb2 | exact st_5 hb2) rfl dX12_takeStreet_116 (by first | exact Or.inl rfl | exact Or.inr rfl | assumption) ?_
            try simp only [rt3_0, rt3_12, rt3_13, rt3_w0, rt3_w12, rt3_w13, h2, h3, h4]
            refine g_aload0 120 rfl dX12_takeStreet_119 ?_
            refine g_dup 121 rfl dX12_takeStreet_120 rfl ?_
            refine g_getI 124 rfl fX12_88 (by first | rfl | exact st_o hb | exact st_1 hb | exact st_2 hb | exact st_3 hb | exact st_4 hb | exact st_5 hb | exact st_o hb2 | exact st_1 hb2 | exact st_2 hb2 | exact st_3 hb2 | exact st_4 hb2 | exact st_5 hb2) rfl dX12_takeStreet_121 ?_
            try simp only [rt3_0, rt3_12, rt3_13, rt3_w0, rt3_w12, rt3_w13, h2, h3, h4]
            rw [pk_un (by decide), h4]
            refine g_iconst 125 rfl (v := 1) dX12_takeStreet_124 (by decide) ?_
            refine g_iadd 126 rfl dX12_takeStreet_125 ?_
            refine g_putI 129 rfl fX12_88 (by first | rfl | exact st_o hb | exact st_1 hb | exact st_2 hb | exact st_3 hb | exact st_4 hb | exact st_5 hb | exact st_o hb2 | exact st_1 hb2 | exact st_2 hb2 | exact st_3 hb2 | exact st_4 hb2 | exact st_5 hb2) rfl dX12_takeStreet_126 ?_
            try simp only [rt3_0, rt3_12, rt3_13, rt3_w0, rt3_w12, rt3_w13, h2, h3, h4]
            refine g_iconst 130 rfl (v := 1) dX12_takeStreet_129 (by decide) ?_
            refine g_zret rfl dX12_takeStreet_130 (by first | exact Or.inl rfl | exact Or.inr rfl | assumption) ?_
            exact ⟨_, _, _, rfl, up22 (by decide) (up22 (by decide) up22s), Or.inl ⟨rfl, _, hsome, fin 0 (Or.inr ⟨fun z => z (k46 q), rfl⟩)⟩⟩
          · refine g_iconst 112 rfl (v := 1) dX12_takeStreet_111 (by decide) ?_
            refine g_goto 116 dX12_takeStreet_112 (by decide) ?_
            refine g_putZ 119 rfl fX12_91 (by first | rfl | exact st_o hb | exact st_1 hb | exact st_2 hb | exact st_3 hb | exact st_4 hb | exact st_5 hb | exact st_o hb2 | exact st_1 hb2 | exact st_2 hb2 | exact st_3 hb2 | exact st_4 hb2 | exact st_5 hb2) rfl dX12_takeStreet_116 (by first | exact Or.inl rfl | exact Or.inr rfl | assumption) ?_
            try simp only [rt3_0, rt3_12, rt3_13, rt3_w0, rt3_w12, rt3_w13, h2, h3, h4]
            refine g_aload0 120 rfl dX12_takeStreet_119 ?_
            refine g_dup 121 rfl dX12_takeStreet_120 rfl ?_
            refine g_getI 124 rfl fX12_88 (by first | rfl | exact st_o hb | exact st_1 hb | exact st_2 hb | exact st_3 hb | exact st_4 hb | exact st_5 hb | exact st_o hb2 | exact st_1 hb2 | exact st_2 hb2 | exact st_3 hb2 | exact st_4 hb2 | exact st_5 hb2) rfl dX12_takeStreet_121 ?_
            try simp only [rt3_0, rt3_12, rt3_13, rt3_w0, rt3_w12, rt3_w13, h2, h3, h4]
            rw [pk_un (by decide), h4]
            refine g_iconst 125 rfl (v := 1) dX12_takeStreet_124 (by decide) ?_
            refine g_iadd 126 rfl dX12_takeStreet_125 ?_
            refine g_putI 129 rfl fX12_88 (by first | rfl | exact st_o hb | exact st_1 hb | exact st_2 hb | exact st_3 hb | exact st_4 hb | exact st_5 hb | exact st_o hb2 | exact st_1 hb2 | exact st_2 hb2 | exact st_3 hb2 | exact st_4 hb2 | exact st_5 hb2) rfl dX12_takeStreet_126 ?_
            try simp only [rt3_0, rt3_12, rt3_13, rt3_w0, rt3_w12, rt3_w13, h2, h3, h4]
            refine g_iconst 130 rfl (v := 1) dX12_takeStreet_129 (by decide) ?_
            refine g_zret rfl dX12_takeStreet_130 (by first | exact Or.inl rfl | exact Or.inr rfl | assumption) ?_
            exact ⟨_, _, _, rfl, up22 (by decide) (up22 (by decide) up22s), Or.inl ⟨rfl, _, hsome, fin 1 (Or.inl ⟨fun z => q (hg z), rfl⟩)⟩⟩
        · have hq : h = rm := (nI_eq (by omega) (by omega)).mp q
          refine g_iconst 86 rfl (v := 0) dX12_takeStreet_85 (by decide) ?_
          refine g_zret rfl dX12_takeStreet_86 (by first | exact Or.inl rfl | exact Or.inr rfl | assumption) ?_
          refine ⟨f, k, z, rfl, up22s, Or.inr ⟨rfl, ?_⟩⟩
          simp only [stT, hd, hc, if_false, ← hrm, hq, if_true, ite_self]
      refine g_aload0 63 rfl dX12_takeStreet_62 ?_
      refine g_getI 66 rfl fX12_88 (by first | rfl | exact st_o hb | exact st_1 hb | exact st_2 hb | exact st_3 hb | exact st_4 hb | exact st_5 hb | exact st_o hb2 | exact st_1 hb2 | exact st_2 hb2 | exact st_3 hb2 | exact st_4 hb2 | exact st_5 hb2) rfl dX12_takeStreet_63 ?_
      try simp only [rt3_0, rt3_12, rt3_13, rt3_w0, rt3_w12, rt3_w13, h2, h3, h4]
      refine g_aload0 67 rfl dX12_takeStreet_66 ?_
      refine g_getI 70 rfl fX12_82 (by first | rfl | exact st_o hb | exact st_1 hb | exact st_2 hb | exact st_3 hb | exact st_4 hb | exact st_5 hb | exact st_o hb2 | exact st_1 hb2 | exact st_2 hb2 | exact st_3 hb2 | exact st_4 hb2 | exact st_5 hb2) rfl dX12_takeStreet_67 ?_
      try simp only [rt3_0, rt3_12, rt3_13, rt3_w0, rt3_w12, rt3_w13, h2, h3, h4]
      by_cases r0 : r = 0
      · refine g_ifne 78 73 rfl dX12_takeStreet_70 (by decide) (fun q => absurd (by rw [r0]; rfl) q) (fun _ => ?_)
        rw [if_pos r0] at hrm
        subst hrm
        refine g_bipush 75 rfl (v := 6) dX12_takeStreet_73 (by decide) ?_
        refine g_goto 82 dX12_takeStreet_75 (by decide) ?_
        exact rest
      · refine g_ifne 78 73 rfl dX12_takeStreet_70 (by decide) (fun _ => ?_) (fun q => absurd q (nI_ne0 (by omega) (by omega)))
        rw [if_neg r0] at hrm
        subst hrm
        refine g_aload0 79 rfl dX12_takeStreet_78 ?_
        refine g_getI 82 rfl fX12_85 (by first | rfl | exact st_o hb | exact st_1 hb | exact st_2 hb | exact st_3 hb | exact st_4 hb | exact st_5 hb | exact st_o hb2 | exact st_1 hb2 | exact st_2 hb2 | exact st_3 hb2 | exact st_4 hb2 | exact st_5 hb2) rfl dX12_takeStreet_79 ?_
        try simp only [rt3_0, rt3_12, rt3_13, rt3_w0, rt3_w12, rt3_w13, h2, h3, h4]
        exact rest
    refine g_iload1 49 rfl dX12_takeStreet_48 ?_
    refine g_bipush 51 rfl (v := 46) dX12_takeStreet_49 (by decide) ?_
    refine g_cmpeq 62 54 rfl dX12_takeStreet_51 (by decide) (fun q46 => cell (fun _ => q46) (by rw [q46]; decide)) (fun q46 => ?_)
    refine g_iload1 55 rfl dX12_takeStreet_54 ?_
    refine g_callSi 58 1 rfl kX12_95 dX12_takeStreet_55 ⟨rfl, rfl⟩ om_kindBy rfl rfl rfl ?_
    refine g_iconst 59 rfl (v := (-1)) dX12_takeStreet_58 (by decide) ?_
    refine g_cmpeq 131 62 rfl dX12_takeStreet_59 (by decide) (fun qk => ?_) (fun qk => cell (fun z => absurd z qk) (fun z => qk (by rw [z]; decide)))
    have no : stT c (r, w, h, d, K, Z) = none → Go GM l mX12_takeStreet 178 [.ref 0, .int c, .int (nI n), .null] [] (RT3 M f k z) (qTm M f c (r, w, h, d, K, Z)) := by
      intro hn
      refine g_iconst 179 rfl (v := 0) dX12_takeStreet_178 (by decide) ?_
      refine g_istore3 180 rfl dX12_takeStreet_179 rfl rfl ?_
      refine g_iload3 181 rfl dX12_takeStreet_180 ?_
      refine g_ifeq 207 184 rfl dX12_takeStreet_181 (by decide) (fun _ => ?_) (fun h => absurd rfl h)
      refine g_iload3 208 rfl dX12_takeStreet_207 ?_
      refine g_zret rfl dX12_takeStreet_208 (by first | exact Or.inl rfl | exact Or.inr rfl | assumption) ?_
      exact ⟨f, k, z, rfl, up22s, Or.inr ⟨rfl, hn⟩⟩
    have yes : ∀ rr ww : Nat, rr = r + 1 → ww = h → stT c (r, w, h, d, K, Z) = some (rr, ww, 0, False, K, Z) → txI (rr, ww, 0, False, K, Z) → rr * ww ≤ n → Go GM l mX12_takeStreet 174 [.ref 0, .int c, .int (nI n), .null] [] (RT3 M f k z) (qTm M f c (r, w, h, d, K, Z)) := by
      intro rr ww hrr hww hsome hI' hle
      refine g_iconst 175 rfl (v := 1) dX12_takeStreet_174 (by decide) ?_
      refine g_goto 179 dX12_takeStreet_175 (by decide) ?_
      refine g_istore3 180 rfl dX12_takeStreet_179 rfl rfl ?_
      refine g_iload3 181 rfl dX12_takeStreet_180 ?_
      refine g_ifeq 207 184 rfl dX12_takeStreet_181 (by decide) (fun h => absurd h (by decide)) (fun _ => ?_)
      refine g_aload0 185 rfl dX12_takeStreet_184 ?_
      refine g_aload0 186 rfl dX12_takeStreet_185 ?_
      refine g_getI 189 rfl fX12_88 (by first | rfl | exact st_o hb | exact st_1 hb | exact st_2 hb | exact st_3 hb | exact st_4 hb | exact st_5 hb | exact st_o hb2 | exact st_1 hb2 | exact st_2 hb2 | exact st_3 hb2 | exact st_4 hb2 | exact st_5 hb2) rfl dX12_takeStreet_186 ?_
      try simp only [rt3_0, rt3_12, rt3_13, rt3_w0, rt3_w12, rt3_w13, h2, h3, h4]
      refine g_putI 192 rfl fX12_85 (by first | rfl | exact st_o hb | exact st_1 hb | exact st_2 hb | exact st_3 hb | exact st_4 hb | exact st_5 hb | exact st_o hb2 | exact st_1 hb2 | exact st_2 hb2 | exact st_3 hb2 | exact st_4 hb2 | exact st_5 hb2) rfl dX12_takeStreet_189 ?_
      try simp only [rt3_0, rt3_12, rt3_13, rt3_w0, rt3_w12, rt3_w13, h2, h3, h4]
      refine g_aload0 193 rfl dX12_takeStreet_192 ?_
      refine g_dup 194 rfl dX12_takeStreet_193 rfl ?_
      refine g_getI 197 rfl fX12_82 (by first | rfl | exact st_o hb | exact st_1 hb | exact st_2 hb | exact st_3 hb | exact st_4 hb | exact st_5 hb | exact st_o hb2 | exact st_1 hb2 | exact st_2 hb2 | exact st_3 hb2 | exact st_4 hb2 | exact st_5 hb2) rfl dX12_takeStreet_194 ?_
      try simp only [rt3_0, rt3_12, rt3_13, rt3_w0, rt3_w12, rt3_w13, h2, h3, h4]
      rw [pk_un (by decide), h2]
      refine g_iconst 198 rfl (v := 1) dX12_takeStreet_197 (by decide) ?_
      refine g_iadd 199 rfl dX12_takeStreet_198 ?_
      refine g_putI 202 rfl fX12_82 (by first | rfl | exact st_o hb | exact st_1 hb | exact st_2 hb | exact st_3 hb | exact st_4 hb | exact st_5 hb | exact st_o hb2 | exact st_1 hb2 | exact st_2 hb2 | exact st_3 hb2 | exact st_4 hb2 | exact st_5 hb2) rfl dX12_takeStreet_199 ?_
      try simp only [rt3_0, rt3_12, rt3_13, rt3_w0, rt3_w12, rt3_w13, h2, h3, h4]
      refine g_aload0 203 rfl dX12_takeStreet_202 ?_
      refine g_iconst 204 rfl (v := 0) dX12_takeStreet_203 (by decide) ?_
      refine g_putI 207 rfl fX12_88 (by first | rfl | exact st_o hb | exact st_1 hb | exact st_2 hb | exact st_3 hb | exact st_4 hb | exact st_5 hb | exact st_o hb2 | exact st_1 hb2 | exact st_2 hb2 | exact st_3 hb2 | exact st_4 hb2 | exact st_5 hb2) rfl dX12_takeStreet_204 ?_
      try simp only [rt3_0, rt3_12, rt3_13, rt3_w0, rt3_w12, rt3_w13, h2, h3, h4]
      refine g_iload3 208 rfl dX12_takeStreet_207 ?_
      refine g_zret rfl dX12_takeStreet_208 (by first | exact Or.inl rfl | exact Or.inr rfl | assumption) ?_
      refine ⟨_, _, _, rfl, up22 (by decide) (up22 (by decide) (up22 (by decide) up22s)), Or.inl ⟨rfl, _, hsome, hI', ?_, ?_, ?_, Or.inr ⟨fun h => h, ?_⟩, ?_, ?_⟩⟩
      · rw [pk_un (by decide), upd_at, nI_1, hrr]
      · rw [pk_un (by decide), pk_un (by decide), upd_at, hww]
      · rw [upd_at]; rfl
      · rw [pk_un (by decide), pk_un (by decide), pk_un (by decide)]; exact e6
      · intro c' hc'; exact hk c' (Nat.lt_of_lt_of_le hc' hle)
      · intro c' hc'; exact hz c' (Nat.lt_of_lt_of_le hc' hle)
    refine g_iload1 132 rfl dX12_takeStreet_131 ?_
    refine g_bipush 134 rfl (v := 47) dX12_takeStreet_132 (by decide) ?_
    refine g_cmpne 178 137 rfl dX12_takeStreet_134 (by decide) (fun q => no ?_) (fun q => ?_)
    · simp only [stT, hd, q, if_false]
      rw [if_pos ⟨qk, q46⟩]
    · subst q
      rcases hI2 with ⟨r0, w0, hh6⟩ | ⟨h1, hw, hw6, hhw⟩
      · subst r0
        subst w0
        refine g_aload0 138 rfl dX12_takeStreet_137 ?_
        refine g_getI 141 rfl fX12_82 (by first | rfl | exact st_o hb | exact st_1 hb | exact st_2 hb | exact st_3 hb | exact st_4 hb | exact st_5 hb | exact st_o hb2 | exact st_1 hb2 | exact st_2 hb2 | exact st_3 hb2 | exact st_4 hb2 | exact st_5 hb2) rfl dX12_takeStreet_138 ?_
        try simp only [rt3_0, rt3_12, rt3_13, rt3_w0, rt3_w12, rt3_w13, h2, h3, h4]
        refine g_iconst 142 rfl (v := 4) dX12_takeStreet_141 (by decide) ?_
        refine g_cmpge 178 145 rfl dX12_takeStreet_142 (by decide) (fun q => absurd q (by decide)) (fun _ => ?_)
        refine g_aload0 146 rfl dX12_takeStreet_145 ?_
        refine g_getI 149 rfl fX12_82 (by first | rfl | exact st_o hb | exact st_1 hb | exact st_2 hb | exact st_3 hb | exact st_4 hb | exact st_5 hb | exact st_o hb2 | exact st_1 hb2 | exact st_2 hb2 | exact st_3 hb2 | exact st_4 hb2 | exact st_5 hb2) rfl dX12_takeStreet_146 ?_
        try simp only [rt3_0, rt3_12, rt3_13, rt3_w0, rt3_w12, rt3_w13, h2, h3, h4]
        refine g_ifne 163 152 rfl dX12_takeStreet_149 (by decide) (fun q => absurd rfl q) (fun _ => ?_)
        refine g_aload0 153 rfl dX12_takeStreet_152 ?_
        refine g_getI 156 rfl fX12_88 (by first | rfl | exact st_o hb | exact st_1 hb | exact st_2 hb | exact st_3 hb | exact st_4 hb | exact st_5 hb | exact st_o hb2 | exact st_1 hb2 | exact st_2 hb2 | exact st_3 hb2 | exact st_4 hb2 | exact st_5 hb2) rfl dX12_takeStreet_153 ?_
        try simp only [rt3_0, rt3_12, rt3_13, rt3_w0, rt3_w12, rt3_w13, h2, h3, h4]
        refine g_iconst 157 rfl (v := 1) dX12_takeStreet_156 (by decide) ?_
        refine g_cmple 178 160 rfl dX12_takeStreet_157 (by decide) (fun q => no ?_) (fun q => ?_)
        · have : ¬ 2 ≤ h := fun z => absurd q (nI_ge (a := 1) (b := h) (by omega) (by omega))
          simp [stT, hd, this]
        · have h2' : 2 ≤ h := by
            rcases Nat.lt_or_ge 1 h with z | z
            · omega
            · exact absurd (nI_le (b := 1) z (by decide)) q
          refine g_goto 174 dX12_takeStreet_160 (by decide) ?_
          exact yes 1 h rfl rfl (by simp [stT, hd, h2']) ⟨(show (1 : Nat) ≤ 4 by decide), Or.inr ⟨(show (1 : Nat) ≤ 1 by decide), h2', by show h ≤ 6; omega, Nat.zero_le _⟩, fun h => h.elim⟩ (by omega)
      · have r0 : ¬ r = 0 := by omega
        refine g_aload0 138 rfl dX12_takeStreet_137 ?_
        refine g_getI 141 rfl fX12_82 (by first | rfl | exact st_o hb | exact st_1 hb | exact st_2 hb | exact st_3 hb | exact st_4 hb | exact st_5 hb | exact st_o hb2 | exact st_1 hb2 | exact st_2 hb2 | exact st_3 hb2 | exact st_4 hb2 | exact st_5 hb2) rfl dX12_takeStreet_138 ?_
        try simp only [rt3_0, rt3_12, rt3_13, rt3_w0, rt3_w12, rt3_w13, h2, h3, h4]
        refine g_iconst 142 rfl (v := 4) dX12_takeStreet_141 (by decide) ?_
        refine g_cmpge 178 145 rfl dX12_takeStreet_142 (by decide) (fun q => no ?_) (fun q4 => ?_)
        · have : ¬ r < 4 := fun z => absurd q (nI_ge (b := 4) z (by decide))
          simp only [stT, hd, if_false, if_true, r0]
          rw [if_neg (fun z => this z.2)]
        · have h4' : r < 4 := Nat.lt_of_not_le (fun z => q4 (nI_le (a := 4) z (by omega)))
          refine g_aload0 146 rfl dX12_takeStreet_145 ?_
          refine g_getI 149 rfl fX12_82 (by first | rfl | exact st_o hb | exact st_1 hb | exact st_2 hb | exact st_3 hb | exact st_4 hb | exact st_5 hb | exact st_o hb2 | exact st_1 hb2 | exact st_2 hb2 | exact st_3 hb2 | exact st_4 hb2 | exact st_5 hb2) rfl dX12_takeStreet_146 ?_
          try simp only [rt3_0, rt3_12, rt3_13, rt3_w0, rt3_w12, rt3_w13, h2, h3, h4]
          refine g_ifne 163 152 rfl dX12_takeStreet_149 (by decide) (fun _ => ?_) (fun q => absurd q (nI_ne0 h1 (by omega)))
          refine g_aload0 164 rfl dX12_takeStreet_163 ?_
          refine g_getI 167 rfl fX12_88 (by first | rfl | exact st_o hb | exact st_1 hb | exact st_2 hb | exact st_3 hb | exact st_4 hb | exact st_5 hb | exact st_o hb2 | exact st_1 hb2 | exact st_2 hb2 | exact st_3 hb2 | exact st_4 hb2 | exact st_5 hb2) rfl dX12_takeStreet_164 ?_
          try simp only [rt3_0, rt3_12, rt3_13, rt3_w0, rt3_w12, rt3_w13, h2, h3, h4]
          refine g_aload0 168 rfl dX12_takeStreet_167 ?_
          refine g_getI 171 rfl fX12_85 (by first | rfl | exact st_o hb | exact st_1 hb | exact st_2 hb | exact st_3 hb | exact st_4 hb | exact st_5 hb | exact st_o hb2 | exact st_1 hb2 | exact st_2 hb2 | exact st_3 hb2 | exact st_4 hb2 | exact st_5 hb2) rfl dX12_takeStreet_168 ?_
          try simp only [rt3_0, rt3_12, rt3_13, rt3_w0, rt3_w12, rt3_w13, h2, h3, h4]
          refine g_cmpne 178 174 rfl dX12_takeStreet_171 (by decide) (fun q => no ?_) (fun q => ?_)
          · have : ¬ h = w := fun z => q (by rw [z])
            simp only [stT, hd, if_false, if_true, r0]
            rw [if_neg (fun z => this z.1)]
          · have hw2 : h = w := (nI_eq (by omega) (by omega)).mp q
            refine yes (r + 1) h rfl rfl ?_ ⟨by show r + 1 ≤ 4; omega, Or.inr ⟨by show 1 ≤ r + 1; omega, by show 2 ≤ h; omega, by show h ≤ 6; omega, Nat.zero_le _⟩, fun h => h.elim⟩ (by rw [en2, ← hw2, Nat.add_mul, Nat.one_mul]; exact Nat.le_refl _)
            simp only [stT, hd, if_false, if_true, r0]
            rw [if_pos ⟨hw2, h4'⟩, hw2]
/-- behind a reading of the page as a street -/
abbrev qRs (M : Mm) (L : Nat) (p : Nat → Int32) : Rr → Mm → Prop := fun r M' => r = none ∧ ∃ f k z, M' = RT3 M f k z ∧ (∀ q, q ≤ 22 → f q = M.1 0 q) ∧ f 23 = nI (runF stT p L 0 tx0).1 ∧ ((f 24 = 1 ∧ ∃ t, isS L p t ∧ TR f k z t) ∨ (f 24 = 0 ∧ ¬ ∃ t, isS L p t))
def PgM (M : Mm) (L : Nat) (p : Nat → Int32) : Prop := L ≤ 64 ∧ M.1 0 15 = nI L ∧ ∀ i, i < L → M.1 9 i = p i
theorem TR.u {f k z : Nat → Int32} {t : Tx} {j : Nat} {v : Int32} (h : TR f k z t) (hj : j < 25) : TR (upd f j v) k z t := by
  obtain ⟨a1, a2, a3, a4, a5, a6, a7⟩ := h
  refine ⟨a1, ?_, ?_, ?_, ?_, a6, a7⟩
  · rw [pk_un (by omega)]; exact a2
  · rw [pk_un (by omega)]; exact a3
  · rw [pk_un (by omega)]; exact a4
  · rw [pk_un (by omega)]; exact a5
theorem om_readStreet {l : Launch} {M : Mm} {L : Nat} {p : Nat → Int32} (hp : PgM M L p) : Ok GM l mX12_readStreet [.ref 0] M (qRs M L p) := by
  obtain ⟨hL, hl, hc⟩ := hp
  have e2 : ∀ f k z i, i < L → (RT3 M f k z).1 9 i = p i := fun f k z i hi => by rw [rt3_n (by decide) (by decide) (by decide)]; exact hc i hi
  refine ok_of (by decide +kernel) rfl rfl ?_
  refine g_mem (RT3 M (M.1 0) (M.1 12) (M.1 13)) rt3_id.symm ?_
  have fin : ∀ f k z n, (∀ q, q ≤ 22 → f q = M.1 0 q) → n = (runF stT p L 0 tx0).1 → (∀ t, (runF stT p L 0 tx0).2 = some t → TR f k z t) → Go GM l mX12_readStreet 49 [.ref 0, .int (nI n)] [] (RT3 M f k z) (qRs M L p) := by
    intro f k z n hf hn hT
    have g15 : ∀ v, upd f 23 v 15 = nI L := fun v => by rw [pk_un (by decide), hf 15 (by decide)]; exact hl
    have no : ¬ (∃ t, isS L p t) → Go GM l mX12_readStreet 92 [.ref 0, .int (nI n)] [.ref 0] (RT3 M (upd f 23 (nI n)) k z) (qRs M L p) := by
      intro hno
      refine g_iconst 93 rfl (v := 0) dX12_readStreet_92 (by decide) ?_
      refine g_putZ 96 rfl fX12_106 (by first | rfl | exact st_o hb | exact st_1 hb | exact st_2 hb | exact st_3 hb | exact st_4 hb | exact st_5 hb | exact st_o hb2 | exact st_1 hb2 | exact st_2 hb2 | exact st_3 hb2 | exact st_4 hb2 | exact st_5 hb2) rfl dX12_readStreet_93 (by first | exact Or.inl rfl | exact Or.inr rfl | assumption) ?_
      try simp only [rt3_0, rt3_w0]
      refine g_vret rfl dX12_readStreet_96 ?_
      refine ⟨rfl, _, _, _, rfl, up22 (by decide) (up22 (by decide) hf), ?_, Or.inr ⟨upd_at _ _ _, hno⟩⟩
      rw [pk_un (by decide), upd_at, hn]
    refine g_aload0 50 rfl dX12_readStreet_49 ?_
    refine g_iload1 51 rfl dX12_readStreet_50 ?_
    refine g_putI 54 rfl fX12_103 (by first | rfl | exact st_o hb | exact st_1 hb | exact st_2 hb | exact st_3 hb | exact st_4 hb | exact st_5 hb | exact st_o hb2 | exact st_1 hb2 | exact st_2 hb2 | exact st_3 hb2 | exact st_4 hb2 | exact st_5 hb2) rfl dX12_readStreet_51 ?_
    try simp only [rt3_0, rt3_w0]
    refine g_aload0 55 rfl dX12_readStreet_54 ?_
    refine g_iload1 56 rfl dX12_readStreet_55 ?_
    refine g_aload0 57 rfl dX12_readStreet_56 ?_
    refine g_getI 60 rfl fX12_74 (by first | rfl | exact st_o hb | exact st_1 hb | exact st_2 hb | exact st_3 hb | exact st_4 hb | exact st_5 hb | exact st_o hb2 | exact st_1 hb2 | exact st_2 hb2 | exact st_3 hb2 | exact st_4 hb2 | exact st_5 hb2) rfl dX12_readStreet_57 ?_
    try simp only [rt3_0, rt3_w0]
    rw [g15]
    rcases run_some (step := stT) (p := p) L 0 tx0 with ⟨t, h1, h2⟩ | ⟨h1, h2⟩
    · rw [Nat.zero_add] at h2
      rw [hn, h2]
      have no := no
      rw [hn, h2] at no
      obtain ⟨a1, a2, a3, a4, a5, a6, a7⟩ := (hT t h1).u (j := 23) (v := nI L) (by decide)
      have hb : t.1 ≤ 4 ∧ t.2.1 ≤ 6 ∧ t.2.2.1 ≤ 6 := ⟨a1.1, by rcases a1.2.1 with ⟨a, b, c⟩ | ⟨a, b, c, d⟩ <;> omega, by rcases a1.2.1 with ⟨a, b, c⟩ | ⟨a, b, c, d⟩ <;> omega⟩
      have one : ∀ t', isS L p t' → t' = t := fun t' ht' => by
        have := ht'.1
        rw [h1] at this
        cases this
        rfl
      refine g_cmpne 92 63 rfl dX12_readStreet_60 (by decide) (fun h => absurd rfl h) (fun _ => ?_)
      refine g_aload0 64 rfl dX12_readStreet_63 ?_
      refine g_getI 67 rfl fX12_91 (by first | rfl | exact st_o hb | exact st_1 hb | exact st_2 hb | exact st_3 hb | exact st_4 hb | exact st_5 hb | exact st_o hb2 | exact st_1 hb2 | exact st_2 hb2 | exact st_3 hb2 | exact st_4 hb2 | exact st_5 hb2) rfl dX12_readStreet_64 ?_
      try simp only [rt3_0, rt3_w0]
      refine g_ifne 92 70 rfl dX12_readStreet_67 (by decide) (fun h67 => no (fun ⟨t', ht'⟩ => ?_)) (fun h67 => ?_)
      · have hw := ht'.2
        rw [one t' ht'] at hw
        rcases a5 with ⟨a, b⟩ | ⟨a, b⟩
        · exact hw.1 a
        · exact h67 b
      · refine g_aload0 71 rfl dX12_readStreet_70 ?_
        refine g_getI 74 rfl fX12_82 (by first | rfl | exact st_o hb | exact st_1 hb | exact st_2 hb | exact st_3 hb | exact st_4 hb | exact st_5 hb | exact st_o hb2 | exact st_1 hb2 | exact st_2 hb2 | exact st_3 hb2 | exact st_4 hb2 | exact st_5 hb2) rfl dX12_readStreet_71 ?_
        try simp only [rt3_0, rt3_w0]
        rw [a2]
        refine g_ifle 92 77 rfl dX12_readStreet_74 (by decide) (fun h74 => no (fun ⟨t', ht'⟩ => ?_)) (fun h74 => ?_)
        · have hw := ht'.2
          rw [one t' ht'] at hw
          exact absurd h74 (nI_nle hw.2.1 (by omega))
        · refine g_aload0 78 rfl dX12_readStreet_77 ?_
          refine g_getI 81 rfl fX12_88 (by first | rfl | exact st_o hb | exact st_1 hb | exact st_2 hb | exact st_3 hb | exact st_4 hb | exact st_5 hb | exact st_o hb2 | exact st_1 hb2 | exact st_2 hb2 | exact st_3 hb2 | exact st_4 hb2 | exact st_5 hb2) rfl dX12_readStreet_78 ?_
          try simp only [rt3_0, rt3_w0]
          refine g_aload0 82 rfl dX12_readStreet_81 ?_
          refine g_getI 85 rfl fX12_85 (by first | rfl | exact st_o hb | exact st_1 hb | exact st_2 hb | exact st_3 hb | exact st_4 hb | exact st_5 hb | exact st_o hb2 | exact st_1 hb2 | exact st_2 hb2 | exact st_3 hb2 | exact st_4 hb2 | exact st_5 hb2) rfl dX12_readStreet_82 ?_
          try simp only [rt3_0, rt3_w0]
          rw [a3, a4]
          refine g_cmpne 92 88 rfl dX12_readStreet_85 (by decide) (fun h85 => no (fun ⟨t', ht'⟩ => ?_)) (fun h85 => ?_)
          · have hw := ht'.2
            rw [one t' ht'] at hw
            exact h85 (by rw [hw.2.2])
          · refine g_iconst 89 rfl (v := 1) dX12_readStreet_88 (by decide) ?_
            refine g_goto 93 dX12_readStreet_89 (by decide) ?_
            refine g_putZ 96 rfl fX12_106 (by first | rfl | exact st_o hb | exact st_1 hb | exact st_2 hb | exact st_3 hb | exact st_4 hb | exact st_5 hb | exact st_o hb2 | exact st_1 hb2 | exact st_2 hb2 | exact st_3 hb2 | exact st_4 hb2 | exact st_5 hb2) rfl dX12_readStreet_93 (by first | exact Or.inl rfl | exact Or.inr rfl | assumption) ?_
            try simp only [rt3_0, rt3_w0]
            refine g_vret rfl dX12_readStreet_96 ?_
            have hw : txW t := ⟨by rcases a5 with ⟨a, b⟩ | ⟨a, b⟩; exact absurd (b.symm.trans h67) (by decide); exact a, Nat.pos_of_ne_zero (fun q => h74 (by rw [q]; decide)), (nI_eq (by omega) (by omega)).mp h85⟩
            refine ⟨rfl, _, _, _, rfl, up22 (by decide) (up22 (by decide) hf), ?_, Or.inl ⟨upd_at _ _ _, t, ⟨h1, hw⟩, ((hT t h1).u (by decide)).u (by decide)⟩⟩
            rw [pk_un (by decide), upd_at, h2]
    · have hne : ¬ nI n = nI L := fun q => by
        have := (nI_eq (by omega) (by omega)).mp q
        omega
      refine g_cmpne 92 63 rfl dX12_readStreet_60 (by decide) (fun _ => ?_) (fun h => absurd h hne)
      exact no (fun ⟨t', g1, g2⟩ => by rw [h1] at g1; cases g1)
  refine g_aload0 1 rfl dX12_readStreet_0 ?_
  refine g_iconst 2 rfl (v := 0) dX12_readStreet_1 (by decide) ?_
  refine g_putI 5 rfl fX12_82 (by first | rfl | exact st_o hb | exact st_1 hb | exact st_2 hb | exact st_3 hb | exact st_4 hb | exact st_5 hb | exact st_o hb2 | exact st_1 hb2 | exact st_2 hb2 | exact st_3 hb2 | exact st_4 hb2 | exact st_5 hb2) rfl dX12_readStreet_2 ?_
  try simp only [rt3_0, rt3_w0]
  refine g_aload0 6 rfl dX12_readStreet_5 ?_
  refine g_iconst 7 rfl (v := 0) dX12_readStreet_6 (by decide) ?_
  refine g_putI 10 rfl fX12_85 (by first | rfl | exact st_o hb | exact st_1 hb | exact st_2 hb | exact st_3 hb | exact st_4 hb | exact st_5 hb | exact st_o hb2 | exact st_1 hb2 | exact st_2 hb2 | exact st_3 hb2 | exact st_4 hb2 | exact st_5 hb2) rfl dX12_readStreet_7 ?_
  try simp only [rt3_0, rt3_w0]
  refine g_aload0 11 rfl dX12_readStreet_10 ?_
  refine g_iconst 12 rfl (v := 0) dX12_readStreet_11 (by decide) ?_
  refine g_putI 15 rfl fX12_88 (by first | rfl | exact st_o hb | exact st_1 hb | exact st_2 hb | exact st_3 hb | exact st_4 hb | exact st_5 hb | exact st_o hb2 | exact st_1 hb2 | exact st_2 hb2 | exact st_3 hb2 | exact st_4 hb2 | exact st_5 hb2) rfl dX12_readStreet_12 ?_
  try simp only [rt3_0, rt3_w0]
  refine g_aload0 16 rfl dX12_readStreet_15 ?_
  refine g_iconst 17 rfl (v := 0) dX12_readStreet_16 (by decide) ?_
  refine g_putZ 20 rfl fX12_91 (by first | rfl | exact st_o hb | exact st_1 hb | exact st_2 hb | exact st_3 hb | exact st_4 hb | exact st_5 hb | exact st_o hb2 | exact st_1 hb2 | exact st_2 hb2 | exact st_3 hb2 | exact st_4 hb2 | exact st_5 hb2) rfl dX12_readStreet_17 (by first | exact Or.inl rfl | exact Or.inr rfl | assumption) ?_
  try simp only [rt3_0, rt3_w0]
  refine g_iconst 21 rfl (v := 0) dX12_readStreet_20 (by decide) ?_
  refine g_istore1 22 rfl dX12_readStreet_21 rfl rfl ?_
  refine loop_up (P := fun i => ∀ f k z t, (∀ q, q ≤ 22 → f q = M.1 0 q) → TR f k z t → runF stT p (L - i) i t = runF stT p L 0 tx0 → Go GM l mX12_readStreet 22 [.ref 0, .int (nI i)] [] (RT3 M f k z) (qRs M L p)) L ?_ ?_ 0 (by omega) _ _ _ tx0 (up22 (by decide) (up22 (by decide) (up22 (by decide) (up22 (by decide) up22s)))) ⟨⟨by decide, Or.inl ⟨rfl, rfl, by decide⟩, fun h => h.elim⟩, ?_, ?_, ?_, Or.inr ⟨fun h => h, upd_at _ _ _⟩, fun c h => absurd h (by simp [txN, tx0]), fun c h => absurd h (by simp [txN, tx0])⟩ rfl
  · intro f k z t hf hs he
    rw [Nat.sub_self] at he
    have he : (L, some t) = runF stT p L 0 tx0 := he
    refine g_iload1 23 rfl dX12_readStreet_22 ?_
    refine g_aload0 24 rfl dX12_readStreet_23 ?_
    refine g_getI 27 rfl fX12_74 (by first | rfl | exact st_o hb | exact st_1 hb | exact st_2 hb | exact st_3 hb | exact st_4 hb | exact st_5 hb | exact st_o hb2 | exact st_1 hb2 | exact st_2 hb2 | exact st_3 hb2 | exact st_4 hb2 | exact st_5 hb2) rfl dX12_readStreet_24 ?_
    try simp only [rt3_0, rt3_w0]
    rw [hf 15 (by decide), hl]
    refine g_cmpge 49 30 rfl dX12_readStreet_27 (by decide) (fun _ => ?_) (fun h => absurd (Int32.le_refl _) h)
    exact fin f k z L hf (by rw [← he]) (fun t' ht => by rw [← he] at ht; cases ht; exact hs)
  · intro i hi ih f k z t hf hs he
    rw [show L - i = L - (i + 1) + 1 by omega, runF] at he
    refine g_iload1 23 rfl dX12_readStreet_22 ?_
    refine g_aload0 24 rfl dX12_readStreet_23 ?_
    refine g_getI 27 rfl fX12_74 (by first | rfl | exact st_o hb | exact st_1 hb | exact st_2 hb | exact st_3 hb | exact st_4 hb | exact st_5 hb | exact st_o hb2 | exact st_1 hb2 | exact st_2 hb2 | exact st_3 hb2 | exact st_4 hb2 | exact st_5 hb2) rfl dX12_readStreet_24 ?_
    try simp only [rt3_0, rt3_w0]
    rw [hf 15 (by decide), hl]
    refine g_cmpge 49 30 rfl dX12_readStreet_27 (by decide) (fun h => absurd h (nI_ge hi (by omega))) (fun _ => ?_)
    refine g_aload0 31 rfl dX12_readStreet_30 ?_
    refine g_aload0 32 rfl dX12_readStreet_31 ?_
    refine g_getR 35 rfl fX12_38 (by first | rfl | exact st_o hb | exact st_1 hb | exact st_2 hb | exact st_3 hb | exact st_4 hb | exact st_5 hb | exact st_o hb2 | exact st_1 hb2 | exact st_2 hb2 | exact st_3 hb2 | exact st_4 hb2 | exact st_5 hb2) rfl dX12_readStreet_32 ?_
    refine g_iload1 36 rfl dX12_readStreet_35 ?_
    refine g_bald 37 rfl dX12_readStreet_36 (by first | rfl | exact st_o hb | exact st_1 hb | exact st_2 hb | exact st_3 hb | exact st_4 hb | exact st_5 hb | exact st_o hb2 | exact st_1 hb2 | exact st_2 hb2 | exact st_3 hb2 | exact st_4 hb2 | exact st_5 hb2) rfl rfl (by first | assumption | omega) ?_
    try simp only [rt3_0, rt3_w0]
    rw [e2 _ _ _ i hi]
    refine g_callV 40 1 rfl kX12_99 (by first | rfl | exact st_o hb | exact st_1 hb | exact st_2 hb | exact st_3 hb | exact st_4 hb | exact st_5 hb | exact st_o hb2 | exact st_1 hb2 | exact st_2 hb2 | exact st_3 hb2 | exact st_4 hb2 | exact st_5 hb2) dX12_readStreet_37 ⟨rfl, rfl⟩ (om_takeStreet hs) rfl rfl rfl (fun r M1 hq => ?_)
    obtain ⟨f2, k2, z2, rfl, hf2, hq⟩ := hq
    try simp only [rV, Option.toList, List.cons_append, List.nil_append]
    have hf3 : ∀ q, q ≤ 22 → f2 q = M.1 0 q := fun q hq => (hf2 q hq).trans (hf q hq)
    rcases hq with ⟨rfl, t', h1, h2⟩ | ⟨rfl, h1⟩
    · rw [h1] at he
      refine g_ifeq 49 43 rfl dX12_readStreet_40 (by decide) (fun h => absurd h (by decide)) (fun _ => ?_)
      refine g_iinc1 46 rfl dX12_readStreet_43 rfl rfl _ (by first | exact iinc1 _ | exact iincx _ | rfl) ?_
      refine g_goto 22 dX12_readStreet_46 (by decide) ?_
      exact ih f2 k2 z2 t' hf3 h2 he
    · rw [h1] at he
      have he : (i, none) = runF stT p L 0 tx0 := he
      refine g_ifeq 49 43 rfl dX12_readStreet_40 (by decide) (fun _ => ?_) (fun h => absurd rfl h)
      exact fin f2 k2 z2 i hf3 (by rw [← he]) (fun t' ht => by rw [← he] at ht; cases ht)
  · rw [pk_un (by decide), pk_un (by decide), pk_un (by decide), upd_at]; rfl
  · rw [pk_un (by decide), pk_un (by decide), upd_at]; rfl
  · rw [pk_un (by decide), upd_at]; rfl
