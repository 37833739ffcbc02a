/-! the class's StreetText, on -/
theorem ok_X8_takesCell {l : Launch} {M : Mm} {c : Int32} {f k z : Nat → Int32} {t : Tx} (hs : SR f k z t) (hd : ¬ t.2.2.2.1) (hc : ¬ c = 47) : Ok GC l mX8_takesCell [.ref 3, .int c] (ST3 M f k z) (qTk M c t) := by
  obtain ⟨hI, h2, h3, h4, h5, h6, hk, hz⟩ := hs
  have hn := hI.n
  obtain ⟨r, w, h, d, K, Z⟩ := t
  simp only at h2 h3 h4 h6 hk hz hd
  obtain ⟨hr, hI2, -⟩ := hI
  simp only at hr hI2
  have h6' := (h6.resolve_left (fun q => hd q.1)).2
  obtain ⟨rm, hrm⟩ : ∃ rm, rm = if r = 0 then 6 else w := ⟨_, rfl⟩
  have hrm6 : rm ≤ 6 := by rw [hrm]; rcases hI2 with ⟨a, b, c⟩ | ⟨a, b, c, d⟩ <;> split <;> omega
  have hh : h ≤ rm := by rw [hrm]; rcases hI2 with ⟨a, b, c⟩ | ⟨a, b, c, d⟩ <;> split <;> omega
  have hlt : h < rm → txN (r, w, h, d, K, Z) < 30 := by
    intro q
    simp only [txN]
    rcases hI2 with ⟨a, b, c⟩ | ⟨a, b, c, d⟩
    · rw [a]; omega
    · have : r * w ≤ 4 * w := Nat.mul_le_mul_right w hr
      rw [hrm, if_neg (by omega)] at q
      omega
  refine ok_of (by decide +kernel) rfl rfl ?_
  refine g_iload1 1 rfl dX8_takesCell_0 ?_
  refine g_callSi 4 1 rfl kX8_46 dX8_takesCell_1 ⟨rfl, rfl⟩ ok_X8_kindOf rfl rfl rfl ?_
  refine g_istore2 5 rfl dX8_takesCell_4 rfl rfl ?_
  refine g_aload0 6 rfl dX8_takesCell_5 ?_
  refine g_getI 9 rfl fX8_18 (by first | rfl | exact st_o hb | exact st_1 hb | exact st_2 hb | exact st_3 hb | exact st_4 hb | exact st_5 hb | exact st_o hb2 | exact st_1 hb2 | exact st_2 hb2 | exact st_3 hb2 | exact st_4 hb2 | exact st_5 hb2) rfl dX8_takesCell_6 ?_
  try simp only [st3_3, st3_4, st3_5, st3_w3, st3_w4, st3_w5, h2, h3, h4, h5]
  have rest : Go GC l mX8_takesCell 21 [.ref 3, .int c, .int (kndO c), .null] [.int (nI rm)] (ST3 M f k z) (qTk M c (r, w, h, d, K, Z)) := by
    refine g_istore3 22 rfl dX8_takesCell_21 rfl rfl ?_
    refine g_aload0 23 rfl dX8_takesCell_22 ?_
    refine g_getI 26 rfl fX8_25 (by first | rfl | exact st_o hb | exact st_1 hb | exact st_2 hb | exact st_3 hb | exact st_4 hb | exact st_5 hb | exact st_o hb2 | exact st_1 hb2 | exact st_2 hb2 | exact st_3 hb2 | exact st_4 hb2 | exact st_5 hb2) rfl dX8_takesCell_23 ?_
    try simp only [st3_3, st3_4, st3_5, st3_w3, st3_w4, st3_w5, h2, h3, h4, h5]
    refine g_iload3 27 rfl dX8_takesCell_26 ?_
    refine g_cmpge 50 30 rfl dX8_takesCell_27 (by decide) (fun q => ?_) (fun q => ?_)
    · have : h = rm := by
        have := (nI_leI (by omega) (by omega)).mp q
        omega
      refine g_iconst 51 rfl (v := 0) dX8_takesCell_50 (by decide) ?_
      refine g_zret rfl dX8_takesCell_51 (by first | exact Or.inl rfl | exact Or.inr rfl | assumption) ?_
      refine ⟨_, _, _, rfl, Or.inr ⟨rfl, ?_⟩⟩
      simp only [stT, hd, hc, if_false, ← hrm, this, if_true, ite_self]
    · have hq : h < rm := Nat.lt_of_not_le (fun z => q (nI_le z (by omega)))
      have hq2 := hlt hq
      refine g_aload0 31 rfl dX8_takesCell_30 ?_
      refine g_getI 34 rfl fX8_28 (by first | rfl | exact st_o hb | exact st_1 hb | exact st_2 hb | exact st_3 hb | exact st_4 hb | exact st_5 hb | exact st_o hb2 | exact st_1 hb2 | exact st_2 hb2 | exact st_3 hb2 | exact st_4 hb2 | exact st_5 hb2) rfl dX8_takesCell_31 ?_
      try simp only [st3_3, st3_4, st3_5, st3_w3, st3_w4, st3_w5, h2, h3, h4, h5]
      refine g_bipush 36 rfl (v := 30) dX8_takesCell_34 (by decide) ?_
      refine g_cmpge 50 39 rfl dX8_takesCell_36 (by decide) (fun q => absurd q (nI_ge (b := 30) hq2 (by decide))) (fun _ => ?_)
      refine g_iload2 40 rfl dX8_takesCell_39 ?_
      refine g_iconst 41 rfl (v := (-1)) dX8_takesCell_40 (by decide) ?_
      have good : (kndO c = -1 → c = 46) → Go GC l mX8_takesCell 52 [.ref 3, .int c, .int (kndO c), .int (nI rm)] [] (ST3 M f k z) (qTk M c (r, w, h, d, K, Z)) := by
        intro hg
        have hsome : stT c (r, w, h, d, K, Z) = some (r, w, h + 1, ¬ kndO c = -1, upd K (txN (r, w, h, d, K, Z)) (kndO c), upd Z (txN (r, w, h, d, K, Z)) 0) := by
          simp only [stT, hd, hc, if_false, ← hrm]
          rw [if_neg (fun z => z.2 (hg z.1)), if_neg (show ¬ h = rm by omega)]
        have en : txN (r, w, h + 1, ¬ kndO c = -1, upd K (txN (r, w, h, d, K, Z)) (kndO c), upd Z (txN (r, w, h, d, K, Z)) 0) = txN (r, w, h, d, K, Z) + 1 := by simp only [txN]; omega
        have hI' : ∀ p K' Z', txI (r, w, h + 1, p, K', Z') := by
          intro p K' Z'
          refine ⟨hr, ?_, fun _ => by show 1 ≤ h + 1; omega⟩
          simp only
          rcases hI2 with ⟨a, b, c⟩ | ⟨a, b, c, e⟩
          · left; rw [hrm, if_pos a] at hq; exact ⟨a, b, by omega⟩
          · right; rw [hrm, if_neg (by omega)] at hq; exact ⟨a, b, c, by omega⟩
        have fin : ∀ v, ((¬ kndO c = -1 ∧ v = 1) ∨ (¬ ¬ kndO c = -1 ∧ v = 0)) → SR (upd (upd (upd f 6 v) 5 (nI (txN (r, w, h, d, K, Z)) + 1)) 4 (nI h + 1)) (upd k (txN (r, w, h, d, K, Z)) (kndO c)) (upd z (txN (r, w, h, d, K, Z)) 0) (r, w, h + 1, ¬ kndO c = -1, upd K (txN (r, w, h, d, K, Z)) (kndO c), upd Z (txN (r, w, h, d, K, Z)) 0) := by
          intro v hv
          refine ⟨hI' _ _ _, ?_, ?_, ?_, ?_, ?_, ?_, ?_⟩
          · rw [pk_un (by decide), pk_un (by decide), pk_un (by decide)]; exact h2
          · rw [pk_un (by decide), pk_un (by decide), pk_un (by decide)]; exact h3
          · rw [upd_at, nI_1]
          · rw [pk_un (by decide), upd_at, nI_1, en]
          · rw [pk_un (by decide), pk_un (by decide), upd_at]; exact hv
          · intro c' hc'
            rw [en] at hc'
            by_cases e : c' = txN (r, w, h, d, K, Z)
            · subst e; rw [upd_at]; exact (upd_at _ _ _).symm
            · rw [pk_un e]; exact (hk c' (by omega)).trans (pk_un e).symm
          · intro c' hc'
            rw [en] at hc'
            by_cases e : c' = txN (r, w, h, d, K, Z)
            · subst e; rw [upd_at]; exact (upd_at _ _ _).symm
            · rw [pk_un e]; exact (hz c' (by omega)).trans (pk_un e).symm
        refine g_aload0 53 rfl dX8_takesCell_52 ?_
        refine g_getR 56 rfl fX8_9 (by first | rfl | exact st_o hb | exact st_1 hb | exact st_2 hb | exact st_3 hb | exact st_4 hb | exact st_5 hb | exact st_o hb2 | exact st_1 hb2 | exact st_2 hb2 | exact st_3 hb2 | exact st_4 hb2 | exact st_5 hb2) rfl dX8_takesCell_53 ?_
        refine g_aload0 57 rfl dX8_takesCell_56 ?_
        refine g_getI 60 rfl fX8_28 (by first | rfl | exact st_o hb | exact st_1 hb | exact st_2 hb | exact st_3 hb | exact st_4 hb | exact st_5 hb | exact st_o hb2 | exact st_1 hb2 | exact st_2 hb2 | exact st_3 hb2 | exact st_4 hb2 | exact st_5 hb2) rfl dX8_takesCell_57 ?_
        try simp only [st3_3, st3_4, st3_5, st3_w3, st3_w4, st3_w5, h2, h3, h4, h5]
        refine g_iload2 61 rfl dX8_takesCell_60 ?_
        refine g_iast 62 rfl dX8_takesCell_61 (by first | rfl | exact st_o hb | exact st_1 hb | exact st_2 hb | exact st_3 hb | exact st_4 hb | exact st_5 hb | exact st_o hb2 | exact st_1 hb2 | exact st_2 hb2 | exact st_3 hb2 | exact st_4 hb2 | exact st_5 hb2) rfl rfl (by first | assumption | omega) ?_
        try simp only [st3_3, st3_4, st3_5, st3_w3, st3_w4, st3_w5, h2, h3, h4, h5]
        refine g_aload0 63 rfl dX8_takesCell_62 ?_
        refine g_getR 66 rfl fX8_15 (by first | rfl | exact st_o hb | exact st_1 hb | exact st_2 hb | exact st_3 hb | exact st_4 hb | exact st_5 hb | exact st_o hb2 | exact st_1 hb2 | exact st_2 hb2 | exact st_3 hb2 | exact st_4 hb2 | exact st_5 hb2) rfl dX8_takesCell_63 ?_
        refine g_aload0 67 rfl dX8_takesCell_66 ?_
        refine g_getI 70 rfl fX8_28 (by first | rfl | exact st_o hb | exact st_1 hb | exact st_2 hb | exact st_3 hb | exact st_4 hb | exact st_5 hb | exact st_o hb2 | exact st_1 hb2 | exact st_2 hb2 | exact st_3 hb2 | exact st_4 hb2 | exact st_5 hb2) rfl dX8_takesCell_67 ?_
        try simp only [st3_3, st3_4, st3_5, st3_w3, st3_w4, st3_w5, h2, h3, h4, h5]
        refine g_iconst 71 rfl (v := 0) dX8_takesCell_70 (by decide) ?_
        refine g_iast 72 rfl dX8_takesCell_71 (by first | rfl | exact st_o hb | exact st_1 hb | exact st_2 hb | exact st_3 hb | exact st_4 hb | exact st_5 hb | exact st_o hb2 | exact st_1 hb2 | exact st_2 hb2 | exact st_3 hb2 | exact st_4 hb2 | exact st_5 hb2) rfl rfl (by first | assumption | omega) ?_
        try simp only [st3_3, st3_4, st3_5, st3_w3, st3_w4, st3_w5, h2, h3, h4, h5]
        refine g_aload0 73 rfl dX8_takesCell_72 ?_
        refine g_iload2 74 rfl dX8_takesCell_73 ?_
        refine g_iconst 75 rfl (v := (-1)) dX8_takesCell_74 (by decide) ?_
        refine g_cmpeq 82 78 rfl dX8_takesCell_75 (by decide) (fun q => ?_) (fun q => ?_)
        · refine g_iconst 83 rfl (v := 0) dX8_takesCell_82 (by decide) ?_
          refine g_putZ 86 rfl fX8_31 (by first | rfl | exact st_o hb | exact st_1 hb | exact st_2 hb | exact st_3 hb | exact st_4 hb | exact st_5 hb | exact st_o hb2 | exact st_1 hb2 | exact st_2 hb2 | exact st_3 hb2 | exact st_4 hb2 | exact st_5 hb2) rfl dX8_takesCell_83 (by first | exact Or.inl rfl | exact Or.inr rfl | assumption) ?_
          try simp only [st3_3, st3_4, st3_5, st3_w3, st3_w4, st3_w5, h2, h3, h4, h5]
          refine g_aload0 87 rfl dX8_takesCell_86 ?_
          refine g_dup 88 rfl dX8_takesCell_87 rfl ?_
          refine g_getI 91 rfl fX8_28 (by first | rfl | exact st_o hb | exact st_1 hb | exact st_2 hb | exact st_3 hb | exact st_4 hb | exact st_5 hb | exact st_o hb2 | exact st_1 hb2 | exact st_2 hb2 | exact st_3 hb2 | exact st_4 hb2 | exact st_5 hb2) rfl dX8_takesCell_88 ?_
          try simp only [st3_3, st3_4, st3_5, st3_w3, st3_w4, st3_w5, h2, h3, h4, h5]
          rw [pk_un (by decide), h5]
          refine g_iconst 92 rfl (v := 1) dX8_takesCell_91 (by decide) ?_
          refine g_iadd 93 rfl dX8_takesCell_92 ?_
          refine g_putI 96 rfl fX8_28 (by first | rfl | exact st_o hb | exact st_1 hb | exact st_2 hb | exact st_3 hb | exact st_4 hb | exact st_5 hb | exact st_o hb2 | exact st_1 hb2 | exact st_2 hb2 | exact st_3 hb2 | exact st_4 hb2 | exact st_5 hb2) rfl dX8_takesCell_93 ?_
          try simp only [st3_3, st3_4, st3_5, st3_w3, st3_w4, st3_w5, h2, h3, h4, h5]
          refine g_aload0 97 rfl dX8_takesCell_96 ?_
          refine g_dup 98 rfl dX8_takesCell_97 rfl ?_
          refine g_getI 101 rfl fX8_25 (by first | rfl | exact st_o hb | exact st_1 hb | exact st_2 hb | exact st_3 hb | exact st_4 hb | exact st_5 hb | exact st_o hb2 | exact st_1 hb2 | exact st_2 hb2 | exact st_3 hb2 | exact st_4 hb2 | exact st_5 hb2) rfl dX8_takesCell_98 ?_
          try simp only [st3_3, st3_4, st3_5, st3_w3, st3_w4, st3_w5, h2, h3, h4, h5]
          rw [pk_un (by decide), pk_un (by decide), h4]
          refine g_iconst 102 rfl (v := 1) dX8_takesCell_101 (by decide) ?_
          refine g_iadd 103 rfl dX8_takesCell_102 ?_
          refine g_putI 106 rfl fX8_25 (by first | rfl | exact st_o hb | exact st_1 hb | exact st_2 hb | exact st_3 hb | exact st_4 hb | exact st_5 hb | exact st_o hb2 | exact st_1 hb2 | exact st_2 hb2 | exact st_3 hb2 | exact st_4 hb2 | exact st_5 hb2) rfl dX8_takesCell_103 ?_
          try simp only [st3_3, st3_4, st3_5, st3_w3, st3_w4, st3_w5, h2, h3, h4, h5]
          refine g_iconst 107 rfl (v := 1) dX8_takesCell_106 (by decide) ?_
          refine g_zret rfl dX8_takesCell_107 (by first | exact Or.inl rfl | exact Or.inr rfl | assumption) ?_
          exact ⟨_, _, _, rfl, Or.inl ⟨rfl, _, hsome, fin 0 (Or.inr ⟨fun z => z q, rfl⟩)⟩⟩
        · refine g_iconst 79 rfl (v := 1) dX8_takesCell_78 (by decide) ?_
          refine g_goto 83 dX8_takesCell_79 (by decide) ?_
          refine g_putZ 86 rfl fX8_31 (by first | rfl | exact st_o hb | exact st_1 hb | exact st_2 hb | exact st_3 hb | exact st_4 hb | exact st_5 hb | exact st_o hb2 | exact st_1 hb2 | exact st_2 hb2 | exact st_3 hb2 | exact st_4 hb2 | exact st_5 hb2) rfl dX8_takesCell_83 (by first | exact Or.inl rfl | exact Or.inr rfl | assumption) ?_
          try simp only [st3_3, st3_4, st3_5, st3_w3, st3_w4, st3_w5, h2, h3, h4, h5]
          refine g_aload0 87 rfl dX8_takesCell_86 ?_
          refine g_dup 88 rfl dX8_takesCell_87 rfl ?_
          refine g_getI 91 rfl fX8_28 (by first | rfl | exact st_o hb | exact st_1 hb | exact st_2 hb | exact st_3 hb | exact st_4 hb | exact st_5 hb | exact st_o hb2 | exact st_1 hb2 | exact st_2 hb2 | exact st_3 hb2 | exact st_4 hb2 | exact st_5 hb2) rfl dX8_takesCell_88 ?_
          try simp only [st3_3, st3_4, st3_5, st3_w3, st3_w4, st3_w5, h2, h3, h4, h5]
          rw [pk_un (by decide), h5]
          refine g_iconst 92 rfl (v := 1) dX8_takesCell_91 (by decide) ?_
          refine g_iadd 93 rfl dX8_takesCell_92 ?_
          refine g_putI 96 rfl fX8_28 (by first | rfl | exact st_o hb | exact st_1 hb | exact st_2 hb | exact st_3 hb | exact st_4 hb | exact st_5 hb | exact st_o hb2 | exact st_1 hb2 | exact st_2 hb2 | exact st_3 hb2 | exact st_4 hb2 | exact st_5 hb2) rfl dX8_takesCell_93 ?_
          try simp only [st3_3, st3_4, st3_5, st3_w3, st3_w4, st3_w5, h2, h3, h4, h5]
          refine g_aload0 97 rfl dX8_takesCell_96 ?_
          refine g_dup 98 rfl dX8_takesCell_97 rfl ?_
          refine g_getI 101 rfl fX8_25 (by first | rfl | exact st_o hb | exact st_1 hb | exact st_2 hb | exact st_3 hb | exact st_4 hb | exact st_5 hb | exact st_o hb2 | exact st_1 hb2 | exact st_2 hb2 | exact st_3 hb2 | exact st_4 hb2 | exact st_5 hb2) rfl dX8_takesCell_98 ?_
          try simp only [st3_3, st3_4, st3_5, st3_w3, st3_w4, st3_w5, h2, h3, h4, h5]
          rw [pk_un (by decide), pk_un (by decide), h4]
          refine g_iconst 102 rfl (v := 1) dX8_takesCell_101 (by decide) ?_
          refine g_iadd 103 rfl dX8_takesCell_102 ?_
          refine g_putI 106 rfl fX8_25 (by first | rfl | exact st_o hb | exact st_1 hb | exact st_2 hb | exact st_3 hb | exact st_4 hb | exact st_5 hb | exact st_o hb2 | exact st_1 hb2 | exact st_2 hb2 | exact st_3 hb2 | exact st_4 hb2 | exact st_5 hb2) rfl dX8_takesCell_103 ?_
          try simp only [st3_3, st3_4, st3_5, st3_w3, st3_w4, st3_w5, h2, h3, h4, h5]
          refine g_iconst 107 rfl (v := 1) dX8_takesCell_106 (by decide) ?_
          refine g_zret rfl dX8_takesCell_107 (by first | exact Or.inl rfl | exact Or.inr rfl | assumption) ?_
          exact ⟨_, _, _, rfl, Or.inl ⟨rfl, _, hsome, fin 1 (Or.inl ⟨q, rfl⟩)⟩⟩
      refine g_cmpne 52 44 rfl dX8_takesCell_41 (by decide) (fun q => ?_) (fun q => ?_)
      · exact good (fun z => absurd z q)
      · refine g_iload1 45 rfl dX8_takesCell_44 ?_
        refine g_bipush 47 rfl (v := 46) dX8_takesCell_45 (by decide) ?_
        refine g_cmpeq 52 50 rfl dX8_takesCell_47 (by decide) (fun q2 => ?_) (fun q2 => ?_)
        · exact good (fun _ => q2)
        · refine g_iconst 51 rfl (v := 0) dX8_takesCell_50 (by decide) ?_
          refine g_zret rfl dX8_takesCell_51 (by first | exact Or.inl rfl | exact Or.inr rfl | assumption) ?_
          refine ⟨_, _, _, rfl, Or.inr ⟨rfl, ?_⟩⟩
          simp only [stT, hd, hc, if_false]
          rw [if_pos ⟨q, q2⟩]
  by_cases r0 : r = 0
  · refine g_ifne 17 12 rfl dX8_takesCell_9 (by decide) (fun q => absurd (by rw [r0]; rfl) q) (fun _ => ?_)
    rw [if_pos r0] at hrm
    subst hrm
    refine g_bipush 14 rfl (v := 6) dX8_takesCell_12 (by decide) ?_
    refine g_goto 21 dX8_takesCell_14 (by decide) ?_
    exact rest
  · refine g_ifne 17 12 rfl dX8_takesCell_9 (by decide) (fun _ => ?_) (fun q => absurd q (nI_ne0 (by omega) (by omega)))
    rw [if_neg r0] at hrm
    subst hrm
    refine g_aload0 18 rfl dX8_takesCell_17 ?_
    refine g_getI 21 rfl fX8_22 (by first | rfl | exact st_o hb | exact st_1 hb | exact st_2 hb | exact st_3 hb | exact st_4 hb | exact st_5 hb | exact st_o hb2 | exact st_1 hb2 | exact st_2 hb2 | exact st_3 hb2 | exact st_4 hb2 | exact st_5 hb2) rfl dX8_takesCell_18 ?_
    try simp only [st3_3, st3_4, st3_5, st3_w3, st3_w4, st3_w5, h2, h3, h4, h5]
    exact rest
theorem ok_X8_takes {l : Launch} {M : Mm} {c : Int32} {f k z : Nat → Int32} {t : Tx} (hs : SR f k z t) : Ok GC l mX8_takes [.ref 3, .int c] (ST3 M f k z) (qTk M c t) := by
  have h6 := hs.2.2.2.2.2.1
  refine ok_of (by decide +kernel) rfl rfl ?_
  refine g_aload0 1 rfl dX8_takes_0 ?_
  refine g_getI 4 rfl fX8_31 (by first | rfl | exact st_o hb | exact st_1 hb | exact st_2 hb | exact st_3 hb | exact st_4 hb | exact st_5 hb | exact st_o hb2 | exact st_1 hb2 | exact st_2 hb2 | exact st_3 hb2 | exact st_4 hb2 | exact st_5 hb2) rfl dX8_takes_1 ?_
  try simp only [st3_3]
  rcases h6 with ⟨hd, e⟩ | ⟨hd, e⟩
  · rw [e]
    refine g_ifeq 13 7 rfl dX8_takes_4 (by decide) (fun q => absurd q (by decide)) (fun _ => ?_)
    refine g_aload0 8 rfl dX8_takes_7 ?_
    refine g_iload1 9 rfl dX8_takes_8 ?_
    refine g_callV 12 1 rfl kX8_35 (by first | rfl | exact st_o hb | exact st_1 hb | exact st_2 hb | exact st_3 hb | exact st_4 hb | exact st_5 hb | exact st_o hb2 | exact st_1 hb2 | exact st_2 hb2 | exact st_3 hb2 | exact st_4 hb2 | exact st_5 hb2) dX8_takes_9 ⟨rfl, rfl⟩ (ok_X8_takesSize hs hd) rfl rfl rfl (fun r M1 hq => ?_)
    obtain ⟨f, k, z, rfl, hq⟩ := hq
    try simp only [rV, Option.toList, List.cons_append, List.nil_append]
    rcases hq with ⟨rfl, t', h1, h2⟩ | ⟨rfl, h1⟩
    · refine g_zret rfl dX8_takes_12 (Or.inr rfl) ?_
      exact ⟨f, k, z, rfl, Or.inl ⟨rfl, t', h1, h2⟩⟩
    · refine g_zret rfl dX8_takes_12 (Or.inl rfl) ?_
      exact ⟨f, k, z, rfl, Or.inr ⟨rfl, h1⟩⟩
  · rw [e]
    refine g_ifeq 13 7 rfl dX8_takes_4 (by decide) (fun _ => ?_) (fun q => absurd rfl q)
    refine g_iload1 14 rfl dX8_takes_13 ?_
    refine g_bipush 16 rfl (v := 47) dX8_takes_14 (by decide) ?_
    refine g_cmpne 26 19 rfl dX8_takes_16 (by decide) (fun hc => ?_) (fun hc => ?_)
    · refine g_aload0 27 rfl dX8_takes_26 ?_
      refine g_iload1 28 rfl dX8_takes_27 ?_
      refine g_callV 31 1 rfl kX8_43 (by first | rfl | exact st_o hb | exact st_1 hb | exact st_2 hb | exact st_3 hb | exact st_4 hb | exact st_5 hb | exact st_o hb2 | exact st_1 hb2 | exact st_2 hb2 | exact st_3 hb2 | exact st_4 hb2 | exact st_5 hb2) dX8_takes_28 ⟨rfl, rfl⟩ (ok_X8_takesCell hs hd hc) rfl rfl rfl (fun r M1 hq => ?_)
      obtain ⟨f, k, z, rfl, hq⟩ := hq
      try simp only [rV, Option.toList, List.cons_append, List.nil_append]
      rcases hq with ⟨rfl, t', h1, h2⟩ | ⟨rfl, h1⟩
      · refine g_zret rfl dX8_takes_31 (Or.inr rfl) ?_
        exact ⟨f, k, z, rfl, Or.inl ⟨rfl, t', h1, h2⟩⟩
      · refine g_zret rfl dX8_takes_31 (Or.inl rfl) ?_
        exact ⟨f, k, z, rfl, Or.inr ⟨rfl, h1⟩⟩
    · subst hc
      refine g_aload0 20 rfl dX8_takes_19 ?_
      refine g_callV 23 0 rfl kX8_39 (by first | rfl | exact st_o hb | exact st_1 hb | exact st_2 hb | exact st_3 hb | exact st_4 hb | exact st_5 hb | exact st_o hb2 | exact st_1 hb2 | exact st_2 hb2 | exact st_3 hb2 | exact st_4 hb2 | exact st_5 hb2) dX8_takes_20 ⟨rfl, rfl⟩ (ok_X8_takesRowEnd hs hd) rfl rfl rfl (fun r M1 hq => ?_)
      obtain ⟨f, k, z, rfl, hq⟩ := hq
      try simp only [rV, Option.toList, List.cons_append, List.nil_append]
      refine g_goto 31 dX8_takes_23 (by decide) ?_
      rcases hq with ⟨rfl, t', h1, h2⟩ | ⟨rfl, h1⟩
      · refine g_zret rfl dX8_takes_31 (Or.inr rfl) ?_
        exact ⟨f, k, z, rfl, Or.inl ⟨rfl, t', h1, h2⟩⟩
      · refine g_zret rfl dX8_takes_31 (Or.inl rfl) ?_
        exact ⟨f, k, z, rfl, Or.inr ⟨rfl, h1⟩⟩
def txW (t : Tx) : Prop := ¬ t.2.2.2.1 ∧ 0 < t.1 ∧ t.2.2.1 = t.2.1
theorem ok_X8_isWhole {l : Launch} {M : Mm} {f k z : Nat → Int32} {t : Tx} (hs : SR f k z t) : Ok GC l mX8_isWhole [.ref 3] (ST3 M f k z) (fun r M' => M' = ST3 M f k z ∧ ((r = some (.inl 1) ∧ txW t) ∨ (r = some (.inl 0) ∧ ¬ txW t))) := by
  obtain ⟨hI, e2, e3, e4, e5, h6, hk, hz⟩ := hs
  have hn := hI.n
  have hb : t.1 ≤ 4 ∧ t.2.1 ≤ 6 ∧ t.2.2.1 ≤ 6 := ⟨hI.1, by rcases hI.2.1 with ⟨a, b, c⟩ | ⟨a, b, c, d⟩ <;> omega, by rcases hI.2.1 with ⟨a, b, c⟩ | ⟨a, b, c, d⟩ <;> omega⟩
  refine ok_of (by decide +kernel) rfl rfl ?_
  refine g_aload0 1 rfl dX8_isWhole_0 ?_
  refine g_getI 4 rfl fX8_31 (by first | rfl | exact st_o hb | exact st_1 hb | exact st_2 hb | exact st_3 hb | exact st_4 hb | exact st_5 hb | exact st_o hb2 | exact st_1 hb2 | exact st_2 hb2 | exact st_3 hb2 | exact st_4 hb2 | exact st_5 hb2) rfl dX8_isWhole_1 ?_
  try simp only [st3_3, e2, e3, e4]
  refine g_ifne 29 7 rfl dX8_isWhole_4 (by decide) (fun h4 => ?_) (fun h4 => ?_)
  · refine g_iconst 30 rfl (v := 0) dX8_isWhole_29 (by decide) ?_
    refine g_zret rfl dX8_isWhole_30 (by first | exact Or.inl rfl | exact Or.inr rfl | assumption) ?_
    refine ⟨rfl, ?_⟩
    first | exact Or.inr ⟨rfl, fun q => by rcases h6 with ⟨a, b⟩ | ⟨a, b⟩; exact q.1 a; exact h4 b⟩ | exact Or.inr ⟨rfl, fun q => absurd h11 (nI_nle q.2.1 (by omega))⟩ | exact Or.inr ⟨rfl, fun q => h22 (by rw [q.2.2])⟩ | exact Or.inl ⟨rfl, by rcases h6 with ⟨a, b⟩ | ⟨a, b⟩; exact absurd (b.symm.trans h4) (by decide); exact a, Nat.pos_of_ne_zero (fun q => h11 (by rw [q]; decide)), (nI_eq (by omega) (by omega)).mp h22⟩
  · refine g_aload0 8 rfl dX8_isWhole_7 ?_
    refine g_getI 11 rfl fX8_18 (by first | rfl | exact st_o hb | exact st_1 hb | exact st_2 hb | exact st_3 hb | exact st_4 hb | exact st_5 hb | exact st_o hb2 | exact st_1 hb2 | exact st_2 hb2 | exact st_3 hb2 | exact st_4 hb2 | exact st_5 hb2) rfl dX8_isWhole_8 ?_
    try simp only [st3_3, e2, e3, e4]
    refine g_ifle 29 14 rfl dX8_isWhole_11 (by decide) (fun h11 => ?_) (fun h11 => ?_)
    · refine g_iconst 30 rfl (v := 0) dX8_isWhole_29 (by decide) ?_
      refine g_zret rfl dX8_isWhole_30 (by first | exact Or.inl rfl | exact Or.inr rfl | assumption) ?_
      refine ⟨rfl, ?_⟩
      first | exact Or.inr ⟨rfl, fun q => by rcases h6 with ⟨a, b⟩ | ⟨a, b⟩; exact q.1 a; exact h4 b⟩ | exact Or.inr ⟨rfl, fun q => absurd h11 (nI_nle q.2.1 (by omega))⟩ | exact Or.inr ⟨rfl, fun q => h22 (by rw [q.2.2])⟩ | exact Or.inl ⟨rfl, by rcases h6 with ⟨a, b⟩ | ⟨a, b⟩; exact absurd (b.symm.trans h4) (by decide); exact a, Nat.pos_of_ne_zero (fun q => h11 (by rw [q]; decide)), (nI_eq (by omega) (by omega)).mp h22⟩
    · refine g_aload0 15 rfl dX8_isWhole_14 ?_
      refine g_getI 18 rfl fX8_25 (by first | rfl | exact st_o hb | exact st_1 hb | exact st_2 hb | exact st_3 hb | exact st_4 hb | exact st_5 hb | exact st_o hb2 | exact st_1 hb2 | exact st_2 hb2 | exact st_3 hb2 | exact st_4 hb2 | exact st_5 hb2) rfl dX8_isWhole_15 ?_
      try simp only [st3_3, e2, e3, e4]
      refine g_aload0 19 rfl dX8_isWhole_18 ?_
      refine g_getI 22 rfl fX8_22 (by first | rfl | exact st_o hb | exact st_1 hb | exact st_2 hb | exact st_3 hb | exact st_4 hb | exact st_5 hb | exact st_o hb2 | exact st_1 hb2 | exact st_2 hb2 | exact st_3 hb2 | exact st_4 hb2 | exact st_5 hb2) rfl dX8_isWhole_19 ?_
      try simp only [st3_3, e2, e3, e4]
      refine g_cmpne 29 25 rfl dX8_isWhole_22 (by decide) (fun h22 => ?_) (fun h22 => ?_)
      · refine g_iconst 30 rfl (v := 0) dX8_isWhole_29 (by decide) ?_
        refine g_zret rfl dX8_isWhole_30 (by first | exact Or.inl rfl | exact Or.inr rfl | assumption) ?_
        refine ⟨rfl, ?_⟩
        first | exact Or.inr ⟨rfl, fun q => by rcases h6 with ⟨a, b⟩ | ⟨a, b⟩; exact q.1 a; exact h4 b⟩ | exact Or.inr ⟨rfl, fun q => absurd h11 (nI_nle q.2.1 (by omega))⟩ | exact Or.inr ⟨rfl, fun q => h22 (by rw [q.2.2])⟩ | exact Or.inl ⟨rfl, by rcases h6 with ⟨a, b⟩ | ⟨a, b⟩; exact absurd (b.symm.trans h4) (by decide); exact a, Nat.pos_of_ne_zero (fun q => h11 (by rw [q]; decide)), (nI_eq (by omega) (by omega)).mp h22⟩
      · refine g_iconst 26 rfl (v := 1) dX8_isWhole_25 (by decide) ?_
        refine g_goto 30 dX8_isWhole_26 (by decide) ?_
        refine g_zret rfl dX8_isWhole_30 (by first | exact Or.inl rfl | exact Or.inr rfl | assumption) ?_
        refine ⟨rfl, ?_⟩
        first | exact Or.inr ⟨rfl, fun q => by rcases h6 with ⟨a, b⟩ | ⟨a, b⟩; exact q.1 a; exact h4 b⟩ | exact Or.inr ⟨rfl, fun q => absurd h11 (nI_nle q.2.1 (by omega))⟩ | exact Or.inr ⟨rfl, fun q => h22 (by rw [q.2.2])⟩ | exact Or.inl ⟨rfl, by rcases h6 with ⟨a, b⟩ | ⟨a, b⟩; exact absurd (b.symm.trans h4) (by decide); exact a, Nat.pos_of_ne_zero (fun q => h11 (by rw [q]; decide)), (nI_eq (by omega) (by omega)).mp h22⟩
