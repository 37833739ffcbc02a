/-! the class's Reader -/
theorem tab4 {d : Nat} (hd : d ≤ 4) : d = 0 ∨ d = 1 ∨ d = 2 ∨ d = 3 ∨ d = 4 := by omega
set_option maxHeartbeats 2000000 in
theorem ok_X0_takes {l : Launch} {M : Mm} {c : Int32} {f a b : Nat → Int32} {s : Cs} (hs : CR f a b s) : Ok GC l mX0_takes [.ref 6, .int c] (CT3 M f a b) (qTc M c s) := by
  have hI := hs.1
  have e3 := hs.2.2.1
  refine ok_of (by decide +kernel) rfl rfl ?_
  have rest : ∀ v : Int32, ((dig c ∧ v = 1) ∨ (¬ dig c ∧ v = 0)) → Go GC l mX0_takes 18 [.ref 6, .int c, .int v] [] (CT3 M f a b) (qTc M c s) := by
    intro v hv
    refine g_aload0 19 rfl dX0_takes_18 ?_
    refine g_getI 22 rfl fX0_22 (by first | rfl | exact st_o hb | exact st_1 hb | exact st_2 hb | exact st_3 hb | exact st_4 hb | exact st_5 hb | exact st_o hb2 | exact st_1 hb2 | exact st_2 hb2 | exact st_3 hb2 | exact st_4 hb2 | exact st_5 hb2) rfl dX0_takes_19 ?_
    try simp only [ct3_6, ct3_7, ct3_8, ct3_w6, ct3_w7, ct3_w8]
    rw [e3]
    rcases tab4 hI.2.1 with d | d | d | d | d
    · rw [d]
      refine g_tabIn 52 dX0_takes_22 (by decide) (by decide) (by rfl) (by decide) ?_
      refine g_iload2 53 rfl dX0_takes_52 ?_
      rcases hv with ⟨hv, rfl⟩ | ⟨hv, rfl⟩
      · refine g_ifeq 71 56 rfl dX0_takes_53 (by decide) (fun h => absurd h (by decide)) (fun _ => ?_)
        refine g_aload0 57 rfl dX0_takes_56 ?_
        refine g_iload1 58 rfl dX0_takes_57 ?_
        refine g_bipush 60 rfl (v := 48) dX0_takes_58 (by decide) ?_
        refine g_isub 61 rfl dX0_takes_60 ?_
        refine g_callV 64 1 rfl kX0_25 (by first | rfl | exact st_o hb | exact st_1 hb | exact st_2 hb | exact st_3 hb | exact st_4 hb | exact st_5 hb | exact st_o hb2 | exact st_1 hb2 | exact st_2 hb2 | exact st_3 hb2 | exact st_4 hb2 | exact st_5 hb2) dX0_takes_61 ⟨rfl, rfl⟩ (ok_X0_takesRow hs d hv) rfl rfl rfl (fun r M1 hq => ?_)
        obtain ⟨f, a, b, rfl, hq⟩ := hq
        try simp only [rV, Option.toList, List.cons_append, List.nil_append]
        rcases hq with ⟨rfl, s', h1, h2⟩ | ⟨rfl, h1⟩
        · refine g_ifeq 71 67 rfl dX0_takes_64 (by decide) (fun h => absurd h (by decide)) (fun _ => ?_)
          refine g_iconst 68 rfl (v := 1) dX0_takes_67 (by decide) ?_
          refine g_goto 72 dX0_takes_68 (by decide) ?_
          refine g_zret rfl dX0_takes_72 (by first | exact Or.inl rfl | exact Or.inr rfl | assumption) ?_
          exact ⟨f, a, b, rfl, Or.inl ⟨rfl, s', h1, h2⟩⟩
        · refine g_ifeq 71 67 rfl dX0_takes_64 (by decide) (fun _ => ?_) (fun h => absurd rfl h)
          refine g_iconst 72 rfl (v := 0) dX0_takes_71 (by decide) ?_
          refine g_zret rfl dX0_takes_72 (by first | exact Or.inl rfl | exact Or.inr rfl | assumption) ?_
          exact ⟨f, a, b, rfl, Or.inr ⟨rfl, h1⟩⟩
      · refine g_ifeq 71 56 rfl dX0_takes_53 (by decide) (fun _ => ?_) (fun h => absurd rfl h)
        refine g_iconst 72 rfl (v := 0) dX0_takes_71 (by decide) ?_
        refine g_zret rfl dX0_takes_72 (by first | exact Or.inl rfl | exact Or.inr rfl | assumption) ?_
        exact ⟨f, a, b, rfl, Or.inr ⟨rfl, by rw [stC, if_pos d, if_neg hv]⟩⟩
    · rw [d]
      have d0 : ¬ s.2.1 = 0 := by omega
      refine g_tabIn 73 dX0_takes_22 (by decide) (by decide) (by rfl) (by decide) ?_
      refine g_aload0 74 rfl dX0_takes_73 ?_
      refine g_iconst 75 rfl (v := 2) dX0_takes_74 (by decide) ?_
      refine g_putI 78 rfl fX0_22 (by first | rfl | exact st_o hb | exact st_1 hb | exact st_2 hb | exact st_3 hb | exact st_4 hb | exact st_5 hb | exact st_o hb2 | exact st_1 hb2 | exact st_2 hb2 | exact st_3 hb2 | exact st_4 hb2 | exact st_5 hb2) rfl dX0_takes_75 ?_
      try simp only [ct3_6, ct3_7, ct3_8, ct3_w6, ct3_w7, ct3_w8]
      refine g_iload1 79 rfl dX0_takes_78 ?_
      refine g_bipush 81 rfl (v := 120) dX0_takes_79 (by decide) ?_
      refine g_cmpne 88 84 rfl dX0_takes_81 (by decide) (fun q => ?_) (fun q => ?_)
      · refine g_iconst 89 rfl (v := 0) dX0_takes_88 (by decide) ?_
        refine g_zret rfl dX0_takes_89 (by first | exact Or.inl rfl | exact Or.inr rfl | assumption) ?_
        exact ⟨_, _, _, rfl, Or.inr ⟨rfl, by rw [stC, if_neg d0, if_pos d, if_neg q]⟩⟩
      · refine g_iconst 85 rfl (v := 1) dX0_takes_84 (by decide) ?_
        refine g_goto 89 dX0_takes_85 (by decide) ?_
        refine g_zret rfl dX0_takes_89 (by first | exact Or.inl rfl | exact Or.inr rfl | assumption) ?_
        obtain ⟨hI, e2, e3, ha, hb, h0⟩ := hs
        have em : csM s = csM (s.1, 2, s.2.2) := by simp [csM, d]
        refine ⟨_, _, _, rfl, Or.inl ⟨rfl, (s.1, 2, s.2.2), by rw [stC, if_neg d0, if_pos d, if_pos q], ⟨hI.1, by show 2 ≤ 4; omega, fun _ => hI.2.2.1 (by omega), fun h => absurd h (by show ¬ 3 ≤ 2; omega)⟩, ?_, ?_, ?_, hb, fun _ => h0 (Or.inl d)⟩⟩
        · rw [pk_un (by decide), ← em]; exact e2
        · rw [upd_at]; rfl
        · rw [← em]; exact ha
    · rw [d]
      have d0 : ¬ s.2.1 = 0 := by omega
      have d1 : ¬ s.2.1 = 1 := by omega
      refine g_tabIn 90 dX0_takes_22 (by decide) (by decide) (by rfl) (by decide) ?_
      refine g_iload2 91 rfl dX0_takes_90 ?_
      rcases hv with ⟨hv, rfl⟩ | ⟨hv, rfl⟩
      · refine g_ifeq 116 94 rfl dX0_takes_91 (by decide) (fun h => absurd h (by decide)) (fun _ => ?_)
        refine g_iload1 95 rfl dX0_takes_94 ?_
        refine g_bipush 97 rfl (v := 48) dX0_takes_95 (by decide) ?_
        refine g_cmpeq 116 100 rfl dX0_takes_97 (by decide) (fun q => ?_) (fun q => ?_)
        · refine g_iconst 117 rfl (v := 0) dX0_takes_116 (by decide) ?_
          refine g_zret rfl dX0_takes_117 (by first | exact Or.inl rfl | exact Or.inr rfl | assumption) ?_
          exact ⟨_, _, _, rfl, Or.inr ⟨rfl, by rw [stC, if_neg d0, if_neg d1, if_pos d, if_neg (fun z => z.2 q)]⟩⟩
        · refine g_aload0 101 rfl dX0_takes_100 ?_
          refine g_iload1 102 rfl dX0_takes_101 ?_
          refine g_bipush 104 rfl (v := 48) dX0_takes_102 (by decide) ?_
          refine g_isub 105 rfl dX0_takes_104 ?_
          refine g_iconst 106 rfl (v := 3) dX0_takes_105 (by decide) ?_
          refine g_callV 109 2 rfl kX0_29 (by first | rfl | exact st_o hb | exact st_1 hb | exact st_2 hb | exact st_3 hb | exact st_4 hb | exact st_5 hb | exact st_o hb2 | exact st_1 hb2 | exact st_2 hb2 | exact st_3 hb2 | exact st_4 hb2 | exact st_5 hb2) dX0_takes_106 ⟨rfl, rfl⟩ (ok_X0_takesDigit (n := 3) hs (Or.inl ⟨d, rfl, hv, q⟩)) rfl rfl rfl (fun r M1 hq => ?_)
          obtain ⟨f, a, b, rfl, hq⟩ := hq
          try simp only [rV, Option.toList, List.cons_append, List.nil_append]
          rcases hq with ⟨rfl, s', h1, h2⟩ | ⟨rfl, h1⟩
          · refine g_ifeq 116 112 rfl dX0_takes_109 (by decide) (fun h => absurd h (by decide)) (fun _ => ?_)
            refine g_iconst 113 rfl (v := 1) dX0_takes_112 (by decide) ?_
            refine g_goto 117 dX0_takes_113 (by decide) ?_
            refine g_zret rfl dX0_takes_117 (by first | exact Or.inl rfl | exact Or.inr rfl | assumption) ?_
            exact ⟨f, a, b, rfl, Or.inl ⟨rfl, s', h1, h2⟩⟩
          · refine g_ifeq 116 112 rfl dX0_takes_109 (by decide) (fun _ => ?_) (fun h => absurd rfl h)
            refine g_iconst 117 rfl (v := 0) dX0_takes_116 (by decide) ?_
            refine g_zret rfl dX0_takes_117 (by first | exact Or.inl rfl | exact Or.inr rfl | assumption) ?_
            exact ⟨f, a, b, rfl, Or.inr ⟨rfl, h1⟩⟩
      · refine g_ifeq 116 94 rfl dX0_takes_91 (by decide) (fun _ => ?_) (fun h => absurd rfl h)
        refine g_iconst 117 rfl (v := 0) dX0_takes_116 (by decide) ?_
        refine g_zret rfl dX0_takes_117 (by first | exact Or.inl rfl | exact Or.inr rfl | assumption) ?_
        exact ⟨_, _, _, rfl, Or.inr ⟨rfl, by rw [stC, if_neg d0, if_neg d1, if_pos d, if_neg (fun z => hv z.1)]⟩⟩
    · rw [d]
      refine g_tabIn 118 dX0_takes_22 (by decide) (by decide) (by rfl) (by decide) ?_
      refine g_iload2 119 rfl dX0_takes_118 ?_
      rcases hv with ⟨hv, rfl⟩ | ⟨hv, rfl⟩
      · refine g_ifeq 134 122 rfl dX0_takes_119 (by decide) (fun h => absurd h (by decide)) (fun _ => ?_)
        refine g_aload0 123 rfl dX0_takes_122 ?_
        refine g_iload1 124 rfl dX0_takes_123 ?_
        refine g_bipush 126 rfl (v := 48) dX0_takes_124 (by decide) ?_
        refine g_isub 127 rfl dX0_takes_126 ?_
        refine g_iconst 128 rfl (v := 4) dX0_takes_127 (by decide) ?_
        refine g_callV 131 2 rfl kX0_29 (by first | rfl | exact st_o hb | exact st_1 hb | exact st_2 hb | exact st_3 hb | exact st_4 hb | exact st_5 hb | exact st_o hb2 | exact st_1 hb2 | exact st_2 hb2 | exact st_3 hb2 | exact st_4 hb2 | exact st_5 hb2) dX0_takes_128 ⟨rfl, rfl⟩ (ok_X0_takesDigit (n := 4) hs (Or.inr ⟨d, rfl, hv⟩)) rfl rfl rfl (fun r M1 hq => ?_)
        obtain ⟨f, a, b, rfl, hq⟩ := hq
        try simp only [rV, Option.toList, List.cons_append, List.nil_append]
        refine g_goto 139 dX0_takes_131 (by decide) ?_
        rcases hq with ⟨rfl, s', h1, h2⟩ | ⟨rfl, h1⟩
        · refine g_zret rfl dX0_takes_139 (Or.inr rfl) ?_
          exact ⟨f, a, b, rfl, Or.inl ⟨rfl, s', h1, h2⟩⟩
        · refine g_zret rfl dX0_takes_139 (Or.inl rfl) ?_
          exact ⟨f, a, b, rfl, Or.inr ⟨rfl, h1⟩⟩
      · refine g_ifeq 134 122 rfl dX0_takes_119 (by decide) (fun _ => ?_) (fun h => absurd rfl h)
        refine g_aload0 135 rfl dX0_takes_134 ?_
        refine g_iload1 136 rfl dX0_takes_135 ?_
        refine g_callV 139 1 rfl kX0_33 (by first | rfl | exact st_o hb | exact st_1 hb | exact st_2 hb | exact st_3 hb | exact st_4 hb | exact st_5 hb | exact st_o hb2 | exact st_1 hb2 | exact st_2 hb2 | exact st_3 hb2 | exact st_4 hb2 | exact st_5 hb2) dX0_takes_136 ⟨rfl, rfl⟩ (ok_X0_takesEnd hs (by omega) (fun z => hv z.2)) rfl rfl rfl (fun r M1 hq => ?_)
        obtain ⟨f, a, b, rfl, hq⟩ := hq
        try simp only [rV, Option.toList, List.cons_append, List.nil_append]
        rcases hq with ⟨rfl, s', h1, h2⟩ | ⟨rfl, h1⟩
        · refine g_zret rfl dX0_takes_139 (Or.inr rfl) ?_
          exact ⟨f, a, b, rfl, Or.inl ⟨rfl, s', h1, h2⟩⟩
        · refine g_zret rfl dX0_takes_139 (Or.inl rfl) ?_
          exact ⟨f, a, b, rfl, Or.inr ⟨rfl, h1⟩⟩
    · rw [d]
      refine g_tabOut 140 dX0_takes_22 (by decide) (by decide) ?_
      refine g_aload0 141 rfl dX0_takes_140 ?_
      refine g_iload1 142 rfl dX0_takes_141 ?_
      refine g_callV 145 1 rfl kX0_33 (by first | rfl | exact st_o hb | exact st_1 hb | exact st_2 hb | exact st_3 hb | exact st_4 hb | exact st_5 hb | exact st_o hb2 | exact st_1 hb2 | exact st_2 hb2 | exact st_3 hb2 | exact st_4 hb2 | exact st_5 hb2) dX0_takes_142 ⟨rfl, rfl⟩ (ok_X0_takesEnd hs (by omega) (fun z => by omega)) rfl rfl rfl (fun r M1 hq => ?_)
      obtain ⟨f, a, b, rfl, hq⟩ := hq
      try simp only [rV, Option.toList, List.cons_append, List.nil_append]
      rcases hq with ⟨rfl, s', h1, h2⟩ | ⟨rfl, h1⟩
      · refine g_zret rfl dX0_takes_145 (Or.inr rfl) ?_
        exact ⟨f, a, b, rfl, Or.inl ⟨rfl, s', h1, h2⟩⟩
      · refine g_zret rfl dX0_takes_145 (Or.inl rfl) ?_
        exact ⟨f, a, b, rfl, Or.inr ⟨rfl, h1⟩⟩
  refine g_iload1 1 rfl dX0_takes_0 ?_
  refine g_bipush 3 rfl (v := 48) dX0_takes_1 (by decide) ?_
  refine g_cmplt 16 6 rfl dX0_takes_3 (by decide) (fun h3 => ?_) (fun h3 => ?_)
  · refine g_iconst 17 rfl (v := 0) dX0_takes_16 (by decide) ?_
    refine g_istore2 18 rfl dX0_takes_17 rfl rfl ?_
    first | exact rest 1 (Or.inl ⟨⟨Int32.not_lt.mp h3, Int32.not_lt.mp h9⟩, rfl⟩) | exact rest 0 (Or.inr ⟨fun q => absurd h3 (Int32.not_lt.mpr q.1), rfl⟩) | exact rest 0 (Or.inr ⟨fun q => absurd h9 (Int32.not_lt.mpr q.2), rfl⟩)
  · refine g_iload1 7 rfl dX0_takes_6 ?_
    refine g_bipush 9 rfl (v := 57) dX0_takes_7 (by decide) ?_
    refine g_cmpgt 16 12 rfl dX0_takes_9 (by decide) (fun h9 => ?_) (fun h9 => ?_)
    · refine g_iconst 17 rfl (v := 0) dX0_takes_16 (by decide) ?_
      refine g_istore2 18 rfl dX0_takes_17 rfl rfl ?_
      first | exact rest 1 (Or.inl ⟨⟨Int32.not_lt.mp h3, Int32.not_lt.mp h9⟩, rfl⟩) | exact rest 0 (Or.inr ⟨fun q => absurd h3 (Int32.not_lt.mpr q.1), rfl⟩) | exact rest 0 (Or.inr ⟨fun q => absurd h9 (Int32.not_lt.mpr q.2), rfl⟩)
    · refine g_iconst 13 rfl (v := 1) dX0_takes_12 (by decide) ?_
      refine g_goto 17 dX0_takes_13 (by decide) ?_
      refine g_istore2 18 rfl dX0_takes_17 rfl rfl ?_
      first | exact rest 1 (Or.inl ⟨⟨Int32.not_lt.mp h3, Int32.not_lt.mp h9⟩, rfl⟩) | exact rest 0 (Or.inr ⟨fun q => absurd h3 (Int32.not_lt.mpr q.1), rfl⟩) | exact rest 0 (Or.inr ⟨fun q => absurd h9 (Int32.not_lt.mpr q.2), rfl⟩)
def csW (s : Cs) : Prop := 3 ≤ s.2.1
theorem ok_X0_isWhole {l : Launch} {M : Mm} {f a b : Nat → Int32} {s : Cs} (hs : CR f a b s) : Ok GC l mX0_isWhole [.ref 6] (CT3 M f a b) (fun r M' => M' = CT3 M f a b ∧ ((r = some (.inl 1) ∧ csW s) ∨ (r = some (.inl 0) ∧ ¬ csW s))) := by
  have hI := hs.1
  have e3 := hs.2.2.1
  have h4 := hI.2.1
  refine ok_of (by decide +kernel) rfl rfl ?_
  refine g_aload0 1 rfl dX0_isWhole_0 ?_
  refine g_getI 4 rfl fX0_22 (by first | rfl | exact st_o hb | exact st_1 hb | exact st_2 hb | exact st_3 hb | exact st_4 hb | exact st_5 hb | exact st_o hb2 | exact st_1 hb2 | exact st_2 hb2 | exact st_3 hb2 | exact st_4 hb2 | exact st_5 hb2) rfl dX0_isWhole_1 ?_
  try simp only [ct3_6, e3]
  refine g_iconst 5 rfl (v := 3) dX0_isWhole_4 (by decide) ?_
  refine g_cmpeq 16 8 rfl dX0_isWhole_5 (by decide) (fun h5 => ?_) (fun h5 => ?_)
  · refine g_iconst 17 rfl (v := 1) dX0_isWhole_16 (by decide) ?_
    refine g_goto 21 dX0_isWhole_17 (by decide) ?_
    refine g_zret rfl dX0_isWhole_21 (by first | exact Or.inl rfl | exact Or.inr rfl | assumption) ?_
    refine ⟨rfl, ?_⟩
    first | (have q := (nI_eq (b := 3) (by omega) (by decide)).mp h5; exact Or.inl ⟨rfl, by unfold csW; omega⟩) | (have q := (nI_eq (b := 4) (by omega) (by decide)).mp h13; exact Or.inl ⟨rfl, by unfold csW; omega⟩) | (refine Or.inr ⟨rfl, fun q => ?_⟩; unfold csW at q; have q3 : s.2.1 ≠ 3 := fun z => h5 (by rw [z]; rfl); have q4 : s.2.1 ≠ 4 := fun z => h13 (by rw [z]; rfl); omega)
  · refine g_aload0 9 rfl dX0_isWhole_8 ?_
    refine g_getI 12 rfl fX0_22 (by first | rfl | exact st_o hb | exact st_1 hb | exact st_2 hb | exact st_3 hb | exact st_4 hb | exact st_5 hb | exact st_o hb2 | exact st_1 hb2 | exact st_2 hb2 | exact st_3 hb2 | exact st_4 hb2 | exact st_5 hb2) rfl dX0_isWhole_9 ?_
    try simp only [ct3_6, e3]
    refine g_iconst 13 rfl (v := 4) dX0_isWhole_12 (by decide) ?_
    refine g_cmpne 20 16 rfl dX0_isWhole_13 (by decide) (fun h13 => ?_) (fun h13 => ?_)
    · refine g_iconst 21 rfl (v := 0) dX0_isWhole_20 (by decide) ?_
      refine g_zret rfl dX0_isWhole_21 (by first | exact Or.inl rfl | exact Or.inr rfl | assumption) ?_
      refine ⟨rfl, ?_⟩
      first | (have q := (nI_eq (b := 3) (by omega) (by decide)).mp h5; exact Or.inl ⟨rfl, by unfold csW; omega⟩) | (have q := (nI_eq (b := 4) (by omega) (by decide)).mp h13; exact Or.inl ⟨rfl, by unfold csW; omega⟩) | (refine Or.inr ⟨rfl, fun q => ?_⟩; unfold csW at q; have q3 : s.2.1 ≠ 3 := fun z => h5 (by rw [z]; rfl); have q4 : s.2.1 ≠ 4 := fun z => h13 (by rw [z]; rfl); omega)
    · refine g_iconst 17 rfl (v := 1) dX0_isWhole_16 (by decide) ?_
      refine g_goto 21 dX0_isWhole_17 (by decide) ?_
      refine g_zret rfl dX0_isWhole_21 (by first | exact Or.inl rfl | exact Or.inr rfl | assumption) ?_
      refine ⟨rfl, ?_⟩
      first | (have q := (nI_eq (b := 3) (by omega) (by decide)).mp h5; exact Or.inl ⟨rfl, by unfold csW; omega⟩) | (have q := (nI_eq (b := 4) (by omega) (by decide)).mp h13; exact Or.inl ⟨rfl, by unfold csW; omega⟩) | (refine Or.inr ⟨rfl, fun q => ?_⟩; unfold csW at q; have q3 : s.2.1 ≠ 3 := fun z => h5 (by rw [z]; rfl); have q4 : s.2.1 ≠ 4 := fun z => h13 (by rw [z]; rfl); omega)
/-! a text, letter by letter -/
def runF {α : Type} (step : Int32 → α → Option α) (p : Nat → Int32) : Nat → Nat → α → Nat × Option α
  | 0, i, s => (i, some s)
  | d + 1, i, s => match step (p i) s with
    | none => (i, none)
    | some s' => runF step p d (i + 1) s'
theorem run_some {α : Type} {step : Int32 → α → Option α} {p : Nat → Int32} : ∀ (d i : Nat) (s : α), (∃ t, (runF step p d i s).2 = some t ∧ (runF step p d i s).1 = i + d) ∨ ((runF step p d i s).2 = none ∧ (runF step p d i s).1 < i + d)
  | 0, i, s => Or.inl ⟨s, rfl, rfl⟩
  | d + 1, i, s => by
    rw [runF]
    cases h : step (p i) s with
    | none => exact Or.inr ⟨rfl, by dsimp only; omega⟩
    | some s' =>
      dsimp only
      rcases run_some (step := step) (p := p) d (i + 1) s' with ⟨t, h1, h2⟩ | ⟨h1, h2⟩
      · exact Or.inl ⟨t, h1, by rw [h2]; omega⟩
      · exact Or.inr ⟨h1, by omega⟩
/-- the page: its length and its letters -/
def Pg (M : Mm) (L : Nat) (p : Nat → Int32) : Prop := L ≤ 64 ∧ M.1 1 1 = nI L ∧ ∀ i, i < L → M.1 2 i = p i
abbrev qFs (M : Mm) (L : Nat) (p : Nat → Int32) : Rr → Mm → Prop := fun r M' => r = some (.inl (nI (runF stT p L 0 tx0).1)) ∧ ∃ f k z, M' = ST3 M f k z ∧ ∀ t, (runF stT p L 0 tx0).2 = some t → SR f k z t
theorem ok_faultS {l : Launch} {M : Mm} {L : Nat} {p : Nat → Int32} (hp : Pg M L p) : Ok GC l mX6_faultIn [.ref 3, .ref 1] M (qFs M L p) := by
  obtain ⟨hL, hl, hc⟩ := hp
  have e1 : ∀ f k z, (ST3 M f k z).1 1 1 = nI L := fun f k z => by rw [st3_n (by decide) (by decide) (by decide)]; exact hl
  have e2 : ∀ f k z i, i < L → (ST3 M f k z).1 2 i = p i := fun f k z i hi => by rw [st3_n (by decide) (by decide) (by decide)]; exact hc i hi
  refine ok_of (by decide +kernel) rfl rfl ?_
  refine g_aload0 1 rfl dX6_faultIn_0 ?_
  refine g_callU 4 0 rfl uX6_7_X8 (by first | rfl | exact st_o hb | exact st_1 hb | exact st_2 hb | exact st_3 hb | exact st_4 hb | exact st_5 hb | exact st_o hb2 | exact st_1 hb2 | exact st_2 hb2 | exact st_3 hb2 | exact st_4 hb2 | exact st_5 hb2) dX6_faultIn_1 ⟨rfl, rfl⟩ ok_X8_begin rfl rfl rfl (fun r M1 hq => ?_)
  obtain ⟨rfl, f, rfl, hs⟩ := hq
  try simp only [rV, Option.toList, List.cons_append, List.nil_append]
  refine g_iconst 5 rfl (v := 0) dX6_faultIn_4 (by decide) ?_
  refine g_istore2 6 rfl dX6_faultIn_5 rfl rfl ?_
  refine loop_up (P := fun i => ∀ f k z t, SR f k z t → runF stT p (L - i) i t = runF stT p L 0 tx0 → Go GC l mX6_faultIn 6 [.ref 3, .ref 1, .int (nI i)] [] (ST3 M f k z) (qFs M L p)) L ?_ ?_ 0 (by omega) f _ _ tx0 hs rfl
  · intro f k z t hs he
    rw [Nat.sub_self] at he
    have he : (L, some t) = runF stT p L 0 tx0 := he
    refine g_iload2 7 rfl dX6_faultIn_6 ?_
    refine g_aload1 8 rfl dX6_faultIn_7 ?_
    refine g_getI 11 rfl fX6_12 (by first | rfl | exact st_o hb | exact st_1 hb | exact st_2 hb | exact st_3 hb | exact st_4 hb | exact st_5 hb | exact st_o hb2 | exact st_1 hb2 | exact st_2 hb2 | exact st_3 hb2 | exact st_4 hb2 | exact st_5 hb2) rfl dX6_faultIn_8 ?_
    try simp only [e1]
    refine g_cmpge 35 14 rfl dX6_faultIn_11 (by decide) (fun h11 => ?_) (fun h => absurd (Int32.le_refl _) h)
    refine g_aload1 36 rfl dX6_faultIn_35 ?_
    refine g_getI 39 rfl fX6_12 (by first | rfl | exact st_o hb | exact st_1 hb | exact st_2 hb | exact st_3 hb | exact st_4 hb | exact st_5 hb | exact st_o hb2 | exact st_1 hb2 | exact st_2 hb2 | exact st_3 hb2 | exact st_4 hb2 | exact st_5 hb2) rfl dX6_faultIn_36 ?_
    try simp only [e1]
    refine g_iret rfl dX6_faultIn_39 ?_
    exact ⟨by rw [← he], f, k, z, rfl, fun t' ht => by rw [← he] at ht; cases ht; exact hs⟩
  · intro i hi ih f k z t hs he
    rw [show L - i = L - (i + 1) + 1 by omega, runF] at he
    refine g_iload2 7 rfl dX6_faultIn_6 ?_
    refine g_aload1 8 rfl dX6_faultIn_7 ?_
    refine g_getI 11 rfl fX6_12 (by first | rfl | exact st_o hb | exact st_1 hb | exact st_2 hb | exact st_3 hb | exact st_4 hb | exact st_5 hb | exact st_o hb2 | exact st_1 hb2 | exact st_2 hb2 | exact st_3 hb2 | exact st_4 hb2 | exact st_5 hb2) rfl dX6_faultIn_8 ?_
    try simp only [e1]
    refine g_cmpge 35 14 rfl dX6_faultIn_11 (by decide) (fun h => absurd h (nI_ge hi (by omega))) (fun _ => ?_)
    refine g_aload0 15 rfl dX6_faultIn_14 ?_
    refine g_aload1 16 rfl dX6_faultIn_15 ?_
    refine g_getR 19 rfl fX6_18 (by first | rfl | exact st_o hb | exact st_1 hb | exact st_2 hb | exact st_3 hb | exact st_4 hb | exact st_5 hb | exact st_o hb2 | exact st_1 hb2 | exact st_2 hb2 | exact st_3 hb2 | exact st_4 hb2 | exact st_5 hb2) rfl dX6_faultIn_16 ?_
    refine g_iload2 20 rfl dX6_faultIn_19 ?_
    refine g_iald 21 rfl dX6_faultIn_20 (by first | rfl | exact st_o hb | exact st_1 hb | exact st_2 hb | exact st_3 hb | exact st_4 hb | exact st_5 hb | exact st_o hb2 | exact st_1 hb2 | exact st_2 hb2 | exact st_3 hb2 | exact st_4 hb2 | exact st_5 hb2) rfl rfl (by first | assumption | omega) ?_
    try simp only [e1]
    rw [e2 _ _ _ i hi]
    refine g_callU 24 1 rfl uX6_22_X8 (by first | rfl | exact st_o hb | exact st_1 hb | exact st_2 hb | exact st_3 hb | exact st_4 hb | exact st_5 hb | exact st_o hb2 | exact st_1 hb2 | exact st_2 hb2 | exact st_3 hb2 | exact st_4 hb2 | exact st_5 hb2) dX6_faultIn_21 ⟨rfl, rfl⟩ (ok_X8_takes hs) rfl rfl rfl (fun r M1 hq => ?_)
    obtain ⟨f, k, z, rfl, hq⟩ := hq
    try simp only [rV, Option.toList, List.cons_append, List.nil_append]
    rcases hq with ⟨rfl, t', h1, h2⟩ | ⟨rfl, h1⟩
    · rw [h1] at he
      refine g_ifne 29 27 rfl dX6_faultIn_24 (by decide) (fun _ => ?_) (fun h => absurd h (by decide))
      refine g_iinc2 32 rfl dX6_faultIn_29 rfl rfl _ (by first | exact iinc1 _ | exact iincx _ | rfl) ?_
      refine g_goto 6 dX6_faultIn_32 (by decide) ?_
      exact ih f k z t' h2 he
    · rw [h1] at he
      have he : (i, none) = runF stT p L 0 tx0 := he
      refine g_ifne 29 27 rfl dX6_faultIn_24 (by decide) (fun h => absurd rfl h) (fun _ => ?_)
      refine g_iload2 28 rfl dX6_faultIn_27 ?_
      refine g_iret rfl dX6_faultIn_28 ?_
      exact ⟨by rw [← he], f, k, z, rfl, fun t' ht => by rw [← he] at ht; cases ht⟩
abbrev qFc (M : Mm) (L : Nat) (p : Nat → Int32) : Rr → Mm → Prop := fun r M' => r = some (.inl (nI (runF stC p L 0 cs0).1)) ∧ ∃ f a b, M' = CT3 M f a b ∧ ∀ t, (runF stC p L 0 cs0).2 = some t → CR f a b t
theorem ok_faultC {l : Launch} {M : Mm} {L : Nat} {p : Nat → Int32} (hp : Pg M L p) : Ok GC l mX6_faultIn [.ref 6, .ref 1] M (qFc M L p) := by
  obtain ⟨hL, hl, hc⟩ := hp
  have e1 : ∀ f k z, (CT3 M f k z).1 1 1 = nI L := fun f k z => by rw [ct3_n (by decide) (by decide) (by decide)]; exact hl
  have e2 : ∀ f k z i, i < L → (CT3 M f k z).1 2 i = p i := fun f k z i hi => by rw [ct3_n (by decide) (by decide) (by decide)]; exact hc i hi
  refine ok_of (by decide +kernel) rfl rfl ?_
  refine g_aload0 1 rfl dX6_faultIn_0 ?_
  refine g_callU 4 0 rfl uX6_7_X0 (by first | rfl | exact st_o hb | exact st_1 hb | exact st_2 hb | exact st_3 hb | exact st_4 hb | exact st_5 hb | exact st_o hb2 | exact st_1 hb2 | exact st_2 hb2 | exact st_3 hb2 | exact st_4 hb2 | exact st_5 hb2) dX6_faultIn_1 ⟨rfl, rfl⟩ ok_X0_begin rfl rfl rfl (fun r M1 hq => ?_)
  obtain ⟨rfl, f, rfl, hs⟩ := hq
  try simp only [rV, Option.toList, List.cons_append, List.nil_append]
  refine g_iconst 5 rfl (v := 0) dX6_faultIn_4 (by decide) ?_
  refine g_istore2 6 rfl dX6_faultIn_5 rfl rfl ?_
  refine loop_up (P := fun i => ∀ f k z t, CR f k z t → runF stC p (L - i) i t = runF stC p L 0 cs0 → Go GC l mX6_faultIn 6 [.ref 6, .ref 1, .int (nI i)] [] (CT3 M f k z) (qFc M L p)) L ?_ ?_ 0 (by omega) f _ _ cs0 hs rfl
  · intro f k z t hs he
    rw [Nat.sub_self] at he
    have he : (L, some t) = runF stC p L 0 cs0 := he
    refine g_iload2 7 rfl dX6_faultIn_6 ?_
    refine g_aload1 8 rfl dX6_faultIn_7 ?_
    refine g_getI 11 rfl fX6_12 (by first | rfl | exact st_o hb | exact st_1 hb | exact st_2 hb | exact st_3 hb | exact st_4 hb | exact st_5 hb | exact st_o hb2 | exact st_1 hb2 | exact st_2 hb2 | exact st_3 hb2 | exact st_4 hb2 | exact st_5 hb2) rfl dX6_faultIn_8 ?_
    try simp only [e1]
    refine g_cmpge 35 14 rfl dX6_faultIn_11 (by decide) (fun h11 => ?_) (fun h => absurd (Int32.le_refl _) h)
    refine g_aload1 36 rfl dX6_faultIn_35 ?_
    refine g_getI 39 rfl fX6_12 (by first | rfl | exact st_o hb | exact st_1 hb | exact st_2 hb | exact st_3 hb | exact st_4 hb | exact st_5 hb | exact st_o hb2 | exact st_1 hb2 | exact st_2 hb2 | exact st_3 hb2 | exact st_4 hb2 | exact st_5 hb2) rfl dX6_faultIn_36 ?_
    try simp only [e1]
    refine g_iret rfl dX6_faultIn_39 ?_
    exact ⟨by rw [← he], f, k, z, rfl, fun t' ht => by rw [← he] at ht; cases ht; exact hs⟩
  · intro i hi ih f k z t hs he
    rw [show L - i = L - (i + 1) + 1 by omega, runF] at he
    refine g_iload2 7 rfl dX6_faultIn_6 ?_
    refine g_aload1 8 rfl dX6_faultIn_7 ?_
    refine g_getI 11 rfl fX6_12 (by first | rfl | exact st_o hb | exact st_1 hb | exact st_2 hb | exact st_3 hb | exact st_4 hb | exact st_5 hb | exact st_o hb2 | exact st_1 hb2 | exact st_2 hb2 | exact st_3 hb2 | exact st_4 hb2 | exact st_5 hb2) rfl dX6_faultIn_8 ?_
    try simp only [e1]
    refine g_cmpge 35 14 rfl dX6_faultIn_11 (by decide) (fun h => absurd h (nI_ge hi (by omega))) (fun _ => ?_)
    refine g_aload0 15 rfl dX6_faultIn_14 ?_
    refine g_aload1 16 rfl dX6_faultIn_15 ?_
    refine g_getR 19 rfl fX6_18 (by first | rfl | exact st_o hb | exact st_1 hb | exact st_2 hb | exact st_3 hb | exact st_4 hb | exact st_5 hb | exact st_o hb2 | exact st_1 hb2 | exact st_2 hb2 | exact st_3 hb2 | exact st_4 hb2 | exact st_5 hb2) rfl dX6_faultIn_16 ?_
    refine g_iload2 20 rfl dX6_faultIn_19 ?_
    refine g_iald 21 rfl dX6_faultIn_20 (by first | rfl | exact st_o hb | exact st_1 hb | exact st_2 hb | exact st_3 hb | exact st_4 hb | exact st_5 hb | exact st_o hb2 | exact st_1 hb2 | exact st_2 hb2 | exact st_3 hb2 | exact st_4 hb2 | exact st_5 hb2) rfl rfl (by first | assumption | omega) ?_
    try simp only [e1]
    rw [e2 _ _ _ i hi]
    refine g_callU 24 1 rfl uX6_22_X0 (by first | rfl | exact st_o hb | exact st_1 hb | exact st_2 hb | exact st_3 hb | exact st_4 hb | exact st_5 hb | exact st_o hb2 | exact st_1 hb2 | exact st_2 hb2 | exact st_3 hb2 | exact st_4 hb2 | exact st_5 hb2) dX6_faultIn_21 ⟨rfl, rfl⟩ (ok_X0_takes hs) rfl rfl rfl (fun r M1 hq => ?_)
    obtain ⟨f, k, z, rfl, hq⟩ := hq
    try simp only [rV, Option.toList, List.cons_append, List.nil_append]
    rcases hq with ⟨rfl, t', h1, h2⟩ | ⟨rfl, h1⟩
    · rw [h1] at he
      refine g_ifne 29 27 rfl dX6_faultIn_24 (by decide) (fun _ => ?_) (fun h => absurd h (by decide))
      refine g_iinc2 32 rfl dX6_faultIn_29 rfl rfl _ (by first | exact iinc1 _ | exact iincx _ | rfl) ?_
      refine g_goto 6 dX6_faultIn_32 (by decide) ?_
      exact ih f k z t' h2 he
    · rw [h1] at he
      have he : (i, none) = runF stC p L 0 cs0 := he
      refine g_ifne 29 27 rfl dX6_faultIn_24 (by decide) (fun h => absurd rfl h) (fun _ => ?_)
      refine g_iload2 28 rfl dX6_faultIn_27 ?_
      refine g_iret rfl dX6_faultIn_28 ?_
      exact ⟨by rw [← he], f, k, z, rfl, fun t' ht => by rw [← he] at ht; cases ht⟩
/-- the page is a street; the page is carts -/
def isS (L : Nat) (p : Nat → Int32) (t : Tx) : Prop := (runF stT p L 0 tx0).2 = some t ∧ txW t
def isC (L : Nat) (p : Nat → Int32) (t : Cs) : Prop := (runF stC p L 0 cs0).2 = some t ∧ csW t
theorem ok_readsS {l : Launch} {M : Mm} {L : Nat} {p : Nat → Int32} (hp : Pg M L p) : Ok GC l mX6_reads [.ref 3, .ref 1] M (fun r M' => ∃ f k z, M' = ST3 M f k z ∧ ((r = some (.inl 1) ∧ ∃ t, isS L p t ∧ SR f k z t) ∨ (r = some (.inl 0) ∧ ¬ ∃ t, isS L p t))) := by
  have hL := hp.1
  have e1 : ∀ f k z, (ST3 M f k z).1 1 1 = nI L := fun f k z => by rw [st3_n (by decide) (by decide) (by decide)]; exact hp.2.1
  refine ok_of (by decide +kernel) rfl rfl ?_
  refine g_aload0 1 rfl dX6_reads_0 ?_
  refine g_aload1 2 rfl dX6_reads_1 ?_
  refine g_callU 5 1 rfl uX6_26_X8 (by first | rfl | exact st_o hb | exact st_1 hb | exact st_2 hb | exact st_3 hb | exact st_4 hb | exact st_5 hb | exact st_o hb2 | exact st_1 hb2 | exact st_2 hb2 | exact st_3 hb2 | exact st_4 hb2 | exact st_5 hb2) dX6_reads_2 ⟨rfl, rfl⟩ (ok_faultS hp) rfl rfl rfl (fun r M1 hq => ?_)
  obtain ⟨rfl, f, k, z, rfl, hs⟩ := hq
  try simp only [rV, Option.toList, List.cons_append, List.nil_append]
  refine g_aload1 6 rfl dX6_reads_5 ?_
  refine g_getI 9 rfl fX6_12 (by first | rfl | exact st_o hb | exact st_1 hb | exact st_2 hb | exact st_3 hb | exact st_4 hb | exact st_5 hb | exact st_o hb2 | exact st_1 hb2 | exact st_2 hb2 | exact st_3 hb2 | exact st_4 hb2 | exact st_5 hb2) rfl dX6_reads_6 ?_
  try simp only [e1]
  rcases run_some (step := stT) (p := p) L 0 tx0 with ⟨t, h1, h2⟩ | ⟨h1, h2⟩
  · rw [h2, Nat.zero_add]
    refine g_cmpne 23 12 rfl dX6_reads_9 (by decide) (fun h => absurd rfl h) (fun _ => ?_)
    refine g_aload0 13 rfl dX6_reads_12 ?_
    refine g_callU 16 0 rfl uX6_30_X8 (by first | rfl | exact st_o hb | exact st_1 hb | exact st_2 hb | exact st_3 hb | exact st_4 hb | exact st_5 hb | exact st_o hb2 | exact st_1 hb2 | exact st_2 hb2 | exact st_3 hb2 | exact st_4 hb2 | exact st_5 hb2) dX6_reads_13 ⟨rfl, rfl⟩ (ok_X8_isWhole (hs t h1)) rfl rfl rfl (fun r M1 hq => ?_)
    obtain ⟨rfl, hq⟩ := hq
    try simp only [rV, Option.toList, List.cons_append, List.nil_append]
    rcases hq with ⟨rfl, hw⟩ | ⟨rfl, hw⟩
    · refine g_ifeq 23 19 rfl dX6_reads_16 (by decide) (fun h => absurd h (by decide)) (fun _ => ?_)
      refine g_iconst 20 rfl (v := 1) dX6_reads_19 (by decide) ?_
      refine g_goto 24 dX6_reads_20 (by decide) ?_
      refine g_zret rfl dX6_reads_24 (by first | exact Or.inl rfl | exact Or.inr rfl | assumption) ?_
      exact ⟨f, k, z, rfl, Or.inl ⟨rfl, t, ⟨h1, hw⟩, hs t h1⟩⟩
    · refine g_ifeq 23 19 rfl dX6_reads_16 (by decide) (fun _ => ?_) (fun h => absurd rfl h)
      refine g_iconst 24 rfl (v := 0) dX6_reads_23 (by decide) ?_
      refine g_zret rfl dX6_reads_24 (by first | exact Or.inl rfl | exact Or.inr rfl | assumption) ?_
      exact ⟨f, k, z, rfl, Or.inr ⟨rfl, fun ⟨t', g1, g2⟩ => by rw [h1] at g1; cases g1; exact hw g2⟩⟩
  · have hne : ¬ nI (runF stT p L 0 tx0).1 = nI L := fun q => by have := (nI_eq (by omega) (by omega)).mp q; omega
    refine g_cmpne 23 12 rfl dX6_reads_9 (by decide) (fun _ => ?_) (fun h => absurd h hne)
    refine g_iconst 24 rfl (v := 0) dX6_reads_23 (by decide) ?_
    refine g_zret rfl dX6_reads_24 (by first | exact Or.inl rfl | exact Or.inr rfl | assumption) ?_
    exact ⟨f, k, z, rfl, Or.inr ⟨rfl, fun ⟨t', g1, g2⟩ => by rw [h1] at g1; cases g1⟩⟩
theorem ok_readsC {l : Launch} {M : Mm} {L : Nat} {p : Nat → Int32} (hp : Pg M L p) : Ok GC l mX6_reads [.ref 6, .ref 1] M (fun r M' => ∃ f k z, M' = CT3 M f k z ∧ ((r = some (.inl 1) ∧ ∃ t, isC L p t ∧ CR f k z t) ∨ (r = some (.inl 0) ∧ ¬ ∃ t, isC L p t))) := by
  have hL := hp.1
  have e1 : ∀ f k z, (CT3 M f k z).1 1 1 = nI L := fun f k z => by rw [ct3_n (by decide) (by decide) (by decide)]; exact hp.2.1
  refine ok_of (by decide +kernel) rfl rfl ?_
  refine g_aload0 1 rfl dX6_reads_0 ?_
  refine g_aload1 2 rfl dX6_reads_1 ?_
  refine g_callU 5 1 rfl uX6_26_X0 (by first | rfl | exact st_o hb | exact st_1 hb | exact st_2 hb | exact st_3 hb | exact st_4 hb | exact st_5 hb | exact st_o hb2 | exact st_1 hb2 | exact st_2 hb2 | exact st_3 hb2 | exact st_4 hb2 | exact st_5 hb2) dX6_reads_2 ⟨rfl, rfl⟩ (ok_faultC hp) rfl rfl rfl (fun r M1 hq => ?_)
  obtain ⟨rfl, f, k, z, rfl, hs⟩ := hq
  try simp only [rV, Option.toList, List.cons_append, List.nil_append]
  refine g_aload1 6 rfl dX6_reads_5 ?_
  refine g_getI 9 rfl fX6_12 (by first | rfl | exact st_o hb | exact st_1 hb | exact st_2 hb | exact st_3 hb | exact st_4 hb | exact st_5 hb | exact st_o hb2 | exact st_1 hb2 | exact st_2 hb2 | exact st_3 hb2 | exact st_4 hb2 | exact st_5 hb2) rfl dX6_reads_6 ?_
  try simp only [e1]
  rcases run_some (step := stC) (p := p) L 0 cs0 with ⟨t, h1, h2⟩ | ⟨h1, h2⟩
  · rw [h2, Nat.zero_add]
    refine g_cmpne 23 12 rfl dX6_reads_9 (by decide) (fun h => absurd rfl h) (fun _ => ?_)
    refine g_aload0 13 rfl dX6_reads_12 ?_
    refine g_callU 16 0 rfl uX6_30_X0 (by first | rfl | exact st_o hb | exact st_1 hb | exact st_2 hb | exact st_3 hb | exact st_4 hb | exact st_5 hb | exact st_o hb2 | exact st_1 hb2 | exact st_2 hb2 | exact st_3 hb2 | exact st_4 hb2 | exact st_5 hb2) dX6_reads_13 ⟨rfl, rfl⟩ (ok_X0_isWhole (hs t h1)) rfl rfl rfl (fun r M1 hq => ?_)
    obtain ⟨rfl, hq⟩ := hq
    try simp only [rV, Option.toList, List.cons_append, List.nil_append]
    rcases hq with ⟨rfl, hw⟩ | ⟨rfl, hw⟩
    · refine g_ifeq 23 19 rfl dX6_reads_16 (by decide) (fun h => absurd h (by decide)) (fun _ => ?_)
      refine g_iconst 20 rfl (v := 1) dX6_reads_19 (by decide) ?_
      refine g_goto 24 dX6_reads_20 (by decide) ?_
      refine g_zret rfl dX6_reads_24 (by first | exact Or.inl rfl | exact Or.inr rfl | assumption) ?_
      exact ⟨f, k, z, rfl, Or.inl ⟨rfl, t, ⟨h1, hw⟩, hs t h1⟩⟩
    · refine g_ifeq 23 19 rfl dX6_reads_16 (by decide) (fun _ => ?_) (fun h => absurd rfl h)
      refine g_iconst 24 rfl (v := 0) dX6_reads_23 (by decide) ?_
      refine g_zret rfl dX6_reads_24 (by first | exact Or.inl rfl | exact Or.inr rfl | assumption) ?_
      exact ⟨f, k, z, rfl, Or.inr ⟨rfl, fun ⟨t', g1, g2⟩ => by rw [h1] at g1; cases g1; exact hw g2⟩⟩
  · have hne : ¬ nI (runF stC p L 0 cs0).1 = nI L := fun q => by have := (nI_eq (by omega) (by omega)).mp q; omega
    refine g_cmpne 23 12 rfl dX6_reads_9 (by decide) (fun _ => ?_) (fun h => absurd h hne)
    refine g_iconst 24 rfl (v := 0) dX6_reads_23 (by decide) ?_
    refine g_zret rfl dX6_reads_24 (by first | exact Or.inl rfl | exact Or.inr rfl | assumption) ?_
    exact ⟨f, k, z, rfl, Or.inr ⟨rfl, fun ⟨t', g1, g2⟩ => by rw [h1] at g1; cases g1⟩⟩
