/-! the class's calls: texts -/
theorem CS.pg {g : Sg} {M N : Mm} {L : Nat} {p : Nat → Int32} (h : CS g M) (hP : Pg N L p) (hk : ∀ q, q ≠ 1 → q ≠ 2 → kpC q → N.1 q = M.1 q) : CS (sgP g L p) N := by
  obtain ⟨h1, h2, h3, h4, h5, h6, h7, h8, h9, h10⟩ := h
  have e : ∀ q, (q ≠ 1 ∧ q ≠ 2 ∧ (q ≤ 2 ∨ (9 ≤ q ∧ q ≤ 20) ∨ (27 ≤ q ∧ q ≤ 32) ∨ (42 ≤ q ∧ q ≤ 44))) → N.1 q = M.1 q := fun q hq => hk q hq.1 hq.2.1 hq.2.2
  have v15 : vC N 15 = vC M 15 := by unfold vC; rw [e (15 + 1) (by omega), e (15 + 2) (by omega), e (15 + 3) (by omega), e (15 + 4) (by omega), e (15 + 5) (by omega), e 15 (by omega)]
  have v27 : vC N 27 = vC M 27 := by unfold vC; rw [e (27 + 1) (by omega), e (27 + 2) (by omega), e (27 + 3) (by omega), e (27 + 4) (by omega), e (27 + 5) (by omega), e 27 (by omega)]
  refine ⟨?_, by rw [v15]; exact h2, hP, ?_, ?_, by rw [e 0 (by omega)]; exact h6, by rw [e 0 (by omega)]; exact h7, by rw [v27]; exact h8, by rw [e 0 (by omega)]; exact h9, h10⟩
  · unfold Plan; rw [e 12 (by omega), e 13 (by omega), e 14 (by omega)]; exact h1
  · unfold Crt; rw [e 9 (by omega), e (9 + 1) (by omega), e (9 + 2) (by omega)]; exact h4
  · unfold Hp; rw [e 42 (by omega), e 43 (by omega), e 44 (by omega)]; exact h5
theorem CS.g {g : Sg} {M : Mm} (h : CS g M) : Pg M (gL g) (gP g) := h.2.2.1
noncomputable def fBlank (g : Sg) : Int32 × Sg := (nI (gL g), sgP g 0 (gP g))
theorem pub_blank {l : Launch} {M : Mm} {g : Sg} (h : CS g M) : Ok GC l mX11_blank [.ref 0] M (qP (fBlank g)) := by
  have e := h.g.2.1
  refine ok_of (by decide +kernel) rfl rfl ?_
  refine g_aload0 1 rfl dX11_blank_0 ?_
  refine g_getR 4 rfl fX11_12 (by first | rfl | exact st_o hb | exact st_1 hb | exact st_2 hb | exact st_3 hb | exact st_4 hb | exact st_5 hb | exact st_o hb2 | exact st_1 hb2 | exact st_2 hb2 | exact st_3 hb2 | exact st_4 hb2 | exact st_5 hb2) rfl dX11_blank_1 ?_
  refine g_getI 7 rfl fX11_110 (by first | rfl | exact st_o hb | exact st_1 hb | exact st_2 hb | exact st_3 hb | exact st_4 hb | exact st_5 hb | exact st_o hb2 | exact st_1 hb2 | exact st_2 hb2 | exact st_3 hb2 | exact st_4 hb2 | exact st_5 hb2) rfl dX11_blank_4 ?_
  try simp only [e]
  refine g_istore1 8 rfl dX11_blank_7 rfl rfl ?_
  refine g_aload0 9 rfl dX11_blank_8 ?_
  refine g_getR 12 rfl fX11_12 (by first | rfl | exact st_o hb | exact st_1 hb | exact st_2 hb | exact st_3 hb | exact st_4 hb | exact st_5 hb | exact st_o hb2 | exact st_1 hb2 | exact st_2 hb2 | exact st_3 hb2 | exact st_4 hb2 | exact st_5 hb2) rfl dX11_blank_9 ?_
  refine g_iconst 13 rfl (v := 0) dX11_blank_12 (by decide) ?_
  refine g_putI 16 rfl fX11_110 (by first | rfl | exact st_o hb | exact st_1 hb | exact st_2 hb | exact st_3 hb | exact st_4 hb | exact st_5 hb | exact st_o hb2 | exact st_1 hb2 | exact st_2 hb2 | exact st_3 hb2 | exact st_4 hb2 | exact st_5 hb2) rfl dX11_blank_13 ?_
  try simp only [e]
  refine g_iload1 17 rfl dX11_blank_16 ?_
  refine g_iret rfl dX11_blank_17 ?_
  refine ⟨rfl, h.pg ⟨Nat.zero_le _, by rw [sA_s, upd_at]; rfl, fun i hi => absurd hi (by omega)⟩ (fun q h1 _ _ => sA_n h1)⟩
noncomputable def fFault (g : Sg) (q : Int32) : Int32 × Sg := (ifC (q = 0) (nI (runF stT (gP g) (gL g) 0 tx0).1) (ifC (q = 1) (nI (runF stC (gP g) (gL g) 0 cs0).1) (-102)), g)
theorem CS.st3 {g : Sg} {M : Mm} {f k z : Nat → Int32} (h : CS g M) : CS g (ST3 M f k z) := h.fr (fun q hq => st3_n (by unfold kpC at hq; omega) (by unfold kpC at hq; omega) (by unfold kpC at hq; omega))
theorem CS.ct3 {g : Sg} {M : Mm} {f k z : Nat → Int32} (h : CS g M) : CS g (CT3 M f k z) := h.fr (fun q hq => ct3_n (by unfold kpC at hq; omega) (by unfold kpC at hq; omega) (by unfold kpC at hq; omega))
theorem pub_fault {l : Launch} {M : Mm} {g : Sg} {q : Int32} (h : CS g M) : Ok GC l mX11_fault [.ref 0, .int q] M (qP (fFault g q)) := by
  refine ok_of (by decide +kernel) rfl rfl ?_
  refine g_iload1 1 rfl dX11_fault_0 ?_
  refine g_ifne 16 4 rfl dX11_fault_1 (by decide) (fun h1 => ?_) (fun h1 => ?_)
  · refine g_iload1 17 rfl dX11_fault_16 ?_
    refine g_iconst 18 rfl (v := 1) dX11_fault_17 (by decide) ?_
    refine g_cmpne 33 21 rfl dX11_fault_18 (by decide) (fun h18 => ?_) (fun h18 => ?_)
    · refine g_bipush 35 rfl (v := (-102)) dX11_fault_33 (by decide) ?_
      refine g_iret rfl dX11_fault_35 ?_
      rw [fFault, ifC_f h1, ifC_f h18]
      exact ⟨rfl, h⟩
    · refine g_aload0 22 rfl dX11_fault_21 ?_
      refine g_getR 25 rfl fX11_26 (by first | rfl | exact st_o hb | exact st_1 hb | exact st_2 hb | exact st_3 hb | exact st_4 hb | exact st_5 hb | exact st_o hb2 | exact st_1 hb2 | exact st_2 hb2 | exact st_3 hb2 | exact st_4 hb2 | exact st_5 hb2) rfl dX11_fault_22 ?_
      refine g_aload0 26 rfl dX11_fault_25 ?_
      refine g_getR 29 rfl fX11_12 (by first | rfl | exact st_o hb | exact st_1 hb | exact st_2 hb | exact st_3 hb | exact st_4 hb | exact st_5 hb | exact st_o hb2 | exact st_1 hb2 | exact st_2 hb2 | exact st_3 hb2 | exact st_4 hb2 | exact st_5 hb2) rfl dX11_fault_26 ?_
      refine g_callU 32 1 rfl uX11_125_X0 (by first | rfl | exact st_o hb | exact st_1 hb | exact st_2 hb | exact st_3 hb | exact st_4 hb | exact st_5 hb | exact st_o hb2 | exact st_1 hb2 | exact st_2 hb2 | exact st_3 hb2 | exact st_4 hb2 | exact st_5 hb2) dX11_fault_29 ⟨rfl, rfl⟩ (ok_faultC h.g) rfl rfl rfl (fun r M1 hq => ?_)
      obtain ⟨rfl, f, a, b, rfl, hs⟩ := hq
      try simp only [rV, Option.toList, List.cons_append, List.nil_append]
      refine g_iret rfl dX11_fault_32 ?_
      rw [fFault, ifC_f h1, ifC_t h18]
      exact ⟨rfl, h.ct3⟩
  · refine g_aload0 5 rfl dX11_fault_4 ?_
    refine g_getR 8 rfl fX11_19 (by first | rfl | exact st_o hb | exact st_1 hb | exact st_2 hb | exact st_3 hb | exact st_4 hb | exact st_5 hb | exact st_o hb2 | exact st_1 hb2 | exact st_2 hb2 | exact st_3 hb2 | exact st_4 hb2 | exact st_5 hb2) rfl dX11_fault_5 ?_
    refine g_aload0 9 rfl dX11_fault_8 ?_
    refine g_getR 12 rfl fX11_12 (by first | rfl | exact st_o hb | exact st_1 hb | exact st_2 hb | exact st_3 hb | exact st_4 hb | exact st_5 hb | exact st_o hb2 | exact st_1 hb2 | exact st_2 hb2 | exact st_3 hb2 | exact st_4 hb2 | exact st_5 hb2) rfl dX11_fault_9 ?_
    refine g_callU 15 1 rfl uX11_121_X8 (by first | rfl | exact st_o hb | exact st_1 hb | exact st_2 hb | exact st_3 hb | exact st_4 hb | exact st_5 hb | exact st_o hb2 | exact st_1 hb2 | exact st_2 hb2 | exact st_3 hb2 | exact st_4 hb2 | exact st_5 hb2) dX11_fault_12 ⟨rfl, rfl⟩ (ok_faultS h.g) rfl rfl rfl (fun r M1 hq => ?_)
    obtain ⟨rfl, f, a, b, rfl, hs⟩ := hq
    try simp only [rV, Option.toList, List.cons_append, List.nil_append]
    refine g_iret rfl dX11_fault_15 ?_
    rw [fFault, ifC_t h1]
    exact ⟨rfl, h.st3⟩
/-! letters -/
def byt (w : Int64) (i : Nat) : Int32 := (w.toUInt64 >>> ((8 * nI i).toInt64.toUInt64 &&& Int64.toUInt64 63)).toInt64.toInt32 &&& 255
theorem ok_byteOf {l : Launch} {M : Mm} {w : Int64} {i : Nat} : Oi GC l mX11_byteOf [.long w, .int (nI i)] M (byt w i) M := by
  refine ok_of (by decide +kernel) rfl rfl ?_
  refine g_lload0 1 rfl dX11_byteOf_0 ?_
  refine g_bipush 3 rfl (v := 8) dX11_byteOf_1 (by decide) ?_
  refine g_iload2 4 rfl dX11_byteOf_3 ?_
  refine g_imul 5 rfl dX11_byteOf_4 ?_
  refine g_lushr 6 rfl dX11_byteOf_5 ?_
  refine g_l2i 7 rfl dX11_byteOf_6 ?_
  refine g_sipush 10 rfl (v := 255) dX11_byteOf_7 (by decide) ?_
  refine g_iand 11 rfl dX11_byteOf_10 ?_
  refine g_iret rfl dX11_byteOf_11 ?_
  exact ⟨rfl, rfl⟩
noncomputable def litN (w : Int64) : Nat → Option Nat
  | 0 => some 0
  | i + 1 => match litN w i with
    | none => none
    | some m => ifC (126 < byt w i ∨ (¬ byt w i = 0 ∧ m < i)) none (ifC (byt w i = 0) (some m) (some (m + 1)))
theorem litN_le {w : Int64} : ∀ i m, litN w i = some m → m ≤ i
  | 0, m, h => by cases h; exact Nat.le_refl _
  | i + 1, m, h => by
    rw [litN] at h
    cases hl : litN w i with
    | none => rw [hl] at h; cases h
    | some k =>
      rw [hl] at h
      have ih := litN_le i k hl
      dsimp only at h
      by_cases h1 : 126 < byt w i ∨ (¬ byt w i = 0 ∧ k < i)
      · rw [ifC_t h1] at h; cases h
      · rw [ifC_f h1] at h
        by_cases h2 : byt w i = 0
        · rw [ifC_t h2] at h; cases h; omega
        · rw [ifC_f h2] at h; cases h; omega
theorem litN_no {w : Int64} {i : Nat} (h : litN w i = none) : ∀ d, litN w (i + d) = none
  | 0 => h
  | d + 1 => by rw [← Nat.add_assoc, litN, litN_no h d]
theorem ok_lettersIn {l : Launch} {M : Mm} {w : Int64} : Ok GC l mX11_lettersIn [.long w] M (fun r M' => M' = M ∧ ((r = some (.inl (-1)) ∧ litN w 8 = none) ∨ ∃ m, litN w 8 = some m ∧ r = some (.inl (nI m)))) := by
  refine ok_of (by decide +kernel) rfl rfl ?_
  refine g_iconst 1 rfl (v := 0) dX11_lettersIn_0 (by decide) ?_
  refine g_istore2 2 rfl dX11_lettersIn_1 rfl rfl ?_
  refine g_iconst 3 rfl (v := 0) dX11_lettersIn_2 (by decide) ?_
  refine g_istore3 4 rfl dX11_lettersIn_3 rfl rfl ?_
  refine loop_up (P := fun i => ∀ m, litN w i = some m → Go GC l mX11_lettersIn 4 [.long w, .null, .int (nI m), .int (nI i), .null] [] M (fun r M' => M' = M ∧ ((r = some (.inl (-1)) ∧ litN w 8 = none) ∨ ∃ m, litN w 8 = some m ∧ r = some (.inl (nI m))))) 8 ?_ ?_ 0 (by omega) 0 rfl
  · intro m hm
    refine g_iload3 5 rfl dX11_lettersIn_4 ?_
    refine g_bipush 7 rfl (v := 8) dX11_lettersIn_5 (by decide) ?_
    refine g_cmpge 50 10 rfl dX11_lettersIn_7 (by decide) (fun h7 => ?_) (fun h => absurd (by decide) h)
    refine g_iload2 51 rfl dX11_lettersIn_50 ?_
    refine g_iret rfl dX11_lettersIn_51 ?_
    exact ⟨rfl, Or.inr ⟨m, hm, rfl⟩⟩
  · intro i hi ih m hm
    have hmi := litN_le i m hm
    refine g_iload3 5 rfl dX11_lettersIn_4 ?_
    refine g_bipush 7 rfl (v := 8) dX11_lettersIn_5 (by decide) ?_
    refine g_cmpge 50 10 rfl dX11_lettersIn_7 (by decide) (fun h => absurd h (nI_ge hi (by decide))) (fun _ => ?_)
    refine g_lload0 11 rfl dX11_lettersIn_10 ?_
    refine g_iload3 12 rfl dX11_lettersIn_11 ?_
    refine g_callSi 15 2 rfl kX11_113 dX11_lettersIn_12 ⟨rfl, rfl⟩ ok_byteOf rfl rfl rfl ?_
    refine g_istore4 17 rfl dX11_lettersIn_15 rfl rfl ?_
    have bad : (126 < byt w i ∨ (¬ byt w i = 0 ∧ m < i)) → litN w 8 = none := fun hc => by
      have : litN w (i + 1) = none := by rw [litN, hm]; exact ifC_t hc
      have h2 := litN_no this (8 - (i + 1))
      rwa [show i + 1 + (8 - (i + 1)) = 8 by omega] at h2
    have cont : ¬ (126 < byt w i ∨ (¬ byt w i = 0 ∧ m < i)) → Go GC l mX11_lettersIn 36 [.long w, .null, .int (nI m), .int (nI i), .int (byt w i)] [] M (fun r M' => M' = M ∧ ((r = some (.inl (-1)) ∧ litN w 8 = none) ∨ ∃ m, litN w 8 = some m ∧ r = some (.inl (nI m)))) := by
      intro hc
      refine g_iload4 38 rfl dX11_lettersIn_36 ?_
      refine g_ifeq 44 41 rfl dX11_lettersIn_38 (by decide) (fun h38 => ?_) (fun h38 => ?_)
      · refine g_iinc3 47 rfl dX11_lettersIn_44 rfl rfl _ (by first | exact iinc1 _ | exact iincx _ | rfl) ?_
        refine g_goto 4 dX11_lettersIn_47 (by decide) ?_
        refine g_fg 4 ?_
        exact ih m (by rw [litN, hm]; dsimp only; rw [ifC_f hc, ifC_t h38])
      · refine g_iinc2 44 rfl dX11_lettersIn_41 rfl rfl _ (by first | exact iinc1 _ | exact iincx _ | rfl) ?_
        refine g_iinc3 47 rfl dX11_lettersIn_44 rfl rfl _ (by first | exact iinc1 _ | exact iincx _ | rfl) ?_
        refine g_goto 4 dX11_lettersIn_47 (by decide) ?_
        refine g_fg 4 ?_
        exact ih (m + 1) (by rw [litN, hm]; dsimp only; rw [ifC_f hc, ifC_f h38])
    refine g_iload4 19 rfl dX11_lettersIn_17 ?_
    refine g_bipush 21 rfl (v := 126) dX11_lettersIn_19 (by decide) ?_
    refine g_cmpgt 34 24 rfl dX11_lettersIn_21 (by decide) (fun h21 => ?_) (fun h21 => ?_)
    · refine g_iconst 35 rfl (v := (-1)) dX11_lettersIn_34 (by decide) ?_
      refine g_iret rfl dX11_lettersIn_35 ?_
      first | exact ⟨rfl, Or.inl ⟨rfl, bad (Or.inl h21)⟩⟩ | exact ⟨rfl, Or.inl ⟨rfl, bad (Or.inr ⟨h26, Nat.lt_of_not_le (fun z => h31 (nI_le z (by omega)))⟩)⟩⟩
    · refine g_iload4 26 rfl dX11_lettersIn_24 ?_
      refine g_ifeq 36 29 rfl dX11_lettersIn_26 (by decide) (fun h26 => ?_) (fun h26 => ?_)
      · first | exact cont (fun z => z.elim h21 (fun z => z.1 h26)) | exact cont (fun z => z.elim h21 (fun z => absurd h31 (nI_ge z.2 (by omega))))
      · refine g_iload2 30 rfl dX11_lettersIn_29 ?_
        refine g_iload3 31 rfl dX11_lettersIn_30 ?_
        refine g_cmpge 36 34 rfl dX11_lettersIn_31 (by decide) (fun h31 => ?_) (fun h31 => ?_)
        · first | exact cont (fun z => z.elim h21 (fun z => z.1 h26)) | exact cont (fun z => z.elim h21 (fun z => absurd h31 (nI_ge z.2 (by omega))))
        · refine g_iconst 35 rfl (v := (-1)) dX11_lettersIn_34 (by decide) ?_
          refine g_iret rfl dX11_lettersIn_35 ?_
          first | exact ⟨rfl, Or.inl ⟨rfl, bad (Or.inl h21)⟩⟩ | exact ⟨rfl, Or.inl ⟨rfl, bad (Or.inr ⟨h26, Nat.lt_of_not_le (fun z => h31 (nI_le z (by omega)))⟩)⟩⟩
def Fr12 (M N : Mm) : Prop := ∀ q, q ≠ 1 → q ≠ 2 → N.1 q = M.1 q
theorem ok_X3_append {l : Launch} {M : Mm} {L : Nat} {p : Nat → Int32} {c : Int32} (hp : Pg M L p) (hL : L < 64) : Ok GC l mX3_append [.ref 1, .int c] M (fun r M' => r = none ∧ Fr12 M M' ∧ Pg M' (L + 1) (upd p L c)) := by
  obtain ⟨h1, h2, h3⟩ := hp
  have e1 : ∀ f, (setA M 2 f).1 1 1 = nI L := fun f => by rw [sA_n (by decide)]; exact h2
  refine ok_of (by decide +kernel) rfl rfl ?_
  refine g_aload0 1 rfl dX3_append_0 ?_
  refine g_getI 4 rfl fX3_15 (by first | rfl | exact st_o hb | exact st_1 hb | exact st_2 hb | exact st_3 hb | exact st_4 hb | exact st_5 hb | exact st_o hb2 | exact st_1 hb2 | exact st_2 hb2 | exact st_3 hb2 | exact st_4 hb2 | exact st_5 hb2) rfl dX3_append_1 ?_
  try simp only [h2, e1]
  refine g_iflt 39 7 rfl dX3_append_4 (by decide) (fun h => absurd h (nI_pos (by omega))) (fun _ => ?_)
  refine g_aload0 8 rfl dX3_append_7 ?_
  refine g_getI 11 rfl fX3_15 (by first | rfl | exact st_o hb | exact st_1 hb | exact st_2 hb | exact st_3 hb | exact st_4 hb | exact st_5 hb | exact st_o hb2 | exact st_1 hb2 | exact st_2 hb2 | exact st_3 hb2 | exact st_4 hb2 | exact st_5 hb2) rfl dX3_append_8 ?_
  try simp only [h2, e1]
  refine g_aload0 12 rfl dX3_append_11 ?_
  refine g_getR 15 rfl fX3_9 (by first | rfl | exact st_o hb | exact st_1 hb | exact st_2 hb | exact st_3 hb | exact st_4 hb | exact st_5 hb | exact st_o hb2 | exact st_1 hb2 | exact st_2 hb2 | exact st_3 hb2 | exact st_4 hb2 | exact st_5 hb2) rfl dX3_append_12 ?_
  refine g_alen 16 rfl dX3_append_15 (by first | rfl | exact st_o hb | exact st_1 hb | exact st_2 hb | exact st_3 hb | exact st_4 hb | exact st_5 hb | exact st_o hb2 | exact st_1 hb2 | exact st_2 hb2 | exact st_3 hb2 | exact st_4 hb2 | exact st_5 hb2) (fun _ => rfl) ?_
  refine g_cmpge 39 19 rfl dX3_append_16 (by decide) (fun q => absurd q (nI_ge hL (by decide))) (fun _ => ?_)
  refine g_aload0 20 rfl dX3_append_19 ?_
  refine g_getR 23 rfl fX3_9 (by first | rfl | exact st_o hb | exact st_1 hb | exact st_2 hb | exact st_3 hb | exact st_4 hb | exact st_5 hb | exact st_o hb2 | exact st_1 hb2 | exact st_2 hb2 | exact st_3 hb2 | exact st_4 hb2 | exact st_5 hb2) rfl dX3_append_20 ?_
  refine g_aload0 24 rfl dX3_append_23 ?_
  refine g_getI 27 rfl fX3_15 (by first | rfl | exact st_o hb | exact st_1 hb | exact st_2 hb | exact st_3 hb | exact st_4 hb | exact st_5 hb | exact st_o hb2 | exact st_1 hb2 | exact st_2 hb2 | exact st_3 hb2 | exact st_4 hb2 | exact st_5 hb2) rfl dX3_append_24 ?_
  try simp only [h2, e1]
  refine g_iload1 28 rfl dX3_append_27 ?_
  refine g_iast 29 rfl dX3_append_28 (by first | rfl | exact st_o hb | exact st_1 hb | exact st_2 hb | exact st_3 hb | exact st_4 hb | exact st_5 hb | exact st_o hb2 | exact st_1 hb2 | exact st_2 hb2 | exact st_3 hb2 | exact st_4 hb2 | exact st_5 hb2) rfl rfl (by first | assumption | omega) ?_
  try simp only [h2, e1]
  refine g_aload0 30 rfl dX3_append_29 ?_
  refine g_dup 31 rfl dX3_append_30 rfl ?_
  refine g_getI 34 rfl fX3_15 (by first | rfl | exact st_o hb | exact st_1 hb | exact st_2 hb | exact st_3 hb | exact st_4 hb | exact st_5 hb | exact st_o hb2 | exact st_1 hb2 | exact st_2 hb2 | exact st_3 hb2 | exact st_4 hb2 | exact st_5 hb2) rfl dX3_append_31 ?_
  try simp only [h2, e1]
  refine g_iconst 35 rfl (v := 1) dX3_append_34 (by decide) ?_
  refine g_iadd 36 rfl dX3_append_35 ?_
  refine g_putI 39 rfl fX3_15 (by first | rfl | exact st_o hb | exact st_1 hb | exact st_2 hb | exact st_3 hb | exact st_4 hb | exact st_5 hb | exact st_o hb2 | exact st_1 hb2 | exact st_2 hb2 | exact st_3 hb2 | exact st_4 hb2 | exact st_5 hb2) rfl dX3_append_36 ?_
  try simp only [h2, e1]
  refine g_vret rfl dX3_append_39 ?_
  refine ⟨rfl, fun q a b => by rw [sA_n a, sA_n b], by omega, by rw [sA_s, upd_at, nI_1], fun i hi => ?_⟩
  rw [sA_n (by decide), sA_s]
  by_cases hi2 : i < L
  · rw [upd_lt hi2, upd_lt hi2]; exact h3 i hi2
  · have : i = L := by omega
    subst this
    rw [upd_at, upd_at]
/-- the page with so many letters of w behind it -/
def appN (w : Int64) (L : Nat) (p : Nat → Int32) : Nat → Nat → Int32
  | 0 => p
  | i + 1 => upd (appN w L p i) (L + i) (byt w i)
noncomputable def fLetters (g : Sg) (w : Int64) : Int32 × Sg := match litN w 8 with
  | none => (-102, g)
  | some m => ifC (64 < gL g + m) (-104, g) (nI (gL g + m), sgP g (gL g + m) (appN w (gL g) (gP g) m))
theorem pub_letters {l : Launch} {M : Mm} {g : Sg} {w : Int64} (h : CS g M) : Ok GC l mX11_letters [.ref 0, .long w] M (qP (fLetters g w)) := by
  have hL := h.g.1
  have e := h.g.2.1
  refine ok_of (by decide +kernel) rfl rfl ?_
  refine g_lload1 1 rfl dX11_letters_0 ?_
  refine g_callS 4 1 rfl kX11_106 dX11_letters_1 ⟨rfl, rfl⟩ ok_lettersIn rfl rfl rfl (fun r M1 hq => ?_)
  obtain ⟨rfl, ⟨rfl, hn⟩ | ⟨m, hm, rfl⟩⟩ := hq
  try simp only [rV, Option.toList, List.cons_append, List.nil_append]
  · refine g_istore3 5 rfl dX11_letters_4 rfl rfl ?_
    refine g_iload3 6 rfl dX11_letters_5 ?_
    refine g_ifge 12 9 rfl dX11_letters_6 (by decide) (fun q => absurd q (by decide)) (fun _ => ?_)
    refine g_bipush 11 rfl (v := (-102)) dX11_letters_9 (by decide) ?_
    refine g_iret rfl dX11_letters_11 ?_
    rw [fLetters, hn]
    exact ⟨rfl, h⟩
  · have hm8 := litN_le 8 m hm
    refine g_istore3 5 rfl dX11_letters_4 rfl rfl ?_
    refine g_iload3 6 rfl dX11_letters_5 ?_
    refine g_ifge 12 9 rfl dX11_letters_6 (by decide) (fun _ => ?_) (fun q => absurd (nI_pos' (by omega)) q)
    refine g_aload0 13 rfl dX11_letters_12 ?_
    refine g_getR 16 rfl fX11_12 (by first | rfl | exact st_o hb | exact st_1 hb | exact st_2 hb | exact st_3 hb | exact st_4 hb | exact st_5 hb | exact st_o hb2 | exact st_1 hb2 | exact st_2 hb2 | exact st_3 hb2 | exact st_4 hb2 | exact st_5 hb2) rfl dX11_letters_13 ?_
    refine g_getI 19 rfl fX11_110 (by first | rfl | exact st_o hb | exact st_1 hb | exact st_2 hb | exact st_3 hb | exact st_4 hb | exact st_5 hb | exact st_o hb2 | exact st_1 hb2 | exact st_2 hb2 | exact st_3 hb2 | exact st_4 hb2 | exact st_5 hb2) rfl dX11_letters_16 ?_
    try simp only [e]
    refine g_iload3 20 rfl dX11_letters_19 ?_
    refine g_iadd 21 rfl dX11_letters_20 ?_
    refine g_bipush 23 rfl (v := 64) dX11_letters_21 (by decide) ?_
    rw [nI_add]
    refine g_cmple 29 26 rfl dX11_letters_23 (by decide) (fun h23 => ?_) (fun h23 => ?_)
    · have hle : ¬ 64 < gL g + m := fun q => absurd h23 (nI_ge q (by omega))
      refine g_iconst 30 rfl (v := 0) dX11_letters_29 (by decide) ?_
      refine g_istore4 32 rfl dX11_letters_30 rfl rfl ?_
      refine loop_up (P := fun i => ∀ N, Fr12 M1 N → Pg N (gL g + i) (appN w (gL g) (gP g) i) → Go GC l mX11_letters 32 [.ref 0, .long w, .null, .int (nI m), .int (nI i)] [] N (qP (fLetters g w))) m ?_ ?_ 0 (by omega) M1 (fun _ _ _ => rfl) h.g
      · intro N hF hP
        refine g_iload4 34 rfl dX11_letters_32 ?_
        refine g_iload3 35 rfl dX11_letters_34 ?_
        refine g_cmpge 57 38 rfl dX11_letters_35 (by decide) (fun _ => ?_) (fun h => absurd (Int32.le_refl _) h)
        refine g_aload0 58 rfl dX11_letters_57 ?_
        refine g_getR 61 rfl fX11_12 (by first | rfl | exact st_o hb | exact st_1 hb | exact st_2 hb | exact st_3 hb | exact st_4 hb | exact st_5 hb | exact st_o hb2 | exact st_1 hb2 | exact st_2 hb2 | exact st_3 hb2 | exact st_4 hb2 | exact st_5 hb2) rfl dX11_letters_58 ?_
        refine g_getI 64 rfl fX11_110 (by first | rfl | exact st_o hb | exact st_1 hb | exact st_2 hb | exact st_3 hb | exact st_4 hb | exact st_5 hb | exact st_o hb2 | exact st_1 hb2 | exact st_2 hb2 | exact st_3 hb2 | exact st_4 hb2 | exact st_5 hb2) rfl dX11_letters_61 ?_
        refine g_iret rfl dX11_letters_64 ?_
        rw [fLetters, hm]
        dsimp only
        rw [ifC_f hle]
        exact ⟨by rw [hP.2.1], h.pg hP (fun q a b _ => hF q a b)⟩
      · intro i hi ih N hF hP
        refine g_iload4 34 rfl dX11_letters_32 ?_
        refine g_iload3 35 rfl dX11_letters_34 ?_
        refine g_cmpge 57 38 rfl dX11_letters_35 (by decide) (fun h => absurd h (nI_ge hi (by omega))) (fun _ => ?_)
        refine g_aload0 39 rfl dX11_letters_38 ?_
        refine g_getR 42 rfl fX11_12 (by first | rfl | exact st_o hb | exact st_1 hb | exact st_2 hb | exact st_3 hb | exact st_4 hb | exact st_5 hb | exact st_o hb2 | exact st_1 hb2 | exact st_2 hb2 | exact st_3 hb2 | exact st_4 hb2 | exact st_5 hb2) rfl dX11_letters_39 ?_
        refine g_lload1 43 rfl dX11_letters_42 ?_
        refine g_iload4 45 rfl dX11_letters_43 ?_
        refine g_callSi 48 2 rfl kX11_113 dX11_letters_45 ⟨rfl, rfl⟩ ok_byteOf rfl rfl rfl ?_
        refine g_callV 51 1 rfl kX11_117 (by first | rfl | exact st_o hb | exact st_1 hb | exact st_2 hb | exact st_3 hb | exact st_4 hb | exact st_5 hb | exact st_o hb2 | exact st_1 hb2 | exact st_2 hb2 | exact st_3 hb2 | exact st_4 hb2 | exact st_5 hb2) dX11_letters_48 ⟨rfl, rfl⟩ (ok_X3_append hP (by omega)) rfl rfl rfl (fun r M1 hq => ?_)
        obtain ⟨rfl, hF2, hP2⟩ := hq
        try simp only [rV, Option.toList, List.cons_append, List.nil_append]
        refine g_iinc4 54 rfl dX11_letters_51 rfl rfl _ (by first | exact iinc1 _ | exact iincx _ | rfl) ?_
        refine g_goto 32 dX11_letters_54 (by decide) ?_
        exact ih _ (fun q a b => (hF2 q a b).trans (hF q a b)) hP2
    · have hgt : 64 < gL g + m := Nat.lt_of_not_le (fun q => h23 (nI_le q (by decide)))
      refine g_bipush 28 rfl (v := (-104)) dX11_letters_26 (by decide) ?_
      refine g_iret rfl dX11_letters_28 ?_
      rw [fLetters, hm]
      dsimp only
      rw [ifC_t hgt]
      exact ⟨rfl, h⟩
/-! a street is read -/
def paS (x : Sx) (t : Tx) : Sx := (t.2.2.2.2.1, t.2.2.2.2.2, fun c => if t.2.2.2.2.1 c = -1 then -5 else 0, fun _ => 0, fun _ => 0, sD x, 0)
def sgN (g : Sg) (R W : Nat) (x : Sx) : Sg := (R, W, x, 0, g.2.2.2.2.1, g.2.2.2.2.2.1, g.2.2.2.2.2.2.1, g.2.2.2.2.2.2.2.1, gS g + 1, g.2.2.2.2.2.2.2.2.2)
noncomputable def fStreet (g : Sg) : Int32 × Sg := ifC (∃ t, isS (gL g) (gP g) t) (match (runF stT (gP g) (gL g) 0 tx0).2 with
  | none => (0, g)
  | some t => (nI ((t.1 + 1) * t.2.1), sgN g (t.1 + 1) t.2.1 (paS (gX g) t))) (-103, g)
theorem pub_street {l : Launch} {M : Mm} {g : Sg} (h : CS g M) (hS : gS g < 999999) : Ok GC l mX11_street [.ref 0] M (qP (fStreet g)) := by
  have hb : isSt 15 := Or.inl rfl
  refine ok_of (by decide +kernel) rfl rfl ?_
  refine g_aload0 1 rfl dX11_street_0 ?_
  refine g_getR 4 rfl fX11_19 (by first | rfl | exact st_o hb | exact st_1 hb | exact st_2 hb | exact st_3 hb | exact st_4 hb | exact st_5 hb | exact st_o hb2 | exact st_1 hb2 | exact st_2 hb2 | exact st_3 hb2 | exact st_4 hb2 | exact st_5 hb2) rfl dX11_street_1 ?_
  refine g_aload0 5 rfl dX11_street_4 ?_
  refine g_getR 8 rfl fX11_12 (by first | rfl | exact st_o hb | exact st_1 hb | exact st_2 hb | exact st_3 hb | exact st_4 hb | exact st_5 hb | exact st_o hb2 | exact st_1 hb2 | exact st_2 hb2 | exact st_3 hb2 | exact st_4 hb2 | exact st_5 hb2) rfl dX11_street_5 ?_
  refine g_callU 11 1 rfl uX11_126_X8 (by first | rfl | exact st_o hb | exact st_1 hb | exact st_2 hb | exact st_3 hb | exact st_4 hb | exact st_5 hb | exact st_o hb2 | exact st_1 hb2 | exact st_2 hb2 | exact st_3 hb2 | exact st_4 hb2 | exact st_5 hb2) dX11_street_8 ⟨rfl, rfl⟩ (ok_readsS h.g) rfl rfl rfl (fun r M1 hq => ?_)
  obtain ⟨f, k, z, rfl, ⟨rfl, t, ht, hs⟩ | ⟨rfl, hn⟩⟩ := hq
  try simp only [rV, Option.toList, List.cons_append, List.nil_append]
  · obtain ⟨hI, e2, e3, e4, e5, h6, hk, hz⟩ := hs
    obtain ⟨hw1, hw2, hw3⟩ := ht.2
    have hR : 2 ≤ t.1 + 1 ∧ t.1 + 1 ≤ 5 := ⟨by omega, by have := hI.1; omega⟩
    have hW : 2 ≤ t.2.1 ∧ t.2.1 ≤ 6 := by
      rcases hI.2.1 with ⟨a, b, c⟩ | ⟨a, b, c, d⟩
      · omega
      · exact ⟨b, c⟩
    have hn : txN t = (t.1 + 1) * t.2.1 := by unfold txN; rw [hw3, Nat.add_mul, Nat.one_mul]
    have hn30 : (t.1 + 1) * t.2.1 ≤ 30 := by rw [← hn]; exact hI.n
    have hpos : 0 < (t.1 + 1) * t.2.1 := Nat.mul_pos (by omega) (by omega)
    refine g_ifne 17 14 rfl dX11_street_11 (by decide) (fun _ => ?_) (fun h => absurd h (by decide))
    refine g_aload0 18 rfl dX11_street_17 ?_
    refine g_getR 21 rfl fX11_36 (by first | rfl | exact st_o hb | exact st_1 hb | exact st_2 hb | exact st_3 hb | exact st_4 hb | exact st_5 hb | exact st_o hb2 | exact st_1 hb2 | exact st_2 hb2 | exact st_3 hb2 | exact st_4 hb2 | exact st_5 hb2) rfl dX11_street_18 ?_
    refine g_aload0 22 rfl dX11_street_21 ?_
    refine g_getR 25 rfl fX11_19 (by first | rfl | exact st_o hb | exact st_1 hb | exact st_2 hb | exact st_3 hb | exact st_4 hb | exact st_5 hb | exact st_o hb2 | exact st_1 hb2 | exact st_2 hb2 | exact st_3 hb2 | exact st_4 hb2 | exact st_5 hb2) rfl dX11_street_22 ?_
    refine g_getI 28 rfl fX11_130 (by first | rfl | exact st_o hb | exact st_1 hb | exact st_2 hb | exact st_3 hb | exact st_4 hb | exact st_5 hb | exact st_o hb2 | exact st_1 hb2 | exact st_2 hb2 | exact st_3 hb2 | exact st_4 hb2 | exact st_5 hb2) rfl dX11_street_25 ?_
    try simp only [st3_3, e2, e3]
    refine g_iconst 29 rfl (v := 1) dX11_street_28 (by decide) ?_
    refine g_iadd 30 rfl dX11_street_29 ?_
    refine g_aload0 31 rfl dX11_street_30 ?_
    refine g_getR 34 rfl fX11_19 (by first | rfl | exact st_o hb | exact st_1 hb | exact st_2 hb | exact st_3 hb | exact st_4 hb | exact st_5 hb | exact st_o hb2 | exact st_1 hb2 | exact st_2 hb2 | exact st_3 hb2 | exact st_4 hb2 | exact st_5 hb2) rfl dX11_street_31 ?_
    refine g_getI 37 rfl fX11_133 (by first | rfl | exact st_o hb | exact st_1 hb | exact st_2 hb | exact st_3 hb | exact st_4 hb | exact st_5 hb | exact st_o hb2 | exact st_1 hb2 | exact st_2 hb2 | exact st_3 hb2 | exact st_4 hb2 | exact st_5 hb2) rfl dX11_street_34 ?_
    try simp only [st3_3, e2, e3]
    rw [nI_1]
    refine g_callV 40 2 rfl kX11_136 (by first | rfl | exact st_o hb | exact st_1 hb | exact st_2 hb | exact st_3 hb | exact st_4 hb | exact st_5 hb | exact st_o hb2 | exact st_1 hb2 | exact st_2 hb2 | exact st_3 hb2 | exact st_4 hb2 | exact st_5 hb2) dX11_street_37 ⟨rfl, rfl⟩ (ok_X4_draw hR hW) rfl rfl rfl (fun r M1 hq => ?_)
    obtain ⟨rfl, F, G2, A2, rfl, hP⟩ := hq
    try simp only [rV, Option.toList, List.cons_append, List.nil_append]
    generalize hN : setA (setA (setA (ST3 M f k z) 12 F) 13 G2) 14 A2 = N at hP ⊢
    have eN : ∀ q, q ≠ 12 → q ≠ 13 → q ≠ 14 → N.1 q = (ST3 M f k z).1 q := fun q a b c => by rw [← hN, sA_n c, sA_n b, sA_n a]
    have eM : ∀ q, q ≠ 3 → q ≠ 4 → q ≠ 5 → q ≠ 12 → q ≠ 13 → q ≠ 14 → N.1 q = M.1 q := fun q a b c d e f => by rw [eN q d e f, st3_n a b c]
    have hv := ok_X7_pave (l := l) (x := vC N 15) hP
    rw [pC_vC] at hv
    have e14 : ∀ y, (pC N 15 y).1 0 = M.1 0 := fun y => by rw [pC_o (by decide)]; exact eM 0 (by decide) (by decide) (by decide) (by decide) (by decide) (by decide)
    have e14' : M.1 0 14 = nI (gS g) := h.2.2.2.2.2.1
    have e1 : ∀ y, (pC N 15 y).1 1 = M.1 1 := fun y => by rw [pC_o (by decide)]; exact eM 1 (by decide) (by decide) (by decide) (by decide) (by decide) (by decide)
    refine g_aload0 41 rfl dX11_street_40 ?_
    refine g_getR 44 rfl fX11_45 (by first | rfl | exact st_o hb | exact st_1 hb | exact st_2 hb | exact st_3 hb | exact st_4 hb | exact st_5 hb | exact st_o hb2 | exact st_1 hb2 | exact st_2 hb2 | exact st_3 hb2 | exact st_4 hb2 | exact st_5 hb2) rfl dX11_street_41 ?_
    refine g_aload0 45 rfl dX11_street_44 ?_
    refine g_getR 48 rfl fX11_19 (by first | rfl | exact st_o hb | exact st_1 hb | exact st_2 hb | exact st_3 hb | exact st_4 hb | exact st_5 hb | exact st_o hb2 | exact st_1 hb2 | exact st_2 hb2 | exact st_3 hb2 | exact st_4 hb2 | exact st_5 hb2) rfl dX11_street_45 ?_
    refine g_callVv 51 1 rfl kX11_140 (by first | rfl | exact st_o hb | exact st_1 hb | exact st_2 hb | exact st_3 hb | exact st_4 hb | exact st_5 hb | exact st_o hb2 | exact st_1 hb2 | exact st_2 hb2 | exact st_3 hb2 | exact st_4 hb2 | exact st_5 hb2) dX11_street_48 ⟨rfl, rfl⟩ hv rfl rfl rfl ?_
    refine g_aload0 52 rfl dX11_street_51 ?_
    refine g_dup 53 rfl dX11_street_52 rfl ?_
    refine g_getI 56 rfl fX11_96 (by first | rfl | exact st_o hb | exact st_1 hb | exact st_2 hb | exact st_3 hb | exact st_4 hb | exact st_5 hb | exact st_o hb2 | exact st_1 hb2 | exact st_2 hb2 | exact st_3 hb2 | exact st_4 hb2 | exact st_5 hb2) rfl dX11_street_53 ?_
    try simp only [e14, e14']
    refine g_iconst 57 rfl (v := 1) dX11_street_56 (by decide) ?_
    refine g_iadd 58 rfl dX11_street_57 ?_
    refine g_putI 61 rfl fX11_96 (by first | rfl | exact st_o hb | exact st_1 hb | exact st_2 hb | exact st_3 hb | exact st_4 hb | exact st_5 hb | exact st_o hb2 | exact st_1 hb2 | exact st_2 hb2 | exact st_3 hb2 | exact st_4 hb2 | exact st_5 hb2) rfl dX11_street_58 ?_
    try simp only [e14, e14']
    generalize hy : itN (pvB (N.1 4) (N.1 5)) ((t.1 + 1) * t.2.1) (vC N 15) = y
    refine g_aload0 62 rfl dX11_street_61 ?_
    refine g_getR 65 rfl fX11_12 (by first | rfl | exact st_o hb | exact st_1 hb | exact st_2 hb | exact st_3 hb | exact st_4 hb | exact st_5 hb | exact st_o hb2 | exact st_1 hb2 | exact st_2 hb2 | exact st_3 hb2 | exact st_4 hb2 | exact st_5 hb2) rfl dX11_street_62 ?_
    refine g_iconst 66 rfl (v := 0) dX11_street_65 (by decide) ?_
    refine g_putI 69 rfl fX11_110 (by first | rfl | exact st_o hb | exact st_1 hb | exact st_2 hb | exact st_3 hb | exact st_4 hb | exact st_5 hb | exact st_o hb2 | exact st_1 hb2 | exact st_2 hb2 | exact st_3 hb2 | exact st_4 hb2 | exact st_5 hb2) rfl dX11_street_66 ?_
    try simp only [e14, e14']
    have ec : (setA (setA (pC N 15 y) 0 (upd (M.1 0) 14 (nI (gS g) + 1))) 1 (upd ((setA (pC N 15 y) 0 (upd (M.1 0) 14 (nI (gS g) + 1))).1 1) 1 0)).1 12 4 = nI ((t.1 + 1) * t.2.1) := by rw [sA_n (by decide), sA_n (by decide)]; exact (pC_plan (x := y) hb hP).2.2.2.1
    refine g_aload0 70 rfl dX11_street_69 ?_
    refine g_getR 73 rfl fX11_36 (by first | rfl | exact st_o hb | exact st_1 hb | exact st_2 hb | exact st_3 hb | exact st_4 hb | exact st_5 hb | exact st_o hb2 | exact st_1 hb2 | exact st_2 hb2 | exact st_3 hb2 | exact st_4 hb2 | exact st_5 hb2) rfl dX11_street_70 ?_
    refine g_getI 76 rfl fX11_144 (by first | rfl | exact st_o hb | exact st_1 hb | exact st_2 hb | exact st_3 hb | exact st_4 hb | exact st_5 hb | exact st_o hb2 | exact st_1 hb2 | exact st_2 hb2 | exact st_3 hb2 | exact st_4 hb2 | exact st_5 hb2) rfl dX11_street_73 ?_
    try simp only [ec]
    refine g_iret rfl dX11_street_76 ?_
    have hc : fStreet g = (nI ((t.1 + 1) * t.2.1), sgN g (t.1 + 1) t.2.1 (paS (gX g) t)) := by rw [fStreet, ifC_t ⟨t, ht⟩, ht.1]
    rw [hc]
    refine ⟨rfl, ?_⟩
    obtain ⟨h1, h2, h3, h4, h5, h6', h7, h8, h9, h10⟩ := h
    have r4 : N.1 4 = k := by rw [eN 4 (by decide) (by decide) (by decide), st3_4]
    have r5 : N.1 5 = z := by rw [eN 5 (by decide) (by decide) (by decide), st3_5]
    have hx := pv_E (K := N.1 4) (Z := N.1 5) ((t.1 + 1) * t.2.1) (vC N 15)
    rw [hy, r4, r5] at hx
    have eZ : ∀ q, q ≠ 0 → q ≠ 1 → (setA (setA (pC N 15 y) 0 (upd (M.1 0) 14 (nI (gS g) + 1))) 1 (upd ((setA (pC N 15 y) 0 (upd (M.1 0) 14 (nI (gS g) + 1))).1 1) 1 0)).1 q = (pC N 15 y).1 q := fun q a b => by rw [sA_n b, sA_n a]
    have z0 : (setA (setA (pC N 15 y) 0 (upd (M.1 0) 14 (nI (gS g) + 1))) 1 (upd ((setA (pC N 15 y) 0 (upd (M.1 0) 14 (nI (gS g) + 1))).1 1) 1 0)).1 0 = upd (M.1 0) 14 (nI (gS g) + 1) := by rw [sA_n (by decide), sA_s]
    have z1 : (setA (setA (pC N 15 y) 0 (upd (M.1 0) 14 (nI (gS g) + 1))) 1 (upd ((setA (pC N 15 y) 0 (upd (M.1 0) 14 (nI (gS g) + 1))).1 1) 1 0)).1 1 1 = 0 := by rw [sA_s, upd_at]
    generalize setA (setA (pC N 15 y) 0 (upd (M.1 0) 14 (nI (gS g) + 1))) 1 (upd ((setA (pC N 15 y) 0 (upd (M.1 0) 14 (nI (gS g) + 1))).1 1) 1 0) = Z at eZ z0 z1
    have v15 : vC Z 15 = y := by
      rw [show vC Z 15 = vC (pC N 15 y) 15 from by unfold vC; rw [eZ (15 + 1) (by omega) (by omega), eZ (15 + 2) (by omega) (by omega), eZ (15 + 3) (by omega) (by omega), eZ (15 + 4) (by omega) (by omega), eZ (15 + 5) (by omega) (by omega), eZ 15 (by omega) (by omega)], vC_pC]
    have eO : ∀ q, q ≠ 0 → q ≠ 1 → q ≠ 3 → q ≠ 4 → q ≠ 5 → (q < 12 ∨ (20 < q)) → Z.1 q = M.1 q := fun q a b c d e f => by rw [eZ q a b, pC_o (by omega), eM q c d e (by omega) (by omega) (by omega)]
    refine ⟨?_, ?_, ⟨Nat.zero_le _, by rw [z1]; rfl, fun i hi => absurd hi (by show ¬ i < 0; omega)⟩, ?_, ?_, ?_, ?_, ?_, ?_, ?_⟩
    · show Plan Z (t.1 + 1) t.2.1
      unfold Plan
      rw [eZ 12 (by decide) (by decide), eZ 13 (by decide) (by decide), eZ 14 (by decide) (by decide)]
      exact pC_plan (x := y) hb hP
    · show sxE ((t.1 + 1) * t.2.1) (vC Z 15) (paS (gX g) t)
      rw [v15]
      refine ⟨fun c hc => (hx.1 c hc).trans (hk c (by rw [hn]; exact hc)), fun c hc => (hx.2.1 c hc).trans (hz c (by rw [hn]; exact hc)), fun c hc => ?_, hx.2.2.2.1, hx.2.2.2.2.1, ?_⟩
      · rw [hx.2.2.1 c hc]
        show (if k c = -1 then (-5 : Int32) else 0) = if t.2.2.2.2.1 c = -1 then -5 else 0
        rw [hk c (by rw [hn]; exact hc)]
      · rw [hx.2.2.2.2.2]
        show N.1 15 6 = sD (gX g)
        rw [eM 15 (by decide) (by decide) (by decide) (by decide) (by decide) (by decide)]
        exact h2.D
    · show Crt Z 9 (gK g)
      unfold Crt; rw [eO 9 (by decide) (by decide) (by decide) (by decide) (by decide) (by omega), eO (9 + 1) (by decide) (by decide) (by decide) (by decide) (by decide) (by omega), eO (9 + 2) (by decide) (by decide) (by decide) (by decide) (by decide) (by omega)]; exact h4
    · show Hp Z (gM g) (gZ g)
      unfold Hp; rw [eO 42 (by decide) (by decide) (by decide) (by decide) (by decide) (by omega), eO 43 (by decide) (by decide) (by decide) (by decide) (by decide) (by omega), eO 44 (by decide) (by decide) (by decide) (by decide) (by decide) (by omega)]; exact h5
    · rw [z0, upd_at, nI_1]; rfl
    · rw [z0, pk_un (by decide)]; exact h7
    · intro a b
      exfalso
      have b : gI g = gS g + 1 := b
      have := h10.2.2.1
      omega
    · rw [z0, pk_un (by decide)]; exact h9
    · refine ⟨⟨fun _ => Nat.succ_pos _, fun _ => hpos⟩, ?_, ?_, h10.2.2.2⟩
      · show gS g + 1 < 1000000
        omega
      · show gI g ≤ gS g + 1
        have := h10.2.2.1
        omega
  · refine g_ifne 17 14 rfl dX11_street_11 (by decide) (fun h => absurd rfl h) (fun _ => ?_)
    refine g_bipush 16 rfl (v := (-103)) dX11_street_14 (by decide) ?_
    refine g_iret rfl dX11_street_16 ?_
    rw [fStreet, ifC_f hn]
    exact ⟨rfl, h.st3⟩
