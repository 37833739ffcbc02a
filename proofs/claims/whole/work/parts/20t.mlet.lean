/-! the reference's calls: texts -/
theorem m255 : ∀ k, k < 32 → (255 : Int64).toBitVec.getLsbD k = decide (k < 8) := by decide
theorem n255 : ∀ k, k < 32 → (255 : Int32).toBitVec.getLsbD k = decide (k < 8) := by decide
theorem bt_l (w a : Int64) {k : Nat} (hk : k < 32) : ((w >>> a) &&& 255).toInt32.toBitVec.getLsbD k = ((w >>> a).toBitVec.getLsbD k && decide (k < 8)) := by
  show ((((w >>> a).toBitVec &&& (255 : Int64).toBitVec).signExtend 32).getLsbD k) = _
  rw [BitVec.getLsbD_signExtend, if_pos (show k < 64 by omega), decide_eq_true hk, Bool.true_and, BitVec.getLsbD_and, m255 k hk]
theorem bt_u (w : Int64) (b : UInt64) {k : Nat} (hk : k < 32) : ((w.toUInt64 >>> b).toInt64.toInt32 &&& 255).toBitVec.getLsbD k = ((w.toUInt64 >>> b).toBitVec.getLsbD k && decide (k < 8)) := by
  show ((((w.toUInt64 >>> b).toBitVec.signExtend 32) &&& (255 : Int32).toBitVec).getLsbD k) = _
  rw [BitVec.getLsbD_and, BitVec.getLsbD_signExtend, if_pos (show k < 64 by omega), decide_eq_true hk, Bool.true_and, n255 k hk]
theorem bt_s (w a : Int64) (b : UInt64) (n : Nat) (hn : n ≤ 56) (ha : (a.toBitVec.smod 64).toNat = n) (hb : (b.toBitVec % 64).toNat = n) {k : Nat} (hk : k < 8) : (w >>> a).toBitVec.getLsbD k = (w.toUInt64 >>> b).toBitVec.getLsbD k := by
  show (BitVec.sshiftRight w.toBitVec (a.toBitVec.smod 64).toNat).getLsbD k = (w.toBitVec >>> (b.toBitVec % 64).toNat).getLsbD k
  rw [ha, hb, BitVec.getLsbD_sshiftRight, BitVec.getLsbD_ushiftRight, if_pos (by omega), decide_eq_false (by omega)]
  rfl
theorem bt_e (w a : Int64) (b : UInt64) (n : Nat) (hn : n ≤ 56) (ha : (a.toBitVec.smod 64).toNat = n) (hb : (b.toBitVec % 64).toNat = n) : ((w >>> a) &&& 255).toInt32 = (w.toUInt64 >>> b).toInt64.toInt32 &&& 255 := by
  apply Int32.toBitVec_inj.mp
  apply BitVec.eq_of_getLsbD_eq
  intro k hk
  rw [bt_l w a hk, bt_u w b hk]
  by_cases h8 : k < 8
  · rw [bt_s w a b n hn ha hb h8]
  · rw [decide_eq_false h8, Bool.and_false, Bool.and_false]
theorem byt_r (w : Int64) {i : Nat} (hi : i < 8) : ((w >>> ((8 * nI i).toInt64 &&& 63)) &&& 255).toInt32 = byt w i := by
  rcases (show i = 0 ∨ i = 1 ∨ i = 2 ∨ i = 3 ∨ i = 4 ∨ i = 5 ∨ i = 6 ∨ i = 7 by omega) with rfl | rfl | rfl | rfl | rfl | rfl | rfl | rfl
  · exact bt_e w _ _ 0 (by decide) (by decide) (by decide)
  · exact bt_e w _ _ 8 (by decide) (by decide) (by decide)
  · exact bt_e w _ _ 16 (by decide) (by decide) (by decide)
  · exact bt_e w _ _ 24 (by decide) (by decide) (by decide)
  · exact bt_e w _ _ 32 (by decide) (by decide) (by decide)
  · exact bt_e w _ _ 40 (by decide) (by decide) (by decide)
  · exact bt_e w _ _ 48 (by decide) (by decide) (by decide)
  · exact bt_e w _ _ 56 (by decide) (by decide) (by decide)
theorem bt_7 (x : Int32) (h : ¬ 126 < x &&& 255) : (x &&& 255).toBitVec.getLsbD 7 = false := by
  rw [pk_and x 8 (by decide)] at h ⊢
  have h1 : x.toBitVec.toNat % 2 ^ 8 < 256 := Nat.mod_lt _ (by decide)
  generalize x.toBitVec.toNat % 2 ^ 8 = j at h h1 ⊢
  have h2 : j ≤ 126 := Nat.le_of_not_lt (fun z => h (nI_lt (a := 126) z (by omega)))
  show (nI j).toBitVec.toNat.testBit 7 = false
  rw [pk_tn (by omega)]
  exact Nat.testBit_lt_two_pow (by omega)
theorem byt_b (w : Int64) {i : Nat} (hi : i < 8) (h : ¬ 126 < byt w i) : (w >>> ((8 * nI i).toInt64 &&& 63)).toInt32.toInt8.toInt32 = byt w i := by
  have h7 : (byt w i).toBitVec.getLsbD 7 = false := bt_7 _ h
  rw [← byt_r w hi] at h7 ⊢
  generalize (8 * nI i).toInt64 &&& 63 = a at h7 ⊢
  rw [bt_l w a (by decide), decide_eq_true (by decide), Bool.and_true] at h7
  apply Int32.toBitVec_inj.mp
  apply BitVec.eq_of_getLsbD_eq
  intro k hk
  rw [bt_l w a hk]
  show ((((w >>> a).toBitVec.signExtend 32).signExtend 8).signExtend 32).getLsbD k = _
  rw [BitVec.getLsbD_signExtend, decide_eq_true hk, Bool.true_and]
  by_cases h8 : k < 8
  · rw [if_pos h8, BitVec.getLsbD_signExtend, decide_eq_true h8, Bool.true_and, if_pos (show k < 32 by omega), BitVec.getLsbD_signExtend, decide_eq_true hk, Bool.true_and, if_pos (show k < 64 by omega), Bool.and_true]
  · rw [if_neg h8, decide_eq_false h8, Bool.and_false, BitVec.msb_eq_getLsbD_last, BitVec.getLsbD_signExtend, decide_eq_true (by decide), Bool.true_and, if_pos (by decide), BitVec.getLsbD_signExtend, decide_eq_true (by decide), Bool.true_and, if_pos (by decide)]
    exact h7
theorem MR.pgm {g : Sg} {N : Mm} {x : Sx} (h : MR g N) : PgM (pM N x) (gL g) (gP g) := by
  unfold PgM
  rw [pM_0, pM_h9]
  exact h.2.1
theorem rt3_pM {N : Mm} {x : Sx} {f k z : Nat → Int32} : RT3 (pM N x) f k z = pM (RT3 N f k z) x := by unfold RT3; rw [pM_wo (Or.inl rfl), pM_wo (Or.inr (by decide)), pM_wo (Or.inr (by decide))]
theorem rc3_pM {N : Mm} {x : Sx} {f k z : Nat → Int32} : RC3 (pM N x) f k z = pM (RC3 N f k z) x := by unfold RC3; rw [pM_wo (Or.inl rfl), pM_wo (Or.inr (by decide)), pM_wo (Or.inr (by decide))]
theorem rt3_kp {N : Mm} {f k z : Nat → Int32} (hf : ∀ q, q ≤ 22 → f q = N.1 0 q) : kpM N (RT3 N f k z) := ⟨fun q a => by rw [rt3_0]; exact hf q a, fun h a b => rt3_n (by omega) (by omega) (by omega), rfl⟩
theorem rc3_kp {N : Mm} {f k z : Nat → Int32} (hf : ∀ q, q ≤ 22 → f q = N.1 0 q) : kpM N (RC3 N f k z) := ⟨fun q a => by rw [rc3_0]; exact hf q a, fun h a b => rc3_n (by omega) (by omega) (by omega), rfl⟩
theorem mub_fault {l : Launch} {M : Mm} {g : Sg} {q : Int32} (h : MS g M) : Ok GM l mX12_fault [.ref 0, .int q] M (qM (fFault g q)) := by
  obtain ⟨N, x, rfl, hx, hr⟩ := h
  have hp := hr.pgm (x := x)
  refine ok_of (by decide +kernel) rfl rfl ?_
  refine g_iload1 1 rfl dX12_fault_0 ?_
  refine g_iconst 2 rfl (v := 0) dX12_fault_1 (by decide) ?_
  refine g_iconst 3 rfl (v := 1) dX12_fault_2 (by decide) ?_
  refine g_callS 6 3 rfl kX12_78 dX12_fault_3 ⟨rfl, rfl⟩ om_within rfl rfl rfl (fun r M1 hq => ?_)
  obtain ⟨rfl, ⟨rfl, hq⟩ | ⟨rfl, hq⟩⟩ := hq
  try simp only [rV, Option.toList, List.cons_append, List.nil_append]
  · refine g_ifne 12 9 rfl dX12_fault_6 (by decide) (fun _ => ?_) (fun h => absurd h (by decide))
    refine g_iload1 13 rfl dX12_fault_12 ?_
    refine g_ifne 23 16 rfl dX12_fault_13 (by decide) (fun h13 => ?_) (fun h13 => ?_)
    · have q1 : q = 1 := (q01.mp hq).resolve_left h13
      refine g_aload0 24 rfl dX12_fault_23 ?_
      refine g_callV 27 0 rfl kX12_122 (by first | rfl | exact st_o hb | exact st_1 hb | exact st_2 hb | exact st_3 hb | exact st_4 hb | exact st_5 hb | exact st_o hb2 | exact st_1 hb2 | exact st_2 hb2 | exact st_3 hb2 | exact st_4 hb2 | exact st_5 hb2) dX12_fault_24 ⟨rfl, rfl⟩ (om_readCarts hp) rfl rfl rfl (fun r M1 hq => ?_)
      obtain ⟨rfl, f, k, z, rfl, hf, h23, hs⟩ := hq
      try simp only [rV, Option.toList, List.cons_append, List.nil_append]
      refine g_aload0 28 rfl dX12_fault_27 ?_
      refine g_getI 31 rfl fX12_103 (by first | rfl | exact st_o hb | exact st_1 hb | exact st_2 hb | exact st_3 hb | exact st_4 hb | exact st_5 hb | exact st_o hb2 | exact st_1 hb2 | exact st_2 hb2 | exact st_3 hb2 | exact st_4 hb2 | exact st_5 hb2) rfl dX12_fault_28 ?_
      refine g_iret rfl dX12_fault_31 ?_
      rw [pM_0] at hf
      rw [fFault, ifC_f h13, ifC_t q1]
      exact ⟨by rw [rc3_0, h23], _, x, rc3_pM, hx, hr.fr (rc3_kp hf)⟩
    · refine g_aload0 17 rfl dX12_fault_16 ?_
      refine g_callV 20 0 rfl kX12_119 (by first | rfl | exact st_o hb | exact st_1 hb | exact st_2 hb | exact st_3 hb | exact st_4 hb | exact st_5 hb | exact st_o hb2 | exact st_1 hb2 | exact st_2 hb2 | exact st_3 hb2 | exact st_4 hb2 | exact st_5 hb2) dX12_fault_17 ⟨rfl, rfl⟩ (om_readStreet hp) rfl rfl rfl (fun r M1 hq => ?_)
      obtain ⟨rfl, f, k, z, rfl, hf, h23, hs⟩ := hq
      try simp only [rV, Option.toList, List.cons_append, List.nil_append]
      refine g_goto 27 dX12_fault_20 (by decide) ?_
      refine g_aload0 28 rfl dX12_fault_27 ?_
      refine g_getI 31 rfl fX12_103 (by first | rfl | exact st_o hb | exact st_1 hb | exact st_2 hb | exact st_3 hb | exact st_4 hb | exact st_5 hb | exact st_o hb2 | exact st_1 hb2 | exact st_2 hb2 | exact st_3 hb2 | exact st_4 hb2 | exact st_5 hb2) rfl dX12_fault_28 ?_
      refine g_iret rfl dX12_fault_31 ?_
      rw [pM_0] at hf
      rw [fFault, ifC_t h13]
      exact ⟨by rw [rt3_0, h23], _, x, rt3_pM, hx, hr.fr (rt3_kp hf)⟩
  · refine g_ifne 12 9 rfl dX12_fault_6 (by decide) (fun h => absurd rfl h) (fun _ => ?_)
    refine g_bipush 11 rfl (v := (-102)) dX12_fault_9 (by decide) ?_
    refine g_iret rfl dX12_fault_11 ?_
    rw [fFault, ifC_f (fun z => hq (q01.mpr (Or.inl z))), ifC_f (fun z => hq (q01.mpr (Or.inr z)))]
    exact ⟨rfl, N, x, rfl, hx, hr⟩
theorem litN_ok {w : Int64} : ∀ n m, litN w n = some m → ∀ i, i < n → ¬ 126 < byt w i
  | 0, _, _ => fun i hi => absurd hi (by omega)
  | n + 1, m, h => by
    rw [litN] at h
    cases hl : litN w n with
    | none => rw [hl] at h; cases h
    | some k =>
      rw [hl] at h
      have ih := litN_ok n k hl
      dsimp only at h
      by_cases h1 : 126 < byt w n ∨ (¬ byt w n = 0 ∧ k < n)
      · rw [ifC_t h1] at h; cases h
      · intro i hi
        by_cases e : i = n
        · subst e; exact fun z => h1 (Or.inl z)
        · exact ih i (by omega)
theorem mub_letters {l : Launch} {M : Mm} {g : Sg} {w : Int64} (h : MS g M) : Ok GM l mX12_letters [.ref 0, .long w] M (qM (fLetters g w)) := by
  obtain ⟨N, x, rfl, hx, hr⟩ := h
  have hL := hr.2.1.1
  have e15 := hr.2.1.2.1
  have e9 := hr.2.1.2.2
  refine ok_of (by decide +kernel) rfl rfl ?_
  have bad : litN w 8 = none → ∀ v3 v4 v5 v6, Go GM l mX12_letters 46 [.ref 0, .long w, .null, v3, v4, v5, v6] [] (pM N x) (qM (fLetters g w)) := by
    intro hn v3 v4 v5 v6
    refine g_bipush 48 rfl (v := (-102)) dX12_letters_46 (by decide) ?_
    refine g_iret rfl dX12_letters_48 ?_
    rw [fLetters, hn]
    exact ⟨rfl, N, x, rfl, hx, hr⟩
  have good : ∀ m, litN w 8 = some m → ∀ e4 : Int32, Go GM l mX12_letters 85 [.ref 0, .long w, .null, .int (nI m), .int e4, .int (nI 8), .null] [] (pM N x) (qM (fLetters g w)) := by
    intro m hm e4
    have hm8 := litN_le 8 m hm
    have hok := litN_ok 8 m hm
    refine g_aload0 86 rfl dX12_letters_85 ?_
    refine g_getI 89 rfl fX12_74 (by first | rfl | exact st_o hb | exact st_1 hb | exact st_2 hb | exact st_3 hb | exact st_4 hb | exact st_5 hb | exact st_o hb2 | exact st_1 hb2 | exact st_2 hb2 | exact st_3 hb2 | exact st_4 hb2 | exact st_5 hb2) rfl dX12_letters_86 ?_
    try simp only [pM_0, e15]
    refine g_iload3 90 rfl dX12_letters_89 ?_
    refine g_iadd 91 rfl dX12_letters_90 ?_
    rw [nI_add]
    refine g_bipush 93 rfl (v := 64) dX12_letters_91 (by decide) ?_
    refine g_cmple 99 96 rfl dX12_letters_93 (by decide) (fun h93 => ?_) (fun h93 => ?_)
    · have hle : ¬ 64 < gL g + m := fun q => absurd h93 (nI_ge (a := 64) q (by omega))
      have s90 : ∀ e, (setA N 9 e).1 0 = N.1 0 := fun e => sA_n (by decide)
      have r9 : ∀ e, (pM (setA N 9 e) x).1 9 = e := fun e => by rw [pM_h9, sA_s]
      have w9 : ∀ e u, setA (pM (setA N 9 e) x) 9 u = pM (setA N 9 u) x := fun e u => by rw [pM_wo (Or.inr (by decide)), sA_sA]
      refine g_mem (pM (setA N 9 (N.1 9)) x) (by rw [sA_id]) ?_
      refine g_iconst 100 rfl (v := 0) dX12_letters_99 (by decide) ?_
      refine g_istore5 102 rfl dX12_letters_100 rfl rfl ?_
      refine loop_up (P := fun i => ∀ e, (∀ j, j < gL g + i → e j = appN w (gL g) (gP g) i j) → Go GM l mX12_letters 102 [.ref 0, .long w, .null, .int (nI m), .int e4, .int (nI i), .null] [] (pM (setA N 9 e) x) (qM (fLetters g w))) m ?_ ?_ 0 (Nat.zero_le _) (N.1 9) (fun j hj => e9 j hj)
      · intro e he
        refine g_iload5 104 rfl dX12_letters_102 ?_
        refine g_iload3 105 rfl dX12_letters_104 ?_
        refine g_cmpge 135 108 rfl dX12_letters_105 (by decide) (fun _ => ?_) (fun h => absurd (Int32.le_refl _) h)
        refine g_aload0 136 rfl dX12_letters_135 ?_
        refine g_dup 137 rfl dX12_letters_136 rfl ?_
        refine g_getI 140 rfl fX12_74 (by first | rfl | exact st_o hb | exact st_1 hb | exact st_2 hb | exact st_3 hb | exact st_4 hb | exact st_5 hb | exact st_o hb2 | exact st_1 hb2 | exact st_2 hb2 | exact st_3 hb2 | exact st_4 hb2 | exact st_5 hb2) rfl dX12_letters_137 ?_
        try simp only [pM_0, s90, e15, pM_w0, sA_s, upd_at]
        refine g_iload3 141 rfl dX12_letters_140 ?_
        refine g_iadd 142 rfl dX12_letters_141 ?_
        rw [nI_add]
        refine g_putI 145 rfl fX12_74 (by first | rfl | exact st_o hb | exact st_1 hb | exact st_2 hb | exact st_3 hb | exact st_4 hb | exact st_5 hb | exact st_o hb2 | exact st_1 hb2 | exact st_2 hb2 | exact st_3 hb2 | exact st_4 hb2 | exact st_5 hb2) rfl dX12_letters_142 ?_
        try simp only [pM_0, s90, e15, pM_w0, sA_s, upd_at]
        refine g_aload0 146 rfl dX12_letters_145 ?_
        refine g_getI 149 rfl fX12_74 (by first | rfl | exact st_o hb | exact st_1 hb | exact st_2 hb | exact st_3 hb | exact st_4 hb | exact st_5 hb | exact st_o hb2 | exact st_1 hb2 | exact st_2 hb2 | exact st_3 hb2 | exact st_4 hb2 | exact st_5 hb2) rfl dX12_letters_146 ?_
        try simp only [pM_0, s90, e15, pM_w0, sA_s, upd_at]
        refine g_iret rfl dX12_letters_149 ?_
        rw [fLetters, hm]
        dsimp only
        rw [ifC_f hle]
        refine ⟨rfl, _, x, rfl, hx, hr.pg (by omega) ?_ ?_ ?_ ?_ ?_⟩
        · rw [sA_s, upd_at]
        · intro j hj
          rw [sA_n (by decide), sA_s]
          exact he j hj
        · intro q _ a
          rw [sA_s, pk_un a]
        · intro q a b c
          rw [sA_n (by omega), sA_n (by omega)]
        · rfl
      · intro i hi ih e he
        have hlt : gL g + i < 64 := by omega
        refine g_iload5 104 rfl dX12_letters_102 ?_
        refine g_iload3 105 rfl dX12_letters_104 ?_
        refine g_cmpge 135 108 rfl dX12_letters_105 (by decide) (fun h => absurd h (nI_ge hi (by omega))) (fun _ => ?_)
        refine g_aload0 109 rfl dX12_letters_108 ?_
        refine g_getR 112 rfl fX12_38 (by first | rfl | exact st_o hb | exact st_1 hb | exact st_2 hb | exact st_3 hb | exact st_4 hb | exact st_5 hb | exact st_o hb2 | exact st_1 hb2 | exact st_2 hb2 | exact st_3 hb2 | exact st_4 hb2 | exact st_5 hb2) rfl dX12_letters_109 ?_
        refine g_aload0 113 rfl dX12_letters_112 ?_
        refine g_getI 116 rfl fX12_74 (by first | rfl | exact st_o hb | exact st_1 hb | exact st_2 hb | exact st_3 hb | exact st_4 hb | exact st_5 hb | exact st_o hb2 | exact st_1 hb2 | exact st_2 hb2 | exact st_3 hb2 | exact st_4 hb2 | exact st_5 hb2) rfl dX12_letters_113 ?_
        try simp only [pM_0, s90, e15, r9, w9]
        refine g_iload5 118 rfl dX12_letters_116 ?_
        refine g_iadd 119 rfl dX12_letters_118 ?_
        rw [nI_add]
        refine g_lload1 120 rfl dX12_letters_119 ?_
        refine g_bipush 122 rfl (v := 8) dX12_letters_120 (by decide) ?_
        refine g_iload5 124 rfl dX12_letters_122 ?_
        refine g_imul 125 rfl dX12_letters_124 ?_
        refine g_lshr 126 rfl dX12_letters_125 ?_
        refine g_l2i 127 rfl dX12_letters_126 ?_
        refine g_i2b 128 rfl dX12_letters_127 ?_
        refine g_bast 129 rfl dX12_letters_128 (by first | rfl | exact st_o hb | exact st_1 hb | exact st_2 hb | exact st_3 hb | exact st_4 hb | exact st_5 hb | exact st_o hb2 | exact st_1 hb2 | exact st_2 hb2 | exact st_3 hb2 | exact st_4 hb2 | exact st_5 hb2) rfl rfl (by first | assumption | omega) ?_
        try simp only [pM_0, s90, e15, r9, w9]
        refine g_iinc5 132 rfl dX12_letters_129 rfl rfl _ (by first | exact iinc1 _ | exact iincx _ | rfl) ?_
        refine g_goto 102 dX12_letters_132 (by decide) ?_
        rw [pk_vb, byt_b w (by omega) (hok i (by omega))]
        refine ih _ (fun j hj => ?_)
        rw [appN]
        by_cases ej : j = gL g + i
        · rw [ej, upd_at, upd_at]
        · rw [pk_un ej, pk_un ej]
          exact he j (by omega)
    · have hgt : 64 < gL g + m := Nat.lt_of_not_le (fun q => h93 (nI_le (b := 64) q (by decide)))
      refine g_bipush 98 rfl (v := (-104)) dX12_letters_96 (by decide) ?_
      refine g_iret rfl dX12_letters_98 ?_
      rw [fLetters, hm]
      dsimp only
      rw [ifC_t hgt]
      exact ⟨rfl, N, x, rfl, hx, hr⟩
  refine g_iconst 1 rfl (v := 0) dX12_letters_0 (by decide) ?_
  refine g_istore3 2 rfl dX12_letters_1 rfl rfl ?_
  refine g_iconst 3 rfl (v := 0) dX12_letters_2 (by decide) ?_
  refine g_istore4 5 rfl dX12_letters_3 rfl rfl ?_
  refine g_iconst 6 rfl (v := 0) dX12_letters_5 (by decide) ?_
  refine g_istore5 8 rfl dX12_letters_6 rfl rfl ?_
  refine loop_up (P := fun i => ∀ m (e : Int32), litN w i = some m → ((m < i ∧ e = 1) ∨ (m = i ∧ e = 0)) → Go GM l mX12_letters 8 [.ref 0, .long w, .null, .int (nI m), .int e, .int (nI i), .null] [] (pM N x) (qM (fLetters g w))) 8 ?_ ?_ 0 (by omega) 0 0 rfl (Or.inr ⟨rfl, rfl⟩)
  · intro m e hm _
    refine g_iload5 10 rfl dX12_letters_8 ?_
    refine g_bipush 12 rfl (v := 8) dX12_letters_10 (by decide) ?_
    refine g_cmpge 85 15 rfl dX12_letters_12 (by decide) (fun _ => ?_) (fun h => absurd (by decide) h)
    exact good m hm e
  · intro i hi ih m e hm he
    have hmi := litN_le i m hm
    refine g_iload5 10 rfl dX12_letters_8 ?_
    refine g_bipush 12 rfl (v := 8) dX12_letters_10 (by decide) ?_
    refine g_cmpge 85 15 rfl dX12_letters_12 (by decide) (fun h => absurd h (nI_ge hi (by decide))) (fun _ => ?_)
    refine g_lload1 16 rfl dX12_letters_15 ?_
    refine g_bipush 18 rfl (v := 8) dX12_letters_16 (by decide) ?_
    refine g_iload5 20 rfl dX12_letters_18 ?_
    refine g_imul 21 rfl dX12_letters_20 ?_
    refine g_lshr 22 rfl dX12_letters_21 ?_
    refine g_ldc2 25 rfl dX12_letters_22 cX12_72 ?_
    refine g_land 26 rfl dX12_letters_25 ?_
    refine g_l2i 27 rfl dX12_letters_26 ?_
    refine g_top (byt w i) (byt_r w hi) ?_
    have no : (126 < byt w i ∨ (¬ byt w i = 0 ∧ m < i)) → litN w 8 = none := fun hc => by
      have : litN w (i + 1) = none := by rw [litN, hm]; exact ifC_t hc
      have h2 := litN_no this (8 - (i + 1))
      rwa [show i + 1 + (8 - (i + 1)) = 8 by omega] at h2
    refine g_istore6 29 rfl dX12_letters_27 rfl rfl ?_
    refine g_iload6 31 rfl dX12_letters_29 ?_
    refine g_bipush 33 rfl (v := 126) dX12_letters_31 (by decide) ?_
    refine g_cmpgt 46 36 rfl dX12_letters_33 (by decide) (fun h33 => bad (no (Or.inl h33)) _ _ _ _) (fun h33 => ?_)
    have zero : ¬ (126 < byt w i ∨ (¬ byt w i = 0 ∧ m < i)) → byt w i = 0 → Go GM l mX12_letters 59 [.ref 0, .long w, .null, .int (nI m), .int e, .int (nI i), .int (byt w i)] [] (pM N x) (qM (fLetters g w)) := by
      intro hc h0
      refine g_iconst 60 rfl (v := 1) dX12_letters_59 (by decide) ?_
      refine g_goto 64 dX12_letters_60 (by decide) ?_
      refine g_istore4 66 rfl dX12_letters_64 rfl rfl ?_
      refine g_iload3 67 rfl dX12_letters_66 ?_
      refine g_iload6 69 rfl dX12_letters_67 ?_
      refine g_ifne 76 72 rfl dX12_letters_69 (by decide) (fun h => absurd h0 h) (fun _ => ?_)
      refine g_iconst 73 rfl (v := 0) dX12_letters_72 (by decide) ?_
      refine g_goto 77 dX12_letters_73 (by decide) ?_
      refine g_iadd 78 rfl dX12_letters_77 ?_
      rw [Int32.add_zero]
      refine g_istore3 79 rfl dX12_letters_78 rfl rfl ?_
      refine g_iinc5 82 rfl dX12_letters_79 rfl rfl _ (by first | exact iinc1 _ | exact iincx _ | rfl) ?_
      refine g_goto 8 dX12_letters_82 (by decide) ?_
      refine g_fg 6 ?_
      exact ih m 1 (by rw [litN, hm]; dsimp only; rw [ifC_f hc, ifC_t h0]) (Or.inl ⟨by omega, rfl⟩)
    rcases he with ⟨hlt, rfl⟩ | ⟨heq, rfl⟩
    · refine g_iload4 38 rfl dX12_letters_36 ?_
      refine g_ifeq 49 41 rfl dX12_letters_38 (by decide) (fun h => absurd h (by decide)) (fun _ => ?_)
      refine g_iload6 43 rfl dX12_letters_41 ?_
      refine g_ifeq 49 46 rfl dX12_letters_43 (by decide) (fun h43 => ?_) (fun h43 => bad (no (Or.inr ⟨h43, hlt⟩)) _ _ _ _)
      refine g_iload4 51 rfl dX12_letters_49 ?_
      refine g_ifne 59 54 rfl dX12_letters_51 (by decide) (fun _ => ?_) (fun h => absurd h (by decide))
      exact zero (fun z => z.elim h33 (fun z => z.1 h43)) h43
    · have hc : ¬ (126 < byt w i ∨ (¬ byt w i = 0 ∧ m < i)) := fun z => z.elim h33 (fun z => by omega)
      refine g_iload4 38 rfl dX12_letters_36 ?_
      refine g_ifeq 49 41 rfl dX12_letters_38 (by decide) (fun _ => ?_) (fun h => absurd rfl h)
      refine g_iload4 51 rfl dX12_letters_49 ?_
      refine g_ifne 59 54 rfl dX12_letters_51 (by decide) (fun h => absurd rfl h) (fun _ => ?_)
      refine g_iload6 56 rfl dX12_letters_54 ?_
      refine g_ifne 63 59 rfl dX12_letters_56 (by decide) (fun h56 => ?_) (fun h56 => zero hc h56)
      refine g_iconst 64 rfl (v := 0) dX12_letters_63 (by decide) ?_
      refine g_istore4 66 rfl dX12_letters_64 rfl rfl ?_
      refine g_iload3 67 rfl dX12_letters_66 ?_
      refine g_iload6 69 rfl dX12_letters_67 ?_
      refine g_ifne 76 72 rfl dX12_letters_69 (by decide) (fun _ => ?_) (fun h => absurd h h56)
      refine g_iconst 77 rfl (v := 1) dX12_letters_76 (by decide) ?_
      refine g_iadd 78 rfl dX12_letters_77 ?_
      rw [nI_1]
      refine g_istore3 79 rfl dX12_letters_78 rfl rfl ?_
      refine g_iinc5 82 rfl dX12_letters_79 rfl rfl _ (by first | exact iinc1 _ | exact iincx _ | rfl) ?_
      refine g_goto 8 dX12_letters_82 (by decide) ?_
      refine g_fg 6 ?_
      exact ih (m + 1) 0 (by rw [litN, hm]; dsimp only; rw [ifC_f hc, ifC_f h56]) (Or.inr ⟨by omega, rfl⟩)
theorem mub_street {l : Launch} {M : Mm} {g : Sg} (h : MS g M) (hS : gS g < 999999) : Ok GM l mX12_street [.ref 0] M (qM (fStreet g)) := by
  obtain ⟨N, x, rfl, hx, hr⟩ := h
  refine ok_of (by decide +kernel) rfl rfl ?_
  refine g_aload0 1 rfl dX12_street_0 ?_
  refine g_callV 4 0 rfl kX12_119 (by first | rfl | exact st_o hb | exact st_1 hb | exact st_2 hb | exact st_3 hb | exact st_4 hb | exact st_5 hb | exact st_o hb2 | exact st_1 hb2 | exact st_2 hb2 | exact st_3 hb2 | exact st_4 hb2 | exact st_5 hb2) dX12_street_1 ⟨rfl, rfl⟩ (om_readStreet hr.pgm) rfl rfl rfl (fun r M1 hq => ?_)
  obtain ⟨rfl, f, k, z, rfl, hf, -, hs⟩ := hq
  try simp only [rV, Option.toList, List.cons_append, List.nil_append]
  rw [pM_0] at hf
  refine g_mem (pM (RT3 N f k z) x) rt3_pM ?_
  rcases hs with ⟨e24, t, ht, hI, e25, e26, e27, h28, hk, hz⟩ | ⟨e24, hno⟩
  · obtain ⟨hw1, hw2, hw3⟩ := ht.2
    have hR : 2 ≤ t.1 + 1 ∧ t.1 + 1 ≤ 5 := ⟨by omega, by have := hI.1; omega⟩
    have hW : 2 ≤ t.2.1 ∧ t.2.1 ≤ 6 := by
      rcases hI.2.1 with ⟨a, b, c⟩ | ⟨a, b, c, d⟩
      · omega
      · exact ⟨b, c⟩
    have hn : txN t = (t.1 + 1) * t.2.1 := by unfold txN; rw [hw3, Nat.add_mul, Nat.one_mul]
    have hn30 : (t.1 + 1) * t.2.1 ≤ 30 := by rw [← hn]; exact hI.n
    have hpos : 0 < (t.1 + 1) * t.2.1 := Nat.mul_pos (by omega) (by omega)
    have e26' : ∀ v, upd f 0 v 26 = nI t.2.1 := fun v => by rw [pk_un (by decide)]; exact e26
    have hc : fStreet g = (nI ((t.1 + 1) * t.2.1), sgN g (t.1 + 1) t.2.1 (paS (gX g) t)) := by rw [fStreet, ifC_t ⟨t, ht⟩, ht.1]
    rw [hc]
    refine g_aload0 5 rfl dX12_street_4 ?_
    refine g_getI 8 rfl fX12_106 (by first | rfl | exact st_o hb | exact st_1 hb | exact st_2 hb | exact st_3 hb | exact st_4 hb | exact st_5 hb | exact st_o hb2 | exact st_1 hb2 | exact st_2 hb2 | exact st_3 hb2 | exact st_4 hb2 | exact st_5 hb2) rfl dX12_street_5 ?_
    try simp only [pM_0, rt3_0, pM_w0, rt3_w0, e24, e25, e26']
    refine g_ifne 14 11 rfl dX12_street_8 (by decide) (fun _ => ?_) (fun h => absurd h (by decide))
    refine g_aload0 15 rfl dX12_street_14 ?_
    refine g_aload0 16 rfl dX12_street_15 ?_
    refine g_getI 19 rfl fX12_82 (by first | rfl | exact st_o hb | exact st_1 hb | exact st_2 hb | exact st_3 hb | exact st_4 hb | exact st_5 hb | exact st_o hb2 | exact st_1 hb2 | exact st_2 hb2 | exact st_3 hb2 | exact st_4 hb2 | exact st_5 hb2) rfl dX12_street_16 ?_
    try simp only [pM_0, rt3_0, pM_w0, rt3_w0, e24, e25, e26']
    refine g_iconst 20 rfl (v := 1) dX12_street_19 (by decide) ?_
    refine g_iadd 21 rfl dX12_street_20 ?_
    refine g_putI 24 rfl fX12_125 (by first | rfl | exact st_o hb | exact st_1 hb | exact st_2 hb | exact st_3 hb | exact st_4 hb | exact st_5 hb | exact st_o hb2 | exact st_1 hb2 | exact st_2 hb2 | exact st_3 hb2 | exact st_4 hb2 | exact st_5 hb2) rfl dX12_street_21 ?_
    try simp only [pM_0, rt3_0, pM_w0, rt3_w0, e24, e25, e26']
    refine g_aload0 25 rfl dX12_street_24 ?_
    refine g_aload0 26 rfl dX12_street_25 ?_
    refine g_getI 29 rfl fX12_85 (by first | rfl | exact st_o hb | exact st_1 hb | exact st_2 hb | exact st_3 hb | exact st_4 hb | exact st_5 hb | exact st_o hb2 | exact st_1 hb2 | exact st_2 hb2 | exact st_3 hb2 | exact st_4 hb2 | exact st_5 hb2) rfl dX12_street_26 ?_
    try simp only [pM_0, rt3_0, pM_w0, rt3_w0, e24, e25, e26']
    refine g_putI 32 rfl fX12_128 (by first | rfl | exact st_o hb | exact st_1 hb | exact st_2 hb | exact st_3 hb | exact st_4 hb | exact st_5 hb | exact st_o hb2 | exact st_1 hb2 | exact st_2 hb2 | exact st_3 hb2 | exact st_4 hb2 | exact st_5 hb2) rfl dX12_street_29 ?_
    try simp only [pM_0, rt3_0, pM_w0, rt3_w0, e24, e25, e26']
    refine g_iconst 33 rfl (v := 0) dX12_street_32 (by decide) ?_
    refine g_istore1 34 rfl dX12_street_33 rfl rfl ?_
    rw [nI_1]
    obtain ⟨F, hF⟩ : ∃ F, F = upd (upd f 0 (nI (t.1 + 1))) 1 (nI t.2.1) := ⟨_, rfl⟩
    rw [← hF]
    have F0 : F 0 = nI (t.1 + 1) := by rw [hF, pk_un (by decide), upd_at]
    have F1 : F 1 = nI t.2.1 := by rw [hF, upd_at]
    have Fq : ∀ q, q ≠ 0 → q ≠ 1 → q ≤ 22 → F q = N.1 0 q := fun q a b c => by rw [hF, pk_un b, pk_un a]; exact hf q c
    have F2 : F 2 = nI (gS g) := by rw [Fq 2 (by decide) (by decide) (by decide)]; exact hr.s
    have U0 : ∀ v u, upd (upd F 2 v) 15 u 0 = nI (t.1 + 1) := fun v u => by rw [pk_un (by decide), pk_un (by decide)]; exact F0
    have U1 : ∀ v u, upd (upd F 2 v) 15 u 1 = nI t.2.1 := fun v u => by rw [pk_un (by decide), pk_un (by decide)]; exact F1
    refine loop_up (P := fun i => Go GM l mX12_street 34 [.ref 0, .int (nI i)] [] (pM (RT3 N F k z) (itN (pvB k z) i x)) (qM (nI ((t.1 + 1) * t.2.1), sgN g (t.1 + 1) t.2.1 (paS (gX g) t)))) ((t.1 + 1) * t.2.1) ?_ ?_ 0 (Nat.zero_le _)
    · have hy := pv_E (K := k) (Z := z) ((t.1 + 1) * t.2.1) x
      generalize itN (pvB k z) ((t.1 + 1) * t.2.1) x = y at hy ⊢
      refine g_iload1 35 rfl dX12_street_34 ?_
      refine g_aload0 36 rfl dX12_street_35 ?_
      refine g_getI 39 rfl fX12_125 (by first | rfl | exact st_o hb | exact st_1 hb | exact st_2 hb | exact st_3 hb | exact st_4 hb | exact st_5 hb | exact st_o hb2 | exact st_1 hb2 | exact st_2 hb2 | exact st_3 hb2 | exact st_4 hb2 | exact st_5 hb2) rfl dX12_street_36 ?_
      try simp only [pM_0, rt3_0, pM_w0, rt3_w0, pM_h12, rt3_12, pM_h13, rt3_13, F0, F1, pM_1, pM_2, pM_3, pM_4, pM_5, pM_w1, pM_w2, pM_w3, pM_w4, pM_w5]
      refine g_aload0 40 rfl dX12_street_39 ?_
      refine g_getI 43 rfl fX12_128 (by first | rfl | exact st_o hb | exact st_1 hb | exact st_2 hb | exact st_3 hb | exact st_4 hb | exact st_5 hb | exact st_o hb2 | exact st_1 hb2 | exact st_2 hb2 | exact st_3 hb2 | exact st_4 hb2 | exact st_5 hb2) rfl dX12_street_40 ?_
      try simp only [pM_0, rt3_0, pM_w0, rt3_w0, pM_h12, rt3_12, pM_h13, rt3_13, F0, F1, pM_1, pM_2, pM_3, pM_4, pM_5, pM_w1, pM_w2, pM_w3, pM_w4, pM_w5]
      refine g_imul 44 rfl dX12_street_43 ?_
      rw [pk_mul]
      refine g_cmpge 113 47 rfl dX12_street_44 (by decide) (fun _ => ?_) (fun h => absurd (Int32.le_refl _) h)
      refine g_aload0 114 rfl dX12_street_113 ?_
      refine g_dup 115 rfl dX12_street_114 rfl ?_
      refine g_getI 118 rfl fX12_131 (by first | rfl | exact st_o hb | exact st_1 hb | exact st_2 hb | exact st_3 hb | exact st_4 hb | exact st_5 hb | exact st_o hb2 | exact st_1 hb2 | exact st_2 hb2 | exact st_3 hb2 | exact st_4 hb2 | exact st_5 hb2) rfl dX12_street_115 ?_
      try simp only [pM_0, rt3_0, pM_w0, rt3_w0, F2, U0, U1]
      refine g_iconst 119 rfl (v := 1) dX12_street_118 (by decide) ?_
      refine g_iadd 120 rfl dX12_street_119 ?_
      refine g_putI 123 rfl fX12_131 (by first | rfl | exact st_o hb | exact st_1 hb | exact st_2 hb | exact st_3 hb | exact st_4 hb | exact st_5 hb | exact st_o hb2 | exact st_1 hb2 | exact st_2 hb2 | exact st_3 hb2 | exact st_4 hb2 | exact st_5 hb2) rfl dX12_street_120 ?_
      try simp only [pM_0, rt3_0, pM_w0, rt3_w0, F2, U0, U1]
      refine g_aload0 124 rfl dX12_street_123 ?_
      refine g_iconst 125 rfl (v := 0) dX12_street_124 (by decide) ?_
      refine g_putI 128 rfl fX12_74 (by first | rfl | exact st_o hb | exact st_1 hb | exact st_2 hb | exact st_3 hb | exact st_4 hb | exact st_5 hb | exact st_o hb2 | exact st_1 hb2 | exact st_2 hb2 | exact st_3 hb2 | exact st_4 hb2 | exact st_5 hb2) rfl dX12_street_125 ?_
      try simp only [pM_0, rt3_0, pM_w0, rt3_w0, F2, U0, U1]
      refine g_aload0 129 rfl dX12_street_128 ?_
      refine g_getI 132 rfl fX12_125 (by first | rfl | exact st_o hb | exact st_1 hb | exact st_2 hb | exact st_3 hb | exact st_4 hb | exact st_5 hb | exact st_o hb2 | exact st_1 hb2 | exact st_2 hb2 | exact st_3 hb2 | exact st_4 hb2 | exact st_5 hb2) rfl dX12_street_129 ?_
      try simp only [pM_0, rt3_0, pM_w0, rt3_w0, F2, U0, U1]
      refine g_aload0 133 rfl dX12_street_132 ?_
      refine g_getI 136 rfl fX12_128 (by first | rfl | exact st_o hb | exact st_1 hb | exact st_2 hb | exact st_3 hb | exact st_4 hb | exact st_5 hb | exact st_o hb2 | exact st_1 hb2 | exact st_2 hb2 | exact st_3 hb2 | exact st_4 hb2 | exact st_5 hb2) rfl dX12_street_133 ?_
      try simp only [pM_0, rt3_0, pM_w0, rt3_w0, F2, U0, U1]
      refine g_imul 137 rfl dX12_street_136 ?_
      refine g_iret rfl dX12_street_137 ?_
      rw [nI_1]
      refine ⟨by rw [pk_mul], RT3 N (upd (upd F 2 (nI (gS g + 1))) 15 0) k z, y, rfl, ?_, ?_⟩
      · refine ⟨fun c hc => (hy.1 c hc).trans (hk c (by rw [hn]; exact hc)), fun c hc => (hy.2.1 c hc).trans (hz c (by rw [hn]; exact hc)), fun c hc => ?_, hy.2.2.2.1, hy.2.2.2.2.1, ?_⟩
        · rw [hy.2.2.1 c hc]
          show (if k c = -1 then (-5 : Int32) else 0) = if t.2.2.2.2.1 c = -1 then -5 else 0
          rw [hk c (by rw [hn]; exact hc)]
        · rw [hy.2.2.2.2.2]
          exact hx.D
      · have Gq : ∀ q, q ≠ 0 → q ≠ 1 → q ≠ 2 → q ≠ 15 → q ≤ 22 → upd (upd F 2 (nI (gS g + 1))) 15 0 q = N.1 0 q := fun q a b c d e => by rw [pk_un d, pk_un c]; exact Fq q a b e
        obtain ⟨a1, a2, a3, a4, a5, a6, a7, a8, a9, a10⟩ := hr
        refine ⟨⟨Or.inr ⟨hR.1, hR.2, hW.1, hW.2⟩, ?_, ?_⟩, ⟨Nat.zero_le _, ?_, fun i hi => absurd hi (by show ¬ i < 0; omega)⟩, ?_, ?_, ?_, ?_, ?_, ?_, ?_, ?_⟩
        · rw [rt3_0, U0]; rfl
        · rw [rt3_0, U1]; rfl
        · rw [rt3_0, upd_at]; rfl
        · show CrM _ (gK g)
          unfold CrM at a3 ⊢
          rw [rt3_0, Gq 9 (by decide) (by decide) (by decide) (by decide) (by decide), rt3_n (by decide) (by decide) (by decide), rt3_n (by decide) (by decide) (by decide)]
          exact a3
        · show gM g ≤ 10 ∧ _ = nI (gM g) ∧ ∀ i, i < gM g → _ = gZ g i
          rw [rt3_0, Gq 12 (by decide) (by decide) (by decide) (by decide) (by decide), rt3_n (by decide) (by decide) (by decide)]
          exact a4
        · rw [rt3_0, pk_un (by decide), upd_at]; rfl
        · rw [rt3_0, Gq 14 (by decide) (by decide) (by decide) (by decide) (by decide)]; exact a6
        · rw [rt3_0, Gq 17 (by decide) (by decide) (by decide) (by decide) (by decide)]; exact a7
        · rw [rt3_0, Gq 17 (by decide) (by decide) (by decide) (by decide) (by decide), Gq 18 (by decide) (by decide) (by decide) (by decide) (by decide)]; exact a8
        · intro a b
          exfalso
          have b : gI g = gS g + 1 := b
          have := a10.2.2.1
          omega
        · refine ⟨⟨fun _ => Nat.succ_pos _, fun _ => hpos⟩, ?_, ?_, a10.2.2.2⟩
          · show gS g + 1 < 1000000
            omega
          · show gI g ≤ gS g + 1
            have := a10.2.2.1
            omega
    · intro i hi ih
      have hi30 : i < 30 := by omega
      simp only [it4, pvB] at ih
      generalize itN (pvB k z) i x = y at ih ⊢
      refine g_iload1 35 rfl dX12_street_34 ?_
      refine g_aload0 36 rfl dX12_street_35 ?_
      refine g_getI 39 rfl fX12_125 (by first | rfl | exact st_o hb | exact st_1 hb | exact st_2 hb | exact st_3 hb | exact st_4 hb | exact st_5 hb | exact st_o hb2 | exact st_1 hb2 | exact st_2 hb2 | exact st_3 hb2 | exact st_4 hb2 | exact st_5 hb2) rfl dX12_street_36 ?_
      try simp only [pM_0, rt3_0, pM_w0, rt3_w0, pM_h12, rt3_12, pM_h13, rt3_13, F0, F1, pM_1, pM_2, pM_3, pM_4, pM_5, pM_w1, pM_w2, pM_w3, pM_w4, pM_w5]
      refine g_aload0 40 rfl dX12_street_39 ?_
      refine g_getI 43 rfl fX12_128 (by first | rfl | exact st_o hb | exact st_1 hb | exact st_2 hb | exact st_3 hb | exact st_4 hb | exact st_5 hb | exact st_o hb2 | exact st_1 hb2 | exact st_2 hb2 | exact st_3 hb2 | exact st_4 hb2 | exact st_5 hb2) rfl dX12_street_40 ?_
      try simp only [pM_0, rt3_0, pM_w0, rt3_w0, pM_h12, rt3_12, pM_h13, rt3_13, F0, F1, pM_1, pM_2, pM_3, pM_4, pM_5, pM_w1, pM_w2, pM_w3, pM_w4, pM_w5]
      refine g_imul 44 rfl dX12_street_43 ?_
      rw [pk_mul]
      refine g_cmpge 113 47 rfl dX12_street_44 (by decide) (fun h => absurd h (nI_ge hi (by omega))) (fun _ => ?_)
      refine g_aload0 48 rfl dX12_street_47 ?_
      refine g_getR 51 rfl fX12_7 (by first | rfl | exact st_o hb | exact st_1 hb | exact st_2 hb | exact st_3 hb | exact st_4 hb | exact st_5 hb | exact st_o hb2 | exact st_1 hb2 | exact st_2 hb2 | exact st_3 hb2 | exact st_4 hb2 | exact st_5 hb2) rfl dX12_street_48 ?_
      refine g_iload1 52 rfl dX12_street_51 ?_
      refine g_aload0 53 rfl dX12_street_52 ?_
      refine g_getR 56 rfl fX12_48 (by first | rfl | exact st_o hb | exact st_1 hb | exact st_2 hb | exact st_3 hb | exact st_4 hb | exact st_5 hb | exact st_o hb2 | exact st_1 hb2 | exact st_2 hb2 | exact st_3 hb2 | exact st_4 hb2 | exact st_5 hb2) rfl dX12_street_53 ?_
      refine g_iload1 57 rfl dX12_street_56 ?_
      refine g_iald 58 rfl dX12_street_57 (by first | rfl | exact st_o hb | exact st_1 hb | exact st_2 hb | exact st_3 hb | exact st_4 hb | exact st_5 hb | exact st_o hb2 | exact st_1 hb2 | exact st_2 hb2 | exact st_3 hb2 | exact st_4 hb2 | exact st_5 hb2) rfl rfl (by first | assumption | omega) ?_
      try simp only [pM_0, rt3_0, pM_w0, rt3_w0, pM_h12, rt3_12, pM_h13, rt3_13, F0, F1, pM_1, pM_2, pM_3, pM_4, pM_5, pM_w1, pM_w2, pM_w3, pM_w4, pM_w5]
      refine g_iast 59 rfl dX12_street_58 (by first | rfl | exact st_o hb | exact st_1 hb | exact st_2 hb | exact st_3 hb | exact st_4 hb | exact st_5 hb | exact st_o hb2 | exact st_1 hb2 | exact st_2 hb2 | exact st_3 hb2 | exact st_4 hb2 | exact st_5 hb2) rfl rfl (by first | assumption | omega) ?_
      try simp only [pM_0, rt3_0, pM_w0, rt3_w0, pM_h12, rt3_12, pM_h13, rt3_13, F0, F1, pM_1, pM_2, pM_3, pM_4, pM_5, pM_w1, pM_w2, pM_w3, pM_w4, pM_w5]
      refine g_aload0 60 rfl dX12_street_59 ?_
      refine g_getR 63 rfl fX12_13 (by first | rfl | exact st_o hb | exact st_1 hb | exact st_2 hb | exact st_3 hb | exact st_4 hb | exact st_5 hb | exact st_o hb2 | exact st_1 hb2 | exact st_2 hb2 | exact st_3 hb2 | exact st_4 hb2 | exact st_5 hb2) rfl dX12_street_60 ?_
      refine g_iload1 64 rfl dX12_street_63 ?_
      refine g_aload0 65 rfl dX12_street_64 ?_
      refine g_getR 68 rfl fX12_51 (by first | rfl | exact st_o hb | exact st_1 hb | exact st_2 hb | exact st_3 hb | exact st_4 hb | exact st_5 hb | exact st_o hb2 | exact st_1 hb2 | exact st_2 hb2 | exact st_3 hb2 | exact st_4 hb2 | exact st_5 hb2) rfl dX12_street_65 ?_
      refine g_iload1 69 rfl dX12_street_68 ?_
      refine g_iald 70 rfl dX12_street_69 (by first | rfl | exact st_o hb | exact st_1 hb | exact st_2 hb | exact st_3 hb | exact st_4 hb | exact st_5 hb | exact st_o hb2 | exact st_1 hb2 | exact st_2 hb2 | exact st_3 hb2 | exact st_4 hb2 | exact st_5 hb2) rfl rfl (by first | assumption | omega) ?_
      try simp only [pM_0, rt3_0, pM_w0, rt3_w0, pM_h12, rt3_12, pM_h13, rt3_13, F0, F1, pM_1, pM_2, pM_3, pM_4, pM_5, pM_w1, pM_w2, pM_w3, pM_w4, pM_w5]
      refine g_iast 71 rfl dX12_street_70 (by first | rfl | exact st_o hb | exact st_1 hb | exact st_2 hb | exact st_3 hb | exact st_4 hb | exact st_5 hb | exact st_o hb2 | exact st_1 hb2 | exact st_2 hb2 | exact st_3 hb2 | exact st_4 hb2 | exact st_5 hb2) rfl rfl (by first | assumption | omega) ?_
      try simp only [pM_0, rt3_0, pM_w0, rt3_w0, pM_h12, rt3_12, pM_h13, rt3_13, F0, F1, pM_1, pM_2, pM_3, pM_4, pM_5, pM_w1, pM_w2, pM_w3, pM_w4, pM_w5]
      refine g_aload0 72 rfl dX12_street_71 ?_
      refine g_getR 75 rfl fX12_16 (by first | rfl | exact st_o hb | exact st_1 hb | exact st_2 hb | exact st_3 hb | exact st_4 hb | exact st_5 hb | exact st_o hb2 | exact st_1 hb2 | exact st_2 hb2 | exact st_3 hb2 | exact st_4 hb2 | exact st_5 hb2) rfl dX12_street_72 ?_
      refine g_iload1 76 rfl dX12_street_75 ?_
      refine g_aload0 77 rfl dX12_street_76 ?_
      refine g_getR 80 rfl fX12_48 (by first | rfl | exact st_o hb | exact st_1 hb | exact st_2 hb | exact st_3 hb | exact st_4 hb | exact st_5 hb | exact st_o hb2 | exact st_1 hb2 | exact st_2 hb2 | exact st_3 hb2 | exact st_4 hb2 | exact st_5 hb2) rfl dX12_street_77 ?_
      refine g_iload1 81 rfl dX12_street_80 ?_
      refine g_iald 82 rfl dX12_street_81 (by first | rfl | exact st_o hb | exact st_1 hb | exact st_2 hb | exact st_3 hb | exact st_4 hb | exact st_5 hb | exact st_o hb2 | exact st_1 hb2 | exact st_2 hb2 | exact st_3 hb2 | exact st_4 hb2 | exact st_5 hb2) rfl rfl (by first | assumption | omega) ?_
      try simp only [pM_0, rt3_0, pM_w0, rt3_w0, pM_h12, rt3_12, pM_h13, rt3_13, F0, F1, pM_1, pM_2, pM_3, pM_4, pM_5, pM_w1, pM_w2, pM_w3, pM_w4, pM_w5]
      refine g_iconst 83 rfl (v := (-1)) dX12_street_82 (by decide) ?_
      refine g_cmpne 91 86 rfl dX12_street_83 (by decide) (fun h83 => ?_) (fun h83 => ?_)
      · rw [if_neg h83] at ih
        refine g_iconst 92 rfl (v := 0) dX12_street_91 (by decide) ?_
        refine g_iast 93 rfl dX12_street_92 (by first | rfl | exact st_o hb | exact st_1 hb | exact st_2 hb | exact st_3 hb | exact st_4 hb | exact st_5 hb | exact st_o hb2 | exact st_1 hb2 | exact st_2 hb2 | exact st_3 hb2 | exact st_4 hb2 | exact st_5 hb2) rfl rfl (by first | assumption | omega) ?_
        try simp only [pM_0, rt3_0, pM_w0, rt3_w0, pM_h12, rt3_12, pM_h13, rt3_13, F0, F1, pM_1, pM_2, pM_3, pM_4, pM_5, pM_w1, pM_w2, pM_w3, pM_w4, pM_w5]
        refine g_aload0 94 rfl dX12_street_93 ?_
        refine g_getR 97 rfl fX12_19 (by first | rfl | exact st_o hb | exact st_1 hb | exact st_2 hb | exact st_3 hb | exact st_4 hb | exact st_5 hb | exact st_o hb2 | exact st_1 hb2 | exact st_2 hb2 | exact st_3 hb2 | exact st_4 hb2 | exact st_5 hb2) rfl dX12_street_94 ?_
        refine g_iload1 98 rfl dX12_street_97 ?_
        refine g_iconst 99 rfl (v := 0) dX12_street_98 (by decide) ?_
        refine g_iast 100 rfl dX12_street_99 (by first | rfl | exact st_o hb | exact st_1 hb | exact st_2 hb | exact st_3 hb | exact st_4 hb | exact st_5 hb | exact st_o hb2 | exact st_1 hb2 | exact st_2 hb2 | exact st_3 hb2 | exact st_4 hb2 | exact st_5 hb2) rfl rfl (by first | assumption | omega) ?_
        try simp only [pM_0, rt3_0, pM_w0, rt3_w0, pM_h12, rt3_12, pM_h13, rt3_13, F0, F1, pM_1, pM_2, pM_3, pM_4, pM_5, pM_w1, pM_w2, pM_w3, pM_w4, pM_w5]
        refine g_aload0 101 rfl dX12_street_100 ?_
        refine g_getR 104 rfl fX12_22 (by first | rfl | exact st_o hb | exact st_1 hb | exact st_2 hb | exact st_3 hb | exact st_4 hb | exact st_5 hb | exact st_o hb2 | exact st_1 hb2 | exact st_2 hb2 | exact st_3 hb2 | exact st_4 hb2 | exact st_5 hb2) rfl dX12_street_101 ?_
        refine g_iload1 105 rfl dX12_street_104 ?_
        refine g_iconst 106 rfl (v := 0) dX12_street_105 (by decide) ?_
        refine g_iast 107 rfl dX12_street_106 (by first | rfl | exact st_o hb | exact st_1 hb | exact st_2 hb | exact st_3 hb | exact st_4 hb | exact st_5 hb | exact st_o hb2 | exact st_1 hb2 | exact st_2 hb2 | exact st_3 hb2 | exact st_4 hb2 | exact st_5 hb2) rfl rfl (by first | assumption | omega) ?_
        try simp only [pM_0, rt3_0, pM_w0, rt3_w0, pM_h12, rt3_12, pM_h13, rt3_13, F0, F1, pM_1, pM_2, pM_3, pM_4, pM_5, pM_w1, pM_w2, pM_w3, pM_w4, pM_w5]
        refine g_iinc1 110 rfl dX12_street_107 rfl rfl _ (by first | exact iinc1 _ | exact iincx _ | rfl) ?_
        refine g_goto 34 dX12_street_110 (by decide) ?_
        exact ih
      · rw [if_pos h83] at ih
        refine g_bipush 88 rfl (v := (-5)) dX12_street_86 (by decide) ?_
        refine g_goto 92 dX12_street_88 (by decide) ?_
        refine g_iast 93 rfl dX12_street_92 (by first | rfl | exact st_o hb | exact st_1 hb | exact st_2 hb | exact st_3 hb | exact st_4 hb | exact st_5 hb | exact st_o hb2 | exact st_1 hb2 | exact st_2 hb2 | exact st_3 hb2 | exact st_4 hb2 | exact st_5 hb2) rfl rfl (by first | assumption | omega) ?_
        try simp only [pM_0, rt3_0, pM_w0, rt3_w0, pM_h12, rt3_12, pM_h13, rt3_13, F0, F1, pM_1, pM_2, pM_3, pM_4, pM_5, pM_w1, pM_w2, pM_w3, pM_w4, pM_w5]
        refine g_aload0 94 rfl dX12_street_93 ?_
        refine g_getR 97 rfl fX12_19 (by first | rfl | exact st_o hb | exact st_1 hb | exact st_2 hb | exact st_3 hb | exact st_4 hb | exact st_5 hb | exact st_o hb2 | exact st_1 hb2 | exact st_2 hb2 | exact st_3 hb2 | exact st_4 hb2 | exact st_5 hb2) rfl dX12_street_94 ?_
        refine g_iload1 98 rfl dX12_street_97 ?_
        refine g_iconst 99 rfl (v := 0) dX12_street_98 (by decide) ?_
        refine g_iast 100 rfl dX12_street_99 (by first | rfl | exact st_o hb | exact st_1 hb | exact st_2 hb | exact st_3 hb | exact st_4 hb | exact st_5 hb | exact st_o hb2 | exact st_1 hb2 | exact st_2 hb2 | exact st_3 hb2 | exact st_4 hb2 | exact st_5 hb2) rfl rfl (by first | assumption | omega) ?_
        try simp only [pM_0, rt3_0, pM_w0, rt3_w0, pM_h12, rt3_12, pM_h13, rt3_13, F0, F1, pM_1, pM_2, pM_3, pM_4, pM_5, pM_w1, pM_w2, pM_w3, pM_w4, pM_w5]
        refine g_aload0 101 rfl dX12_street_100 ?_
        refine g_getR 104 rfl fX12_22 (by first | rfl | exact st_o hb | exact st_1 hb | exact st_2 hb | exact st_3 hb | exact st_4 hb | exact st_5 hb | exact st_o hb2 | exact st_1 hb2 | exact st_2 hb2 | exact st_3 hb2 | exact st_4 hb2 | exact st_5 hb2) rfl dX12_street_101 ?_
        refine g_iload1 105 rfl dX12_street_104 ?_
        refine g_iconst 106 rfl (v := 0) dX12_street_105 (by decide) ?_
        refine g_iast 107 rfl dX12_street_106 (by first | rfl | exact st_o hb | exact st_1 hb | exact st_2 hb | exact st_3 hb | exact st_4 hb | exact st_5 hb | exact st_o hb2 | exact st_1 hb2 | exact st_2 hb2 | exact st_3 hb2 | exact st_4 hb2 | exact st_5 hb2) rfl rfl (by first | assumption | omega) ?_
        try simp only [pM_0, rt3_0, pM_w0, rt3_w0, pM_h12, rt3_12, pM_h13, rt3_13, F0, F1, pM_1, pM_2, pM_3, pM_4, pM_5, pM_w1, pM_w2, pM_w3, pM_w4, pM_w5]
        refine g_iinc1 110 rfl dX12_street_107 rfl rfl _ (by first | exact iinc1 _ | exact iincx _ | rfl) ?_
        refine g_goto 34 dX12_street_110 (by decide) ?_
        exact ih
  · refine g_aload0 5 rfl dX12_street_4 ?_
    refine g_getI 8 rfl fX12_106 (by first | rfl | exact st_o hb | exact st_1 hb | exact st_2 hb | exact st_3 hb | exact st_4 hb | exact st_5 hb | exact st_o hb2 | exact st_1 hb2 | exact st_2 hb2 | exact st_3 hb2 | exact st_4 hb2 | exact st_5 hb2) rfl dX12_street_5 ?_
    try simp only [pM_0, rt3_0, e24]
    refine g_ifne 14 11 rfl dX12_street_8 (by decide) (fun h => absurd rfl h) (fun _ => ?_)
    refine g_bipush 13 rfl (v := (-103)) dX12_street_11 (by decide) ?_
    refine g_iret rfl dX12_street_13 ?_
    rw [fStreet, ifC_f hno]
    exact ⟨rfl, _, x, rfl, hx, hr.fr (rt3_kp hf)⟩
theorem mub_carts {l : Launch} {M : Mm} {g : Sg} (h : MS g M) : Ok GM l mX12_carts [.ref 0] M (qM (fCarts g)) := by
  obtain ⟨N, x, rfl, hx, hr⟩ := h
  refine ok_of (by decide +kernel) rfl rfl ?_
  refine g_aload0 1 rfl dX12_carts_0 ?_
  refine g_callV 4 0 rfl kX12_122 (by first | rfl | exact st_o hb | exact st_1 hb | exact st_2 hb | exact st_3 hb | exact st_4 hb | exact st_5 hb | exact st_o hb2 | exact st_1 hb2 | exact st_2 hb2 | exact st_3 hb2 | exact st_4 hb2 | exact st_5 hb2) dX12_carts_1 ⟨rfl, rfl⟩ (om_readCarts hr.pgm) rfl rfl rfl (fun r M1 hq => ?_)
  obtain ⟨rfl, f, a, b, rfl, hf, -, hs⟩ := hq
  try simp only [rV, Option.toList, List.cons_append, List.nil_append]
  rw [pM_0] at hf
  refine g_mem (pM (RC3 N f a b) x) rc3_pM ?_
  rcases hs with ⟨e24, t, ht, hI, e31, ha, hb⟩ | ⟨e24, hno⟩
  · have hw : 3 ≤ t.2.1 := ht.2
    have em : csM t = t.1 := by simp only [csM]; rw [if_neg (by omega)]
    have hD := runC_D _ _ _ t cs0_D (by decide) ht.1
    rw [em] at ha
    have hD2 : ∀ i, i < t.1 → ∃ j, j < 10 ∧ t.2.2.1 i = nI j := fun i hi => hD i (by rw [em]; exact hi)
    have ht6 : t.1 ≤ 6 := hI.1
    have hc : fCarts g = (nI t.1, sgP (sgK g (ctO t)) 0 (gP g)) := by rw [fCarts, ifC_t ⟨t, ht⟩, ht.1]
    rw [hc]
    refine g_aload0 5 rfl dX12_carts_4 ?_
    refine g_getI 8 rfl fX12_106 (by first | rfl | exact st_o hb | exact st_1 hb | exact st_2 hb | exact st_3 hb | exact st_4 hb | exact st_5 hb | exact st_o hb2 | exact st_1 hb2 | exact st_2 hb2 | exact st_3 hb2 | exact st_4 hb2 | exact st_5 hb2) rfl dX12_carts_5 ?_
    try simp only [pM_0, rc3_0, pM_w0, rc3_w0, e24, e31]
    refine g_ifne 14 11 rfl dX12_carts_8 (by decide) (fun _ => ?_) (fun h => absurd h (by decide))
    refine g_aload0 15 rfl dX12_carts_14 ?_
    refine g_aload0 16 rfl dX12_carts_15 ?_
    refine g_getI 19 rfl fX12_109 (by first | rfl | exact st_o hb | exact st_1 hb | exact st_2 hb | exact st_3 hb | exact st_4 hb | exact st_5 hb | exact st_o hb2 | exact st_1 hb2 | exact st_2 hb2 | exact st_3 hb2 | exact st_4 hb2 | exact st_5 hb2) rfl dX12_carts_16 ?_
    try simp only [pM_0, rc3_0, pM_w0, rc3_w0, e24, e31]
    refine g_putI 22 rfl fX12_134 (by first | rfl | exact st_o hb | exact st_1 hb | exact st_2 hb | exact st_3 hb | exact st_4 hb | exact st_5 hb | exact st_o hb2 | exact st_1 hb2 | exact st_2 hb2 | exact st_3 hb2 | exact st_4 hb2 | exact st_5 hb2) rfl dX12_carts_19 ?_
    try simp only [pM_0, rc3_0, pM_w0, rc3_w0, e24, e31]
    refine g_iconst 23 rfl (v := 0) dX12_carts_22 (by decide) ?_
    refine g_istore1 24 rfl dX12_carts_23 rfl rfl ?_
    obtain ⟨F, hF⟩ : ∃ F, F = upd f 9 (nI t.1) := ⟨_, rfl⟩
    rw [← hF]
    have F9 : F 9 = nI t.1 := by rw [hF, upd_at]
    have Fq : ∀ q, q ≠ 9 → q ≤ 22 → F q = N.1 0 q := fun q a c => by rw [hF, pk_un a]; exact hf q c
    have U9 : ∀ v, upd F 15 v 9 = nI t.1 := fun v => by rw [pk_un (by decide)]; exact F9
    obtain ⟨C, hC⟩ : ∃ C : (Nat → Int32) → (Nat → Int32) → (Nat → Int32) → Mm, C = fun F u v => pM (setA (setA (RC3 N F a b) 6 u) 7 v) x := ⟨_, rfl⟩
    have c0 : ∀ F u v, (C F u v).1 0 = F := fun F u v => by rw [hC]; show (pM _ x).1 0 = F; rw [pM_0, sA_n (by decide), sA_n (by decide), rc3_0]
    have c6 : ∀ F u v, (C F u v).1 6 = u := fun F u v => by rw [hC]; show (pM _ x).1 6 = u; rw [pM_h6, sA_n (by decide), sA_s]
    have c7 : ∀ F u v, (C F u v).1 7 = v := fun F u v => by rw [hC]; show (pM _ x).1 7 = v; rw [pM_h7, sA_s]
    have c14 : ∀ F u v, (C F u v).1 14 = a := fun F u v => by rw [hC]; show (pM _ x).1 14 = a; rw [pM_h14, sA_n (by decide), sA_n (by decide), rc3_14]
    have c15 : ∀ F u v, (C F u v).1 15 = b := fun F u v => by rw [hC]; show (pM _ x).1 15 = b; rw [pM_h15, sA_n (by decide), sA_n (by decide), rc3_15]
    have w6 : ∀ F u v e, setA (C F u v) 6 e = C F e v := fun F u v e => by rw [hC]; show setA (pM _ x) 6 e = pM _ x; rw [pM_wo (Or.inr (by decide)), sA_sw (by decide), sA_sA]
    have w7 : ∀ F u v e, setA (C F u v) 7 e = C F u e := fun F u v e => by rw [hC]; show setA (pM _ x) 7 e = pM _ x; rw [pM_wo (Or.inr (by decide)), sA_sA]
    have w0 : ∀ F u v e, setA (C F u v) 0 e = C e u v := fun F u v e => by rw [hC]; show setA (pM _ x) 0 e = pM _ x; rw [pM_wo (Or.inl rfl), sA_sw (by decide), sA_sw (h := 6) (h' := 0) (by decide), rc3_w0]
    refine g_mem (C F (N.1 6) (N.1 7)) (by rw [hC]; show pM _ x = pM _ x; rw [show N.1 6 = (RC3 N F a b).1 6 from (rc3_n (by decide) (by decide) (by decide)).symm, sA_id, show N.1 7 = (RC3 N F a b).1 7 from (rc3_n (by decide) (by decide) (by decide)).symm, sA_id]) ?_
    refine loop_up (P := fun i => ∀ u v, eqN i u a → eqN i v b → Go GM l mX12_carts 24 [.ref 0, .int (nI i)] [] (C F u v) (qM (nI t.1, sgP (sgK g (ctO t)) 0 (gP g)))) t.1 ?_ ?_ 0 (Nat.zero_le _) _ _ (fun i hi => absurd hi (by omega)) (fun i hi => absurd hi (by omega))
    · intro u v hu hv
      refine g_iload1 25 rfl dX12_carts_24 ?_
      refine g_aload0 26 rfl dX12_carts_25 ?_
      refine g_getI 29 rfl fX12_134 (by first | rfl | exact st_o hb | exact st_1 hb | exact st_2 hb | exact st_3 hb | exact st_4 hb | exact st_5 hb | exact st_o hb2 | exact st_1 hb2 | exact st_2 hb2 | exact st_3 hb2 | exact st_4 hb2 | exact st_5 hb2) rfl dX12_carts_26 ?_
      try simp only [c0, c6, c7, c14, c15, w0, w6, w7, F9, U9]
      refine g_cmpge 62 32 rfl dX12_carts_29 (by decide) (fun _ => ?_) (fun h => absurd (Int32.le_refl _) h)
      refine g_aload0 63 rfl dX12_carts_62 ?_
      refine g_iconst 64 rfl (v := 0) dX12_carts_63 (by decide) ?_
      refine g_putI 67 rfl fX12_74 (by first | rfl | exact st_o hb | exact st_1 hb | exact st_2 hb | exact st_3 hb | exact st_4 hb | exact st_5 hb | exact st_o hb2 | exact st_1 hb2 | exact st_2 hb2 | exact st_3 hb2 | exact st_4 hb2 | exact st_5 hb2) rfl dX12_carts_64 ?_
      try simp only [c0, c6, c7, c14, c15, w0, w6, w7, F9, U9]
      refine g_aload0 68 rfl dX12_carts_67 ?_
      refine g_getI 71 rfl fX12_134 (by first | rfl | exact st_o hb | exact st_1 hb | exact st_2 hb | exact st_3 hb | exact st_4 hb | exact st_5 hb | exact st_o hb2 | exact st_1 hb2 | exact st_2 hb2 | exact st_3 hb2 | exact st_4 hb2 | exact st_5 hb2) rfl dX12_carts_68 ?_
      try simp only [c0, c6, c7, c14, c15, w0, w6, w7, F9, U9]
      refine g_iret rfl dX12_carts_71 ?_
      refine ⟨rfl, setA (setA (RC3 N (upd F 15 0) a b) 6 u) 7 v, x, by rw [hC], hx, ?_⟩
      obtain ⟨a1, a2, a3, a4, a5, a6, a7, a8, a9, a10⟩ := hr
      obtain ⟨O, hO⟩ : ∃ O, O = setA (setA (RC3 N (upd F 15 0) a b) 6 u) 7 v := ⟨_, rfl⟩
      rw [← hO]
      have O0 : O.1 0 = upd F 15 0 := by rw [hO, sA_n (by decide), sA_n (by decide), rc3_0]
      have O6 : O.1 6 = u := by rw [hO, sA_n (by decide), sA_s]
      have O7 : O.1 7 = v := by rw [hO, sA_s]
      have Oq : ∀ q, 8 ≤ q → q ≤ 10 → O.1 q = N.1 q := fun q c d => by rw [hO, sA_n (by omega), sA_n (by omega), rc3_n (by omega) (by omega) (by omega)]
      have Gq : ∀ q, q ≠ 9 → q ≠ 15 → q ≤ 22 → O.1 0 q = N.1 0 q := fun q c d e => by rw [O0, pk_un d]; exact Fq q c e
      have Ol : O.2 = N.2 := by rw [hO]; rfl
      refine ⟨?_, ⟨Nat.zero_le _, ?_, fun i hi => absurd hi (by show ¬ i < 0; omega)⟩, ⟨ht6, ?_, fun i hi => ?_⟩, ?_, ?_, ?_, ?_, ?_, ?_, a10⟩
      · show Mod O (gR g) (gW g)
        unfold Mod at a1 ⊢
        rw [Gq 0 (by decide) (by decide) (by decide), Gq 1 (by decide) (by decide) (by decide)]
        exact a1
      · rw [O0, upd_at]; rfl
      · rw [O0, U9]; rfl
      · have hi : i < t.1 := hi
        obtain ⟨j, hj, ej⟩ := hD2 i hi
        refine ⟨?_, ?_, ?_⟩
        · show O.1 6 i = nI (ce (t.2.2.1 i))
          rw [O6, hu i hi, ha i hi, ej, ce_nI (by omega)]
        · show O.1 7 i = t.2.2.2 i
          rw [O7, hv i hi, hb i hi]
        · show ce (t.2.2.1 i) < 10
          rw [ej, ce_nI (by omega)]
          exact hj
      · show gM g ≤ 10 ∧ _ = nI (gM g) ∧ ∀ i, i < gM g → _ = gZ g i
        rw [Gq 12 (by decide) (by decide) (by decide), Oq 8 (by decide) (by decide)]
        exact a4
      · rw [Gq 2 (by decide) (by decide) (by decide)]; exact a5
      · rw [Gq 14 (by decide) (by decide) (by decide)]; exact a6
      · rw [Gq 17 (by decide) (by decide) (by decide)]; exact a7
      · rw [Gq 17 (by decide) (by decide) (by decide), Gq 18 (by decide) (by decide) (by decide)]; exact a8
      · show gI g ≠ 0 → gI g = gS g → Kp O (gV g) (gN g)
        unfold Kp at a9 ⊢
        rw [Ol, Oq 10 (by decide) (by decide)]
        exact a9
    · intro i hi ih u v hu hv
      refine g_iload1 25 rfl dX12_carts_24 ?_
      refine g_aload0 26 rfl dX12_carts_25 ?_
      refine g_getI 29 rfl fX12_134 (by first | rfl | exact st_o hb | exact st_1 hb | exact st_2 hb | exact st_3 hb | exact st_4 hb | exact st_5 hb | exact st_o hb2 | exact st_1 hb2 | exact st_2 hb2 | exact st_3 hb2 | exact st_4 hb2 | exact st_5 hb2) rfl dX12_carts_26 ?_
      try simp only [c0, c6, c7, c14, c15, w0, w6, w7, F9, U9]
      refine g_cmpge 62 32 rfl dX12_carts_29 (by decide) (fun h => absurd h (nI_ge hi (by omega))) (fun _ => ?_)
      refine g_aload0 33 rfl dX12_carts_32 ?_
      refine g_getR 36 rfl fX12_29 (by first | rfl | exact st_o hb | exact st_1 hb | exact st_2 hb | exact st_3 hb | exact st_4 hb | exact st_5 hb | exact st_o hb2 | exact st_1 hb2 | exact st_2 hb2 | exact st_3 hb2 | exact st_4 hb2 | exact st_5 hb2) rfl dX12_carts_33 ?_
      refine g_iload1 37 rfl dX12_carts_36 ?_
      refine g_aload0 38 rfl dX12_carts_37 ?_
      refine g_getR 41 rfl fX12_54 (by first | rfl | exact st_o hb | exact st_1 hb | exact st_2 hb | exact st_3 hb | exact st_4 hb | exact st_5 hb | exact st_o hb2 | exact st_1 hb2 | exact st_2 hb2 | exact st_3 hb2 | exact st_4 hb2 | exact st_5 hb2) rfl dX12_carts_38 ?_
      refine g_iload1 42 rfl dX12_carts_41 ?_
      refine g_iald 43 rfl dX12_carts_42 (by first | rfl | exact st_o hb | exact st_1 hb | exact st_2 hb | exact st_3 hb | exact st_4 hb | exact st_5 hb | exact st_o hb2 | exact st_1 hb2 | exact st_2 hb2 | exact st_3 hb2 | exact st_4 hb2 | exact st_5 hb2) rfl rfl (by first | assumption | omega) ?_
      try simp only [c0, c6, c7, c14, c15, w0, w6, w7, F9, U9]
      refine g_iast 44 rfl dX12_carts_43 (by first | rfl | exact st_o hb | exact st_1 hb | exact st_2 hb | exact st_3 hb | exact st_4 hb | exact st_5 hb | exact st_o hb2 | exact st_1 hb2 | exact st_2 hb2 | exact st_3 hb2 | exact st_4 hb2 | exact st_5 hb2) rfl rfl (by first | assumption | omega) ?_
      try simp only [c0, c6, c7, c14, c15, w0, w6, w7, F9, U9]
      refine g_aload0 45 rfl dX12_carts_44 ?_
      refine g_getR 48 rfl fX12_32 (by first | rfl | exact st_o hb | exact st_1 hb | exact st_2 hb | exact st_3 hb | exact st_4 hb | exact st_5 hb | exact st_o hb2 | exact st_1 hb2 | exact st_2 hb2 | exact st_3 hb2 | exact st_4 hb2 | exact st_5 hb2) rfl dX12_carts_45 ?_
      refine g_iload1 49 rfl dX12_carts_48 ?_
      refine g_aload0 50 rfl dX12_carts_49 ?_
      refine g_getR 53 rfl fX12_57 (by first | rfl | exact st_o hb | exact st_1 hb | exact st_2 hb | exact st_3 hb | exact st_4 hb | exact st_5 hb | exact st_o hb2 | exact st_1 hb2 | exact st_2 hb2 | exact st_3 hb2 | exact st_4 hb2 | exact st_5 hb2) rfl dX12_carts_50 ?_
      refine g_iload1 54 rfl dX12_carts_53 ?_
      refine g_iald 55 rfl dX12_carts_54 (by first | rfl | exact st_o hb | exact st_1 hb | exact st_2 hb | exact st_3 hb | exact st_4 hb | exact st_5 hb | exact st_o hb2 | exact st_1 hb2 | exact st_2 hb2 | exact st_3 hb2 | exact st_4 hb2 | exact st_5 hb2) rfl rfl (by first | assumption | omega) ?_
      try simp only [c0, c6, c7, c14, c15, w0, w6, w7, F9, U9]
      refine g_iast 56 rfl dX12_carts_55 (by first | rfl | exact st_o hb | exact st_1 hb | exact st_2 hb | exact st_3 hb | exact st_4 hb | exact st_5 hb | exact st_o hb2 | exact st_1 hb2 | exact st_2 hb2 | exact st_3 hb2 | exact st_4 hb2 | exact st_5 hb2) rfl rfl (by first | assumption | omega) ?_
      try simp only [c0, c6, c7, c14, c15, w0, w6, w7, F9, U9]
      refine g_iinc1 59 rfl dX12_carts_56 rfl rfl _ (by first | exact iinc1 _ | exact iincx _ | rfl) ?_
      refine g_goto 24 dX12_carts_59 (by decide) ?_
      exact ih _ _ (up_in hu) (up_in hv)
  · refine g_aload0 5 rfl dX12_carts_4 ?_
    refine g_getI 8 rfl fX12_106 (by first | rfl | exact st_o hb | exact st_1 hb | exact st_2 hb | exact st_3 hb | exact st_4 hb | exact st_5 hb | exact st_o hb2 | exact st_1 hb2 | exact st_2 hb2 | exact st_3 hb2 | exact st_4 hb2 | exact st_5 hb2) rfl dX12_carts_5 ?_
    try simp only [pM_0, rc3_0, e24]
    refine g_ifne 14 11 rfl dX12_carts_8 (by decide) (fun h => absurd rfl h) (fun _ => ?_)
    refine g_bipush 13 rfl (v := (-103)) dX12_carts_11 (by decide) ?_
    refine g_iret rfl dX12_carts_13 ?_
    rw [fCarts, ifC_f hno]
    exact ⟨rfl, _, x, rfl, hx, hr.fr (rc3_kp hf)⟩
