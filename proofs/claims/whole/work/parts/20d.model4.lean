/-! the reference: ringing, save, back -/
theorem om_ringing {l : Launch} {M : Mm} {R W : Nat} {x : Sx} {w : Int32} (hm : Mod M R W) (hs : SI (R * W) x) : Oi GM l mX12_ringing [.ref 0, .int w] (pM M x) (ringN R W x w (R * W)) (pM M x) := by
  have h30 := hm.le
  have hm2 := pM_mod (x := x) hm
  refine ok_of (by decide +kernel) rfl rfl ?_
  refine g_iconst 1 rfl (v := 0) dX12_ringing_0 (by decide) ?_
  refine g_istore2 2 rfl dX12_ringing_1 rfl rfl ?_
  refine g_iconst 3 rfl (v := 0) dX12_ringing_2 (by decide) ?_
  refine g_istore3 4 rfl dX12_ringing_3 rfl rfl ?_
  refine loop_up (P := fun i => Go GM l mX12_ringing 4 [.ref 0, .int w, .int (ringN R W x w i), .int (nI i)] [] (pM M x) _) (R * W) ?_ ?_ 0 (by omega)
  · refine g_iload3 5 rfl dX12_ringing_4 ?_
    refine g_aload0 6 rfl dX12_ringing_5 ?_
    refine g_callVi 9 0 rfl kX12_140 (by first | rfl | exact st_o hb | exact st_1 hb | exact st_2 hb | exact st_3 hb | exact st_4 hb | exact st_5 hb | exact st_o hb2 | exact st_1 hb2 | exact st_2 hb2 | exact st_3 hb2 | exact st_4 hb2 | exact st_5 hb2) dX12_ringing_6 ⟨rfl, rfl⟩ (om_cells hm2) rfl rfl rfl ?_
    refine g_cmpge 45 12 rfl dX12_ringing_9 (by decide) (fun h9 => ?_) (fun h => absurd (Int32.le_refl _) h)
    refine g_iload2 46 rfl dX12_ringing_45 ?_
    refine g_iret rfl dX12_ringing_46 ?_
    exact ⟨rfl, rfl⟩
  · intro i hi ih
    rw [ringN] at ih
    refine g_iload3 5 rfl dX12_ringing_4 ?_
    refine g_aload0 6 rfl dX12_ringing_5 ?_
    refine g_callVi 9 0 rfl kX12_140 (by first | rfl | exact st_o hb | exact st_1 hb | exact st_2 hb | exact st_3 hb | exact st_4 hb | exact st_5 hb | exact st_o hb2 | exact st_1 hb2 | exact st_2 hb2 | exact st_3 hb2 | exact st_4 hb2 | exact st_5 hb2) dX12_ringing_6 ⟨rfl, rfl⟩ (om_cells hm2) rfl rfl rfl ?_
    refine g_cmpge 45 12 rfl dX12_ringing_9 (by decide) (fun h => absurd h (nI_ge hi (by omega))) (fun h9 => ?_)
    refine g_iload2 13 rfl dX12_ringing_12 ?_
    refine g_aload0 14 rfl dX12_ringing_13 ?_
    refine g_getR 17 rfl fX12_7 (by first | rfl | exact st_o hb | exact st_1 hb | exact st_2 hb | exact st_3 hb | exact st_4 hb | exact st_5 hb | exact st_o hb2 | exact st_1 hb2 | exact st_2 hb2 | exact st_3 hb2 | exact st_4 hb2 | exact st_5 hb2) rfl dX12_ringing_14 ?_
    refine g_iload3 18 rfl dX12_ringing_17 ?_
    refine g_iald 19 rfl dX12_ringing_18 (by first | rfl | exact st_o hb | exact st_1 hb | exact st_2 hb | exact st_3 hb | exact st_4 hb | exact st_5 hb | exact st_o hb2 | exact st_1 hb2 | exact st_2 hb2 | exact st_3 hb2 | exact st_4 hb2 | exact st_5 hb2) rfl rfl (by first | assumption | omega) ?_
    try simp only [pM_1]
    refine g_iconst 20 rfl (v := (-1)) dX12_ringing_19 (by decide) ?_
    refine g_cmpeq 36 23 rfl dX12_ringing_20 (by decide) (fun h20 => ?_) (fun h20 => ?_)
    · refine g_iconst 37 rfl (v := 0) dX12_ringing_36 (by decide) ?_
      refine g_iadd 38 rfl dX12_ringing_37 ?_
      refine g_istore2 39 rfl dX12_ringing_38 rfl rfl ?_
      refine g_iinc3 42 rfl dX12_ringing_39 rfl rfl _ (by first | exact iinc1 _ | exact iincx _ | rfl) ?_
      refine g_goto 4 dX12_ringing_42 (by decide) ?_
      (first | (rw [if_pos h20] at ih; rw [Int32.add_zero]; exact ih) | (rw [if_neg h20, if_neg h29] at ih; rw [Int32.add_zero]; exact ih) | (rw [if_neg h20, if_pos h29] at ih; exact ih))
    · refine g_aload0 24 rfl dX12_ringing_23 ?_
      refine g_iload3 25 rfl dX12_ringing_24 ?_
      refine g_iload1 26 rfl dX12_ringing_25 ?_
      refine g_callVi 29 2 rfl kX12_162 (by first | rfl | exact st_o hb | exact st_1 hb | exact st_2 hb | exact st_3 hb | exact st_4 hb | exact st_5 hb | exact st_o hb2 | exact st_1 hb2 | exact st_2 hb2 | exact st_3 hb2 | exact st_4 hb2 | exact st_5 hb2) dX12_ringing_26 ⟨rfl, rfl⟩ (om_sinks hm hi (hs i hi) h20) rfl rfl rfl ?_
      refine g_ifne 36 32 rfl dX12_ringing_29 (by decide) (fun h29 => ?_) (fun h29 => ?_)
      · refine g_iconst 37 rfl (v := 0) dX12_ringing_36 (by decide) ?_
        refine g_iadd 38 rfl dX12_ringing_37 ?_
        refine g_istore2 39 rfl dX12_ringing_38 rfl rfl ?_
        refine g_iinc3 42 rfl dX12_ringing_39 rfl rfl _ (by first | exact iinc1 _ | exact iincx _ | rfl) ?_
        refine g_goto 4 dX12_ringing_42 (by decide) ?_
        (first | (rw [if_pos h20] at ih; rw [Int32.add_zero]; exact ih) | (rw [if_neg h20, if_neg h29] at ih; rw [Int32.add_zero]; exact ih) | (rw [if_neg h20, if_pos h29] at ih; exact ih))
      · refine g_iconst 33 rfl (v := 1) dX12_ringing_32 (by decide) ?_
        refine g_goto 37 dX12_ringing_33 (by decide) ?_
        refine g_iadd 38 rfl dX12_ringing_37 ?_
        refine g_istore2 39 rfl dX12_ringing_38 rfl rfl ?_
        refine g_iinc3 42 rfl dX12_ringing_39 rfl rfl _ (by first | exact iinc1 _ | exact iincx _ | rfl) ?_
        refine g_goto 4 dX12_ringing_42 (by decide) ?_
        (first | (rw [if_pos h20] at ih; rw [Int32.add_zero]; exact ih) | (rw [if_neg h20, if_neg h29] at ih; rw [Int32.add_zero]; exact ih) | (rw [if_neg h20, if_pos h29] at ih; exact ih))
/-- what save keeps -/
def Sv (M : Mm) (x : Sx) (n : Nat) : Prop := ∀ c, c < n → M.1 11 (5 * c) = sK x c ∧ M.1 11 (5 * c + 1) = sZ x c ∧ M.1 11 (5 * c + 2) = sH x c ∧ M.1 11 (5 * c + 3) = sS x c ∧ M.1 11 (5 * c + 4) = sJ x c
theorem pM_21 {M : Mm} {x : Sx} {k : Nat} (hk : k ≠ 8) : (pM M x).2 0 k = M.2 0 k := by
  simp only [pM]
  rw [if_neg (fun z => hk z.2)]
abbrev qSv (M : Mm) (x : Sx) : Rr → Mm → Prop := fun r M' => r = none ∧ ∃ f, M' = pM (setA (setL M 0 21 (sD x).toInt64) 11 f) x ∧ Sv (setA (setL M 0 21 (sD x).toInt64) 11 f) x 30
theorem om_save {l : Launch} {M : Mm} {x : Sx} : Ok GM l mX12_save [.ref 0] (pM M x) (qSv M x) := by
  have five : (5 : Int32) = nI 5 := rfl
  refine ok_of (by decide +kernel) rfl rfl ?_
  refine g_aload0 1 rfl dX12_save_0 ?_
  refine g_aload0 2 rfl dX12_save_1 ?_
  refine g_getL 5 rfl fX12_25 (by first | rfl | exact st_o hb | exact st_1 hb | exact st_2 hb | exact st_3 hb | exact st_4 hb | exact st_5 hb | exact st_o hb2 | exact st_1 hb2 | exact st_2 hb2 | exact st_3 hb2 | exact st_4 hb2 | exact st_5 hb2) rfl dX12_save_2 ?_
  try simp only [pM_8, pM_wL (k := 21) (by decide)]
  refine g_putL 8 rfl fX12_187 (by first | rfl | exact st_o hb | exact st_1 hb | exact st_2 hb | exact st_3 hb | exact st_4 hb | exact st_5 hb | exact st_o hb2 | exact st_1 hb2 | exact st_2 hb2 | exact st_3 hb2 | exact st_4 hb2 | exact st_5 hb2) rfl dX12_save_5 ?_
  try simp only [pM_8, pM_wL (k := 21) (by decide)]
  refine g_iconst 9 rfl (v := 0) dX12_save_8 (by decide) ?_
  refine g_istore1 10 rfl dX12_save_9 rfl rfl ?_
  generalize hM0 : setL M 0 21 (sD x).toInt64 = M0
  have r11 : ∀ f, (pM (setA M0 11 f) x).1 11 = f := fun f => by rw [pM_o (Or.inr (by decide)), sA_s]
  have w11 : ∀ f e, setA (pM (setA M0 11 f) x) 11 e = pM (setA M0 11 e) x := fun f e => by rw [pM_wo (Or.inr (by decide)), sA_sA]
  refine g_mem (pM (setA M0 11 (M0.1 11)) x) (by rw [sA_id]) ?_
  have key : ∀ i, i ≤ 30 → ∀ f, Sv (setA M0 11 f) x i → Go GM l mX12_save 10 [.ref 0, .int (nI i)] [] (pM (setA M0 11 f) x) (fun r M' => r = none ∧ ∃ f, M' = pM (setA M0 11 f) x ∧ Sv (setA M0 11 f) x 30) := by
    refine loop_up (P := fun i => ∀ f, Sv (setA M0 11 f) x i → Go GM l mX12_save 10 [.ref 0, .int (nI i)] [] (pM (setA M0 11 f) x) (fun r M' => r = none ∧ ∃ f, M' = pM (setA M0 11 f) x ∧ Sv (setA M0 11 f) x 30)) 30 ?_ ?_
    · intro f hf
      refine g_iload1 11 rfl dX12_save_10 ?_
      refine g_bipush 13 rfl (v := 30) dX12_save_11 (by decide) ?_
      refine g_cmpge 100 16 rfl dX12_save_13 (by decide) (fun h13 => ?_) (fun h => absurd (by decide) h)
      refine g_vret rfl dX12_save_100 ?_
      exact ⟨rfl, f, rfl, hf⟩
    · intro i hi ih f hf
      refine g_iload1 11 rfl dX12_save_10 ?_
      refine g_bipush 13 rfl (v := 30) dX12_save_11 (by decide) ?_
      refine g_cmpge 100 16 rfl dX12_save_13 (by decide) (fun h => absurd h (nI_ge hi (by decide))) (fun _ => ?_)
      refine g_aload0 17 rfl dX12_save_16 ?_
      refine g_getR 20 rfl fX12_45 (by first | rfl | exact st_o hb | exact st_1 hb | exact st_2 hb | exact st_3 hb | exact st_4 hb | exact st_5 hb | exact st_o hb2 | exact st_1 hb2 | exact st_2 hb2 | exact st_3 hb2 | exact st_4 hb2 | exact st_5 hb2) rfl dX12_save_17 ?_
      refine g_iconst 21 rfl (v := 5) dX12_save_20 (by decide) ?_
      refine g_iload1 22 rfl dX12_save_21 ?_
      refine g_imul 23 rfl dX12_save_22 ?_
      rw [five, pk_mul]
      refine g_aload0 24 rfl dX12_save_23 ?_
      refine g_getR 27 rfl fX12_7 (by first | rfl | exact st_o hb | exact st_1 hb | exact st_2 hb | exact st_3 hb | exact st_4 hb | exact st_5 hb | exact st_o hb2 | exact st_1 hb2 | exact st_2 hb2 | exact st_3 hb2 | exact st_4 hb2 | exact st_5 hb2) rfl dX12_save_24 ?_
      refine g_iload1 28 rfl dX12_save_27 ?_
      refine g_iald 29 rfl dX12_save_28 (by first | rfl | exact st_o hb | exact st_1 hb | exact st_2 hb | exact st_3 hb | exact st_4 hb | exact st_5 hb | exact st_o hb2 | exact st_1 hb2 | exact st_2 hb2 | exact st_3 hb2 | exact st_4 hb2 | exact st_5 hb2) rfl rfl (by first | assumption | omega) ?_
      try simp only [pM_1, pM_2, pM_3, pM_4, pM_5, r11, w11]
      refine g_iast 30 rfl dX12_save_29 (by first | rfl | exact st_o hb | exact st_1 hb | exact st_2 hb | exact st_3 hb | exact st_4 hb | exact st_5 hb | exact st_o hb2 | exact st_1 hb2 | exact st_2 hb2 | exact st_3 hb2 | exact st_4 hb2 | exact st_5 hb2) rfl rfl (by first | assumption | omega) ?_
      try simp only [pM_1, pM_2, pM_3, pM_4, pM_5, r11, w11]
      refine g_aload0 31 rfl dX12_save_30 ?_
      refine g_getR 34 rfl fX12_45 (by first | rfl | exact st_o hb | exact st_1 hb | exact st_2 hb | exact st_3 hb | exact st_4 hb | exact st_5 hb | exact st_o hb2 | exact st_1 hb2 | exact st_2 hb2 | exact st_3 hb2 | exact st_4 hb2 | exact st_5 hb2) rfl dX12_save_31 ?_
      refine g_iconst 35 rfl (v := 5) dX12_save_34 (by decide) ?_
      refine g_iload1 36 rfl dX12_save_35 ?_
      refine g_imul 37 rfl dX12_save_36 ?_
      rw [five, pk_mul]
      refine g_iconst 38 rfl (v := 1) dX12_save_37 (by decide) ?_
      refine g_iadd 39 rfl dX12_save_38 ?_
      rw [nI_1]
      refine g_aload0 40 rfl dX12_save_39 ?_
      refine g_getR 43 rfl fX12_13 (by first | rfl | exact st_o hb | exact st_1 hb | exact st_2 hb | exact st_3 hb | exact st_4 hb | exact st_5 hb | exact st_o hb2 | exact st_1 hb2 | exact st_2 hb2 | exact st_3 hb2 | exact st_4 hb2 | exact st_5 hb2) rfl dX12_save_40 ?_
      refine g_iload1 44 rfl dX12_save_43 ?_
      refine g_iald 45 rfl dX12_save_44 (by first | rfl | exact st_o hb | exact st_1 hb | exact st_2 hb | exact st_3 hb | exact st_4 hb | exact st_5 hb | exact st_o hb2 | exact st_1 hb2 | exact st_2 hb2 | exact st_3 hb2 | exact st_4 hb2 | exact st_5 hb2) rfl rfl (by first | assumption | omega) ?_
      try simp only [pM_1, pM_2, pM_3, pM_4, pM_5, r11, w11]
      refine g_iast 46 rfl dX12_save_45 (by first | rfl | exact st_o hb | exact st_1 hb | exact st_2 hb | exact st_3 hb | exact st_4 hb | exact st_5 hb | exact st_o hb2 | exact st_1 hb2 | exact st_2 hb2 | exact st_3 hb2 | exact st_4 hb2 | exact st_5 hb2) rfl rfl (by first | assumption | omega) ?_
      try simp only [pM_1, pM_2, pM_3, pM_4, pM_5, r11, w11]
      refine g_aload0 47 rfl dX12_save_46 ?_
      refine g_getR 50 rfl fX12_45 (by first | rfl | exact st_o hb | exact st_1 hb | exact st_2 hb | exact st_3 hb | exact st_4 hb | exact st_5 hb | exact st_o hb2 | exact st_1 hb2 | exact st_2 hb2 | exact st_3 hb2 | exact st_4 hb2 | exact st_5 hb2) rfl dX12_save_47 ?_
      refine g_iconst 51 rfl (v := 5) dX12_save_50 (by decide) ?_
      refine g_iload1 52 rfl dX12_save_51 ?_
      refine g_imul 53 rfl dX12_save_52 ?_
      rw [five, pk_mul]
      refine g_iconst 54 rfl (v := 2) dX12_save_53 (by decide) ?_
      refine g_iadd 55 rfl dX12_save_54 ?_
      rw [show (2 : Int32) = nI 2 from rfl, nI_add]
      refine g_aload0 56 rfl dX12_save_55 ?_
      refine g_getR 59 rfl fX12_16 (by first | rfl | exact st_o hb | exact st_1 hb | exact st_2 hb | exact st_3 hb | exact st_4 hb | exact st_5 hb | exact st_o hb2 | exact st_1 hb2 | exact st_2 hb2 | exact st_3 hb2 | exact st_4 hb2 | exact st_5 hb2) rfl dX12_save_56 ?_
      refine g_iload1 60 rfl dX12_save_59 ?_
      refine g_iald 61 rfl dX12_save_60 (by first | rfl | exact st_o hb | exact st_1 hb | exact st_2 hb | exact st_3 hb | exact st_4 hb | exact st_5 hb | exact st_o hb2 | exact st_1 hb2 | exact st_2 hb2 | exact st_3 hb2 | exact st_4 hb2 | exact st_5 hb2) rfl rfl (by first | assumption | omega) ?_
      try simp only [pM_1, pM_2, pM_3, pM_4, pM_5, r11, w11]
      refine g_iast 62 rfl dX12_save_61 (by first | rfl | exact st_o hb | exact st_1 hb | exact st_2 hb | exact st_3 hb | exact st_4 hb | exact st_5 hb | exact st_o hb2 | exact st_1 hb2 | exact st_2 hb2 | exact st_3 hb2 | exact st_4 hb2 | exact st_5 hb2) rfl rfl (by first | assumption | omega) ?_
      try simp only [pM_1, pM_2, pM_3, pM_4, pM_5, r11, w11]
      refine g_aload0 63 rfl dX12_save_62 ?_
      refine g_getR 66 rfl fX12_45 (by first | rfl | exact st_o hb | exact st_1 hb | exact st_2 hb | exact st_3 hb | exact st_4 hb | exact st_5 hb | exact st_o hb2 | exact st_1 hb2 | exact st_2 hb2 | exact st_3 hb2 | exact st_4 hb2 | exact st_5 hb2) rfl dX12_save_63 ?_
      refine g_iconst 67 rfl (v := 5) dX12_save_66 (by decide) ?_
      refine g_iload1 68 rfl dX12_save_67 ?_
      refine g_imul 69 rfl dX12_save_68 ?_
      rw [five, pk_mul]
      refine g_iconst 70 rfl (v := 3) dX12_save_69 (by decide) ?_
      refine g_iadd 71 rfl dX12_save_70 ?_
      rw [show (3 : Int32) = nI 3 from rfl, nI_add]
      refine g_aload0 72 rfl dX12_save_71 ?_
      refine g_getR 75 rfl fX12_19 (by first | rfl | exact st_o hb | exact st_1 hb | exact st_2 hb | exact st_3 hb | exact st_4 hb | exact st_5 hb | exact st_o hb2 | exact st_1 hb2 | exact st_2 hb2 | exact st_3 hb2 | exact st_4 hb2 | exact st_5 hb2) rfl dX12_save_72 ?_
      refine g_iload1 76 rfl dX12_save_75 ?_
      refine g_iald 77 rfl dX12_save_76 (by first | rfl | exact st_o hb | exact st_1 hb | exact st_2 hb | exact st_3 hb | exact st_4 hb | exact st_5 hb | exact st_o hb2 | exact st_1 hb2 | exact st_2 hb2 | exact st_3 hb2 | exact st_4 hb2 | exact st_5 hb2) rfl rfl (by first | assumption | omega) ?_
      try simp only [pM_1, pM_2, pM_3, pM_4, pM_5, r11, w11]
      refine g_iast 78 rfl dX12_save_77 (by first | rfl | exact st_o hb | exact st_1 hb | exact st_2 hb | exact st_3 hb | exact st_4 hb | exact st_5 hb | exact st_o hb2 | exact st_1 hb2 | exact st_2 hb2 | exact st_3 hb2 | exact st_4 hb2 | exact st_5 hb2) rfl rfl (by first | assumption | omega) ?_
      try simp only [pM_1, pM_2, pM_3, pM_4, pM_5, r11, w11]
      refine g_aload0 79 rfl dX12_save_78 ?_
      refine g_getR 82 rfl fX12_45 (by first | rfl | exact st_o hb | exact st_1 hb | exact st_2 hb | exact st_3 hb | exact st_4 hb | exact st_5 hb | exact st_o hb2 | exact st_1 hb2 | exact st_2 hb2 | exact st_3 hb2 | exact st_4 hb2 | exact st_5 hb2) rfl dX12_save_79 ?_
      refine g_iconst 83 rfl (v := 5) dX12_save_82 (by decide) ?_
      refine g_iload1 84 rfl dX12_save_83 ?_
      refine g_imul 85 rfl dX12_save_84 ?_
      rw [five, pk_mul]
      refine g_iconst 86 rfl (v := 4) dX12_save_85 (by decide) ?_
      refine g_iadd 87 rfl dX12_save_86 ?_
      rw [show (4 : Int32) = nI 4 from rfl, nI_add]
      refine g_aload0 88 rfl dX12_save_87 ?_
      refine g_getR 91 rfl fX12_22 (by first | rfl | exact st_o hb | exact st_1 hb | exact st_2 hb | exact st_3 hb | exact st_4 hb | exact st_5 hb | exact st_o hb2 | exact st_1 hb2 | exact st_2 hb2 | exact st_3 hb2 | exact st_4 hb2 | exact st_5 hb2) rfl dX12_save_88 ?_
      refine g_iload1 92 rfl dX12_save_91 ?_
      refine g_iald 93 rfl dX12_save_92 (by first | rfl | exact st_o hb | exact st_1 hb | exact st_2 hb | exact st_3 hb | exact st_4 hb | exact st_5 hb | exact st_o hb2 | exact st_1 hb2 | exact st_2 hb2 | exact st_3 hb2 | exact st_4 hb2 | exact st_5 hb2) rfl rfl (by first | assumption | omega) ?_
      try simp only [pM_1, pM_2, pM_3, pM_4, pM_5, r11, w11]
      refine g_iast 94 rfl dX12_save_93 (by first | rfl | exact st_o hb | exact st_1 hb | exact st_2 hb | exact st_3 hb | exact st_4 hb | exact st_5 hb | exact st_o hb2 | exact st_1 hb2 | exact st_2 hb2 | exact st_3 hb2 | exact st_4 hb2 | exact st_5 hb2) rfl rfl (by first | assumption | omega) ?_
      try simp only [pM_1, pM_2, pM_3, pM_4, pM_5, r11, w11]
      refine g_iinc1 97 rfl dX12_save_94 rfl rfl _ (by first | exact iinc1 _ | exact iincx _ | rfl) ?_
      refine g_goto 10 dX12_save_97 (by decide) ?_
      refine ih _ (fun c hc => ?_)
      rw [sA_s]
      by_cases hci : c < i
      · have := hf c hci
        rw [sA_s] at this
        rw [pk_un (by omega), pk_un (by omega), pk_un (by omega), pk_un (by omega), pk_un (by omega), pk_un (by omega), pk_un (by omega), pk_un (by omega), pk_un (by omega), pk_un (by omega), pk_un (by omega), pk_un (by omega), pk_un (by omega), pk_un (by omega), pk_un (by omega), pk_un (by omega), pk_un (by omega), pk_un (by omega), pk_un (by omega), pk_un (by omega), pk_un (by omega), pk_un (by omega), pk_un (by omega), pk_un (by omega), pk_un (by omega)]
        exact this
      · have : c = i := by omega
        subst this
        refine ⟨?_, ?_, ?_, ?_, ?_⟩
        · rw [pk_un (by omega), pk_un (by omega), pk_un (by omega), pk_un (by omega), upd_at]
        · rw [pk_un (by omega), pk_un (by omega), pk_un (by omega), upd_at]
        · rw [pk_un (by omega), pk_un (by omega), upd_at]
        · rw [pk_un (by omega), upd_at]
        · rw [upd_at]
  subst hM0
  exact key 0 (by omega) _ (fun c hc => absurd hc (by omega))
abbrev qBk (M : Mm) (x : Sx) : Rr → Mm → Prop := fun r M' => r = none ∧ ∃ y, M' = pM M y ∧ sxE 30 y x
theorem om_back {l : Launch} {M : Mm} {x y : Sx} (hS : Sv M x 30) (h21 : M.2 0 21 = (sD x).toInt64) : Ok GM l mX12_back [.ref 0] (pM M y) (qBk M x) := by
  have five : (5 : Int32) = nI 5 := rfl
  have r11 : ∀ y, (pM M y).1 11 = M.1 11 := fun y => pM_o (Or.inr (by decide))
  have r21 : ∀ y, (pM M y).2 0 21 = (sD x).toInt64 := fun y => by rw [pM_21 (by decide)]; exact h21
  refine ok_of (by decide +kernel) rfl rfl ?_
  refine g_aload0 1 rfl dX12_back_0 ?_
  refine g_aload0 2 rfl dX12_back_1 ?_
  refine g_getL 5 rfl fX12_187 (by first | rfl | exact st_o hb | exact st_1 hb | exact st_2 hb | exact st_3 hb | exact st_4 hb | exact st_5 hb | exact st_o hb2 | exact st_1 hb2 | exact st_2 hb2 | exact st_3 hb2 | exact st_4 hb2 | exact st_5 hb2) rfl dX12_back_2 ?_
  try simp only [r21, pM_w8]
  refine g_putL 8 rfl fX12_25 (by first | rfl | exact st_o hb | exact st_1 hb | exact st_2 hb | exact st_3 hb | exact st_4 hb | exact st_5 hb | exact st_o hb2 | exact st_1 hb2 | exact st_2 hb2 | exact st_3 hb2 | exact st_4 hb2 | exact st_5 hb2) rfl dX12_back_5 ?_
  try simp only [r21, pM_w8]
  refine g_iconst 9 rfl (v := 0) dX12_back_8 (by decide) ?_
  refine g_istore1 10 rfl dX12_back_9 rfl rfl ?_
  have key : ∀ i, i ≤ 30 → Go GM l mX12_back 10 [.ref 0, .int (nI i)] [] (pM M (itN (cpB x) i (wD y (sD x)))) (qBk M x) := by
    refine loop_up (P := fun i => Go GM l mX12_back 10 [.ref 0, .int (nI i)] [] (pM M (itN (cpB x) i (wD y (sD x)))) (qBk M x)) 30 ?_ ?_
    · have hD : ∀ i, sD (itN (cpB x) i (wD y (sD x))) = sD x := by
        intro i
        induction i with
        | zero => rfl
        | succ i ih => rw [it4]; exact ih
      refine g_iload1 11 rfl dX12_back_10 ?_
      refine g_bipush 13 rfl (v := 30) dX12_back_11 (by decide) ?_
      refine g_cmpge 100 16 rfl dX12_back_13 (by decide) (fun h13 => ?_) (fun h => absurd (by decide) h)
      refine g_vret rfl dX12_back_100 ?_
      exact ⟨rfl, _, rfl, (cp_E _ _).1, (cp_E _ _).2.1, (cp_E _ _).2.2.1, (cp_E _ _).2.2.2.1, (cp_E _ _).2.2.2.2, hD 30⟩
    · intro i hi ih
      obtain ⟨a1, a2, a3, a4, a5⟩ := hS i hi
      refine g_iload1 11 rfl dX12_back_10 ?_
      refine g_bipush 13 rfl (v := 30) dX12_back_11 (by decide) ?_
      refine g_cmpge 100 16 rfl dX12_back_13 (by decide) (fun h => absurd h (nI_ge hi (by decide))) (fun _ => ?_)
      refine g_aload0 17 rfl dX12_back_16 ?_
      refine g_getR 20 rfl fX12_7 (by first | rfl | exact st_o hb | exact st_1 hb | exact st_2 hb | exact st_3 hb | exact st_4 hb | exact st_5 hb | exact st_o hb2 | exact st_1 hb2 | exact st_2 hb2 | exact st_3 hb2 | exact st_4 hb2 | exact st_5 hb2) rfl dX12_back_17 ?_
      refine g_iload1 21 rfl dX12_back_20 ?_
      refine g_aload0 22 rfl dX12_back_21 ?_
      refine g_getR 25 rfl fX12_45 (by first | rfl | exact st_o hb | exact st_1 hb | exact st_2 hb | exact st_3 hb | exact st_4 hb | exact st_5 hb | exact st_o hb2 | exact st_1 hb2 | exact st_2 hb2 | exact st_3 hb2 | exact st_4 hb2 | exact st_5 hb2) rfl dX12_back_22 ?_
      refine g_iconst 26 rfl (v := 5) dX12_back_25 (by decide) ?_
      refine g_iload1 27 rfl dX12_back_26 ?_
      refine g_imul 28 rfl dX12_back_27 ?_
      rw [five, pk_mul]
      refine g_iald 29 rfl dX12_back_28 (by first | rfl | exact st_o hb | exact st_1 hb | exact st_2 hb | exact st_3 hb | exact st_4 hb | exact st_5 hb | exact st_o hb2 | exact st_1 hb2 | exact st_2 hb2 | exact st_3 hb2 | exact st_4 hb2 | exact st_5 hb2) rfl rfl (by first | assumption | omega) ?_
      try simp only [pM_1, pM_2, pM_3, pM_4, pM_5, pM_w1, pM_w2, pM_w3, pM_w4, pM_w5, r11, a1, a2, a3, a4, a5]
      refine g_iast 30 rfl dX12_back_29 (by first | rfl | exact st_o hb | exact st_1 hb | exact st_2 hb | exact st_3 hb | exact st_4 hb | exact st_5 hb | exact st_o hb2 | exact st_1 hb2 | exact st_2 hb2 | exact st_3 hb2 | exact st_4 hb2 | exact st_5 hb2) rfl rfl (by first | assumption | omega) ?_
      try simp only [pM_1, pM_2, pM_3, pM_4, pM_5, pM_w1, pM_w2, pM_w3, pM_w4, pM_w5, r11, a1, a2, a3, a4, a5]
      refine g_aload0 31 rfl dX12_back_30 ?_
      refine g_getR 34 rfl fX12_13 (by first | rfl | exact st_o hb | exact st_1 hb | exact st_2 hb | exact st_3 hb | exact st_4 hb | exact st_5 hb | exact st_o hb2 | exact st_1 hb2 | exact st_2 hb2 | exact st_3 hb2 | exact st_4 hb2 | exact st_5 hb2) rfl dX12_back_31 ?_
      refine g_iload1 35 rfl dX12_back_34 ?_
      refine g_aload0 36 rfl dX12_back_35 ?_
      refine g_getR 39 rfl fX12_45 (by first | rfl | exact st_o hb | exact st_1 hb | exact st_2 hb | exact st_3 hb | exact st_4 hb | exact st_5 hb | exact st_o hb2 | exact st_1 hb2 | exact st_2 hb2 | exact st_3 hb2 | exact st_4 hb2 | exact st_5 hb2) rfl dX12_back_36 ?_
      refine g_iconst 40 rfl (v := 5) dX12_back_39 (by decide) ?_
      refine g_iload1 41 rfl dX12_back_40 ?_
      refine g_imul 42 rfl dX12_back_41 ?_
      rw [five, pk_mul]
      refine g_iconst 43 rfl (v := 1) dX12_back_42 (by decide) ?_
      refine g_iadd 44 rfl dX12_back_43 ?_
      rw [nI_1]
      refine g_iald 45 rfl dX12_back_44 (by first | rfl | exact st_o hb | exact st_1 hb | exact st_2 hb | exact st_3 hb | exact st_4 hb | exact st_5 hb | exact st_o hb2 | exact st_1 hb2 | exact st_2 hb2 | exact st_3 hb2 | exact st_4 hb2 | exact st_5 hb2) rfl rfl (by first | assumption | omega) ?_
      try simp only [pM_1, pM_2, pM_3, pM_4, pM_5, pM_w1, pM_w2, pM_w3, pM_w4, pM_w5, r11, a1, a2, a3, a4, a5]
      refine g_iast 46 rfl dX12_back_45 (by first | rfl | exact st_o hb | exact st_1 hb | exact st_2 hb | exact st_3 hb | exact st_4 hb | exact st_5 hb | exact st_o hb2 | exact st_1 hb2 | exact st_2 hb2 | exact st_3 hb2 | exact st_4 hb2 | exact st_5 hb2) rfl rfl (by first | assumption | omega) ?_
      try simp only [pM_1, pM_2, pM_3, pM_4, pM_5, pM_w1, pM_w2, pM_w3, pM_w4, pM_w5, r11, a1, a2, a3, a4, a5]
      refine g_aload0 47 rfl dX12_back_46 ?_
      refine g_getR 50 rfl fX12_16 (by first | rfl | exact st_o hb | exact st_1 hb | exact st_2 hb | exact st_3 hb | exact st_4 hb | exact st_5 hb | exact st_o hb2 | exact st_1 hb2 | exact st_2 hb2 | exact st_3 hb2 | exact st_4 hb2 | exact st_5 hb2) rfl dX12_back_47 ?_
      refine g_iload1 51 rfl dX12_back_50 ?_
      refine g_aload0 52 rfl dX12_back_51 ?_
      refine g_getR 55 rfl fX12_45 (by first | rfl | exact st_o hb | exact st_1 hb | exact st_2 hb | exact st_3 hb | exact st_4 hb | exact st_5 hb | exact st_o hb2 | exact st_1 hb2 | exact st_2 hb2 | exact st_3 hb2 | exact st_4 hb2 | exact st_5 hb2) rfl dX12_back_52 ?_
      refine g_iconst 56 rfl (v := 5) dX12_back_55 (by decide) ?_
      refine g_iload1 57 rfl dX12_back_56 ?_
      refine g_imul 58 rfl dX12_back_57 ?_
      rw [five, pk_mul]
      refine g_iconst 59 rfl (v := 2) dX12_back_58 (by decide) ?_
      refine g_iadd 60 rfl dX12_back_59 ?_
      rw [show (2 : Int32) = nI 2 from rfl, nI_add]
      refine g_iald 61 rfl dX12_back_60 (by first | rfl | exact st_o hb | exact st_1 hb | exact st_2 hb | exact st_3 hb | exact st_4 hb | exact st_5 hb | exact st_o hb2 | exact st_1 hb2 | exact st_2 hb2 | exact st_3 hb2 | exact st_4 hb2 | exact st_5 hb2) rfl rfl (by first | assumption | omega) ?_
      try simp only [pM_1, pM_2, pM_3, pM_4, pM_5, pM_w1, pM_w2, pM_w3, pM_w4, pM_w5, r11, a1, a2, a3, a4, a5]
      refine g_iast 62 rfl dX12_back_61 (by first | rfl | exact st_o hb | exact st_1 hb | exact st_2 hb | exact st_3 hb | exact st_4 hb | exact st_5 hb | exact st_o hb2 | exact st_1 hb2 | exact st_2 hb2 | exact st_3 hb2 | exact st_4 hb2 | exact st_5 hb2) rfl rfl (by first | assumption | omega) ?_
      try simp only [pM_1, pM_2, pM_3, pM_4, pM_5, pM_w1, pM_w2, pM_w3, pM_w4, pM_w5, r11, a1, a2, a3, a4, a5]
      refine g_aload0 63 rfl dX12_back_62 ?_
      refine g_getR 66 rfl fX12_19 (by first | rfl | exact st_o hb | exact st_1 hb | exact st_2 hb | exact st_3 hb | exact st_4 hb | exact st_5 hb | exact st_o hb2 | exact st_1 hb2 | exact st_2 hb2 | exact st_3 hb2 | exact st_4 hb2 | exact st_5 hb2) rfl dX12_back_63 ?_
      refine g_iload1 67 rfl dX12_back_66 ?_
      refine g_aload0 68 rfl dX12_back_67 ?_
      refine g_getR 71 rfl fX12_45 (by first | rfl | exact st_o hb | exact st_1 hb | exact st_2 hb | exact st_3 hb | exact st_4 hb | exact st_5 hb | exact st_o hb2 | exact st_1 hb2 | exact st_2 hb2 | exact st_3 hb2 | exact st_4 hb2 | exact st_5 hb2) rfl dX12_back_68 ?_
      refine g_iconst 72 rfl (v := 5) dX12_back_71 (by decide) ?_
      refine g_iload1 73 rfl dX12_back_72 ?_
      refine g_imul 74 rfl dX12_back_73 ?_
      rw [five, pk_mul]
      refine g_iconst 75 rfl (v := 3) dX12_back_74 (by decide) ?_
      refine g_iadd 76 rfl dX12_back_75 ?_
      rw [show (3 : Int32) = nI 3 from rfl, nI_add]
      refine g_iald 77 rfl dX12_back_76 (by first | rfl | exact st_o hb | exact st_1 hb | exact st_2 hb | exact st_3 hb | exact st_4 hb | exact st_5 hb | exact st_o hb2 | exact st_1 hb2 | exact st_2 hb2 | exact st_3 hb2 | exact st_4 hb2 | exact st_5 hb2) rfl rfl (by first | assumption | omega) ?_
      try simp only [pM_1, pM_2, pM_3, pM_4, pM_5, pM_w1, pM_w2, pM_w3, pM_w4, pM_w5, r11, a1, a2, a3, a4, a5]
      refine g_iast 78 rfl dX12_back_77 (by first | rfl | exact st_o hb | exact st_1 hb | exact st_2 hb | exact st_3 hb | exact st_4 hb | exact st_5 hb | exact st_o hb2 | exact st_1 hb2 | exact st_2 hb2 | exact st_3 hb2 | exact st_4 hb2 | exact st_5 hb2) rfl rfl (by first | assumption | omega) ?_
      try simp only [pM_1, pM_2, pM_3, pM_4, pM_5, pM_w1, pM_w2, pM_w3, pM_w4, pM_w5, r11, a1, a2, a3, a4, a5]
      refine g_aload0 79 rfl dX12_back_78 ?_
      refine g_getR 82 rfl fX12_22 (by first | rfl | exact st_o hb | exact st_1 hb | exact st_2 hb | exact st_3 hb | exact st_4 hb | exact st_5 hb | exact st_o hb2 | exact st_1 hb2 | exact st_2 hb2 | exact st_3 hb2 | exact st_4 hb2 | exact st_5 hb2) rfl dX12_back_79 ?_
      refine g_iload1 83 rfl dX12_back_82 ?_
      refine g_aload0 84 rfl dX12_back_83 ?_
      refine g_getR 87 rfl fX12_45 (by first | rfl | exact st_o hb | exact st_1 hb | exact st_2 hb | exact st_3 hb | exact st_4 hb | exact st_5 hb | exact st_o hb2 | exact st_1 hb2 | exact st_2 hb2 | exact st_3 hb2 | exact st_4 hb2 | exact st_5 hb2) rfl dX12_back_84 ?_
      refine g_iconst 88 rfl (v := 5) dX12_back_87 (by decide) ?_
      refine g_iload1 89 rfl dX12_back_88 ?_
      refine g_imul 90 rfl dX12_back_89 ?_
      rw [five, pk_mul]
      refine g_iconst 91 rfl (v := 4) dX12_back_90 (by decide) ?_
      refine g_iadd 92 rfl dX12_back_91 ?_
      rw [show (4 : Int32) = nI 4 from rfl, nI_add]
      refine g_iald 93 rfl dX12_back_92 (by first | rfl | exact st_o hb | exact st_1 hb | exact st_2 hb | exact st_3 hb | exact st_4 hb | exact st_5 hb | exact st_o hb2 | exact st_1 hb2 | exact st_2 hb2 | exact st_3 hb2 | exact st_4 hb2 | exact st_5 hb2) rfl rfl (by first | assumption | omega) ?_
      try simp only [pM_1, pM_2, pM_3, pM_4, pM_5, pM_w1, pM_w2, pM_w3, pM_w4, pM_w5, r11, a1, a2, a3, a4, a5]
      refine g_iast 94 rfl dX12_back_93 (by first | rfl | exact st_o hb | exact st_1 hb | exact st_2 hb | exact st_3 hb | exact st_4 hb | exact st_5 hb | exact st_o hb2 | exact st_1 hb2 | exact st_2 hb2 | exact st_3 hb2 | exact st_4 hb2 | exact st_5 hb2) rfl rfl (by first | assumption | omega) ?_
      try simp only [pM_1, pM_2, pM_3, pM_4, pM_5, pM_w1, pM_w2, pM_w3, pM_w4, pM_w5, r11, a1, a2, a3, a4, a5]
      refine g_iinc1 97 rfl dX12_back_94 rfl rfl _ (by first | exact iinc1 _ | exact iincx _ | rfl) ?_
      refine g_goto 10 dX12_back_97 (by decide) ?_
      exact ih
  exact key 0 (by omega)
