/-! the reference's calls: what would be, loads, water, years -/
theorem sv_kp {N : Mm} {x : Sx} {f : Nat → Int32} : kpM N (setA (setL N 0 21 (sD x).toInt64) 11 f) := (kpM.rf.sL (by decide)).sA (by decide)
theorem sv_21 {N : Mm} {x : Sx} {f : Nat → Int32} : (setA (setL N 0 21 (sD x).toInt64) 11 f).2 0 21 = (sD x).toInt64 := by simp [setA, setL]
theorem mub_proud {l : Launch} {M : Mm} {g : Sg} {b : Nat} {a w r o : Int32} (h : MS g M) (hI : IV b g) : Ok GM l mX12_proud [.ref 0, .int a, .int w, .int r, .int o] M (qM (fProud g a w r o)) := by
  obtain ⟨N, x, rfl, hx, hr⟩ := h
  have h30 := hr.m.le
  have hs := SI_E hI.1 hx
  refine ok_of (by decide +kernel) rfl rfl ?_
  refine g_aload0 1 rfl dX12_proud_0 ?_
  refine g_iload1 2 rfl dX12_proud_1 ?_
  refine g_callV 5 1 rfl kX12_165 (by first | rfl | exact st_o hb | exact st_1 hb | exact st_2 hb | exact st_3 hb | exact st_4 hb | exact st_5 hb | exact st_o hb2 | exact st_1 hb2 | exact st_2 hb2 | exact st_3 hb2 | exact st_4 hb2 | exact st_5 hb2) dX12_proud_2 ⟨rfl, rfl⟩ (om_isStn hx hr) rfl rfl rfl (fun r M1 hq => ?_)
  obtain ⟨rfl, ⟨rfl, hq⟩ | ⟨rfl, hq⟩⟩ := hq
  try simp only [rV, Option.toList, List.cons_append, List.nil_append]
  · obtain ⟨c, hc, rfl⟩ := vp_in_of hq.1 (Nat.lt_of_le_of_lt h30 (by decide))
    have hc : c < gR g * gW g := hc
    have ec : ce (nI c) = c := ce_nI (by omega)
    refine g_ifne 11 8 rfl dX12_proud_5 (by decide) (fun _ => ?_) (fun h => absurd h (by decide))
    have bad : ¬ (okW w ∧ okR 0 r ∧ vp_in o 4) → Go GM l mX12_proud 36 [.ref 0, .int (nI c), .int w, .int r, .int o, .null, .null] [] (pM N x) (qM (fProud g (nI c) w r o)) := by
      intro hn
      refine g_bipush 38 rfl (v := (-102)) dX12_proud_36 (by decide) ?_
      refine g_iret rfl dX12_proud_38 ?_
      rw [fProud, ifC_t hq, ifC_f hn]
      exact ⟨rfl, N, x, rfl, hx, hr⟩
    refine g_iload2 12 rfl dX12_proud_11 ?_
    refine g_callS 15 1 rfl kX12_168 dX12_proud_12 ⟨rfl, rfl⟩ om_isWeight rfl rfl rfl (fun r M1 hq => ?_)
    obtain ⟨rfl, ⟨rfl, hw⟩ | ⟨rfl, hw⟩⟩ := hq
    try simp only [rV, Option.toList, List.cons_append, List.nil_append]
    · refine g_ifeq 36 18 rfl dX12_proud_15 (by decide) (fun h => absurd h (by decide)) (fun _ => ?_)
      refine g_iload3 19 rfl dX12_proud_18 ?_
      refine g_iconst 20 rfl (v := 0) dX12_proud_19 (by decide) ?_
      refine g_bipush 22 rfl (v := 40) dX12_proud_20 (by decide) ?_
      refine g_callS 25 3 rfl kX12_78 dX12_proud_22 ⟨rfl, rfl⟩ om_within rfl rfl rfl (fun r M1 hq => ?_)
      obtain ⟨rfl, ⟨rfl, hR⟩ | ⟨rfl, hR⟩⟩ := hq
      try simp only [rV, Option.toList, List.cons_append, List.nil_append]
      · have hR : okR 0 r := hR
        refine g_ifeq 36 28 rfl dX12_proud_25 (by decide) (fun h => absurd h (by decide)) (fun _ => ?_)
        refine g_iload4 30 rfl dX12_proud_28 ?_
        refine g_callS 33 1 rfl kX12_177 dX12_proud_30 ⟨rfl, rfl⟩ om_isOrder rfl rfl rfl (fun r M1 hq => ?_)
        obtain ⟨rfl, ⟨rfl, ho⟩ | ⟨rfl, ho⟩⟩ := hq
        try simp only [rV, Option.toList, List.cons_append, List.nil_append]
        · obtain ⟨k, hk, rfl⟩ := okR_nI hR (by decide)
          obtain ⟨j, hj, rfl⟩ := vp_in_of ho (by decide)
          refine g_ifne 39 36 rfl dX12_proud_33 (by decide) (fun _ => ?_) (fun h => absurd h (by decide))
          refine g_aload0 40 rfl dX12_proud_39 ?_
          refine g_callV 43 0 rfl kX12_190 (by first | rfl | exact st_o hb | exact st_1 hb | exact st_2 hb | exact st_3 hb | exact st_4 hb | exact st_5 hb | exact st_o hb2 | exact st_1 hb2 | exact st_2 hb2 | exact st_3 hb2 | exact st_4 hb2 | exact st_5 hb2) dX12_proud_40 ⟨rfl, rfl⟩ om_save rfl rfl rfl (fun r M1 hq => ?_)
          obtain ⟨rfl, f, rfl, hf⟩ := hq
          try simp only [rV, Option.toList, List.cons_append, List.nil_append]
          have kO := sv_kp (N := N) (x := x) (f := f)
          have h21 := sv_21 (N := N) (x := x) (f := f)
          generalize setA (setL N 0 21 (sD x).toInt64) 11 f = O at hf kO h21 ⊢
          have hrO := hr.fr kO
          refine g_aload0 44 rfl dX12_proud_43 ?_
          refine g_getR 47 rfl fX12_16 (by first | rfl | exact st_o hb | exact st_1 hb | exact st_2 hb | exact st_3 hb | exact st_4 hb | exact st_5 hb | exact st_o hb2 | exact st_1 hb2 | exact st_2 hb2 | exact st_3 hb2 | exact st_4 hb2 | exact st_5 hb2) rfl dX12_proud_44 ?_
          refine g_iload1 48 rfl dX12_proud_47 ?_
          refine g_iald 49 rfl dX12_proud_48 (by first | rfl | exact st_o hb | exact st_1 hb | exact st_2 hb | exact st_3 hb | exact st_4 hb | exact st_5 hb | exact st_o hb2 | exact st_1 hb2 | exact st_2 hb2 | exact st_3 hb2 | exact st_4 hb2 | exact st_5 hb2) rfl rfl (by first | assumption | omega) ?_
          try simp only [pM_3]
          refine g_istore5 51 rfl dX12_proud_49 rfl rfl ?_
          refine g_aload0 52 rfl dX12_proud_51 ?_
          refine g_iload2 53 rfl dX12_proud_52 ?_
          refine g_iload3 54 rfl dX12_proud_53 ?_
          refine g_iload4 56 rfl dX12_proud_54 ?_
          refine g_callVi 59 3 rfl kX12_180 (by first | rfl | exact st_o hb | exact st_1 hb | exact st_2 hb | exact st_3 hb | exact st_4 hb | exact st_5 hb | exact st_o hb2 | exact st_1 hb2 | exact st_2 hb2 | exact st_3 hb2 | exact st_4 hb2 | exact st_5 hb2) dX12_proud_56 ⟨rfl, rfl⟩ (om_goRounds hrO.m hj (by omega) hs) rfl rfl rfl ?_
          refine g_pop 60 rfl dX12_proud_59 rfl ?_
          refine g_iload5 62 rfl dX12_proud_60 ?_
          refine g_aload0 63 rfl dX12_proud_62 ?_
          refine g_getR 66 rfl fX12_16 (by first | rfl | exact st_o hb | exact st_1 hb | exact st_2 hb | exact st_3 hb | exact st_4 hb | exact st_5 hb | exact st_o hb2 | exact st_1 hb2 | exact st_2 hb2 | exact st_3 hb2 | exact st_4 hb2 | exact st_5 hb2) rfl dX12_proud_63 ?_
          refine g_iload1 67 rfl dX12_proud_66 ?_
          refine g_iald 68 rfl dX12_proud_67 (by first | rfl | exact st_o hb | exact st_1 hb | exact st_2 hb | exact st_3 hb | exact st_4 hb | exact st_5 hb | exact st_o hb2 | exact st_1 hb2 | exact st_2 hb2 | exact st_3 hb2 | exact st_4 hb2 | exact st_5 hb2) rfl rfl (by first | assumption | omega) ?_
          try simp only [pM_3]
          refine g_isub 69 rfl dX12_proud_68 ?_
          refine g_istore6 71 rfl dX12_proud_69 rfl rfl ?_
          refine g_aload0 72 rfl dX12_proud_71 ?_
          refine g_callV 75 0 rfl kX12_193 (by first | rfl | exact st_o hb | exact st_1 hb | exact st_2 hb | exact st_3 hb | exact st_4 hb | exact st_5 hb | exact st_o hb2 | exact st_1 hb2 | exact st_2 hb2 | exact st_3 hb2 | exact st_4 hb2 | exact st_5 hb2) dX12_proud_72 ⟨rfl, rfl⟩ (om_back hf h21) rfl rfl rfl (fun r M1 hq => ?_)
          obtain ⟨rfl, y, rfl, hy⟩ := hq
          try simp only [rV, Option.toList, List.cons_append, List.nil_append]
          refine g_iload6 77 rfl dX12_proud_75 ?_
          refine g_iret rfl dX12_proud_77 ?_
          have e := rouN_E (o := j) (k := k) (w := w) (s := 0) (t := 0) hx rfl
          refine ⟨?_, O, y, rfl, (hy.le h30).tr hx, hrO⟩
          rw [fProud, ifC_t hq, ifC_t ⟨hw, hR, ho⟩, rouS, ec, ce_nI (by omega), ce_nI (by omega), ← e.1.H hc, ← hx.H hc]
        · refine g_ifne 39 36 rfl dX12_proud_33 (by decide) (fun h => absurd rfl h) (fun _ => ?_)
          exact bad (fun z => ho z.2.2)
      · refine g_ifeq 36 28 rfl dX12_proud_25 (by decide) (fun _ => ?_) (fun h => absurd rfl h)
        exact bad (fun z => hR z.2.1)
    · refine g_ifeq 36 18 rfl dX12_proud_15 (by decide) (fun _ => ?_) (fun h => absurd rfl h)
      exact bad (fun z => hw z.1)
  · refine g_ifne 11 8 rfl dX12_proud_5 (by decide) (fun h => absurd rfl h) (fun _ => ?_)
    refine g_bipush 10 rfl (v := (-101)) dX12_proud_8 (by decide) ?_
    refine g_iret rfl dX12_proud_10 ?_
    rw [fProud, ifC_f hq]
    exact ⟨rfl, N, x, rfl, hx, hr⟩
theorem ri_st {R W : Nat} {x : Sx} {w : Int32} : ∀ i, ∃ a b, a ≤ b ∧ b ≤ i ∧ ringN R W x w i = nI a ∧ stoN x i = nI b
  | 0 => ⟨0, 0, by omega, by omega, rfl, rfl⟩
  | i + 1 => by
    obtain ⟨a, b, h1, h2, h3, h4⟩ := ri_st (R := R) (W := W) (x := x) (w := w) i
    rw [ringN, stoN, h3, h4]
    split
    · exact ⟨a, b, by omega, by omega, rfl, rfl⟩
    · split
      · exact ⟨a + 1, b + 1, by omega, by omega, nI_1 a, nI_1 b⟩
      · exact ⟨a, b + 1, by omega, by omega, rfl, nI_1 b⟩
theorem sto_K {x y : Sx} : ∀ n, (∀ i, i < n → (sK x i = -1 ↔ sK y i = -1)) → stoN x n = stoN y n
  | 0, _ => rfl
  | n + 1, h => by
    rw [stoN, stoN, sto_K n (fun i hi => h i (by omega))]
    have := h n (by omega)
    by_cases hk : sK x n = -1
    · rw [if_pos hk, if_pos (this.mp hk)]
    · rw [if_neg hk, if_neg (fun z => hk (this.mpr z))]
theorem str_K {R W c : Nat} {x : Sx} {w : Int32} (d : Nat) : sK (strS R W c w x) d = -1 ↔ sK x d = -1 := by
  have eK : ∀ (y : Sx) f, sK (wH y f) = sK y := fun _ _ => rfl
  unfold strS firmS
  rw [eK]
  generalize (if sS (wH x (upd (sH x) c (sH x c - sinkS R W x c w))) c + 1 < 99 then sS (wH x (upd (sH x) c (sH x c - sinkS R W x c w))) c + 1 else 99) = z
  have up : ∀ v : Int32, v ≠ -1 → sK x c ≠ -1 → (upd (sK x) c v d = -1 ↔ sK x d = -1) := by
    intro v hv hc
    by_cases hd : d = c
    · subst hd
      rw [upd_at]
      exact ⟨fun z => absurd z hv, fun z => absurd z hc⟩
    · rw [pk_un hd]
  split
  · exact Iff.rfl
  · rename_i hn
    have hc : sK x c ≠ -1 := fun z => hn (Or.inl z)
    split
    · exact up 2 (by decide) hc
    · split
      · exact up 0 (by decide) hc
      · exact Iff.rfl
theorem rnd_K {R W o : Nat} {x : Sx} {w : Int32} (d : Nat) : ∀ i, sK (itN (rndB R W o w) i (x, 0)).1 d = -1 ↔ sK x d = -1
  | 0 => Iff.rfl
  | i + 1 => by
    rw [it4, rndB]
    exact (str_K d).trans (rnd_K d i)
theorem mub_until {l : Launch} {M : Mm} {g : Sg} {b : Nat} {w o : Int32} (h : MS g M) (hI : IV b g) : Ok GM l mX12_until [.ref 0, .int w, .int o] M (qM (fUntil g w o)) := by
  obtain ⟨N, x, rfl, hx, hr⟩ := h
  have h30 := hr.m.le
  have hs := SI_E hI.1 hx
  have h0 := hr.s0
  refine ok_of (by decide +kernel) rfl rfl ?_
  refine g_aload0 1 rfl dX12_until_0 ?_
  refine g_getI 4 rfl fX12_131 (by first | rfl | exact st_o hb | exact st_1 hb | exact st_2 hb | exact st_3 hb | exact st_4 hb | exact st_5 hb | exact st_o hb2 | exact st_1 hb2 | exact st_2 hb2 | exact st_3 hb2 | exact st_4 hb2 | exact st_5 hb2) rfl dX12_until_1 ?_
  try simp only [pM_0]
  refine g_ifne 10 7 rfl dX12_until_4 (by decide) (fun h4 => ?_) (fun h4 => ?_)
  · have hq : 0 < gN g := Classical.byContradiction (fun z => h4 (h0.mpr z))
    have bad : ¬ (okW w ∧ vp_in o 4) → Go GM l mX12_until 24 [.ref 0, .int w, .int o, .null] [] (pM N x) (qM (fUntil g w o)) := by
      intro hn
      refine g_bipush 26 rfl (v := (-102)) dX12_until_24 (by decide) ?_
      refine g_iret rfl dX12_until_26 ?_
      rw [fUntil, ifC_t hq, ifC_f hn]
      exact ⟨rfl, N, x, rfl, hx, hr⟩
    refine g_iload1 11 rfl dX12_until_10 ?_
    refine g_callS 14 1 rfl kX12_168 dX12_until_11 ⟨rfl, rfl⟩ om_isWeight rfl rfl rfl (fun r M1 hq => ?_)
    obtain ⟨rfl, ⟨rfl, hw⟩ | ⟨rfl, hw⟩⟩ := hq
    try simp only [rV, Option.toList, List.cons_append, List.nil_append]
    · refine g_ifeq 24 17 rfl dX12_until_14 (by decide) (fun h => absurd h (by decide)) (fun _ => ?_)
      refine g_iload2 18 rfl dX12_until_17 ?_
      refine g_callS 21 1 rfl kX12_177 dX12_until_18 ⟨rfl, rfl⟩ om_isOrder rfl rfl rfl (fun r M1 hq => ?_)
      obtain ⟨rfl, ⟨rfl, ho⟩ | ⟨rfl, ho⟩⟩ := hq
      try simp only [rV, Option.toList, List.cons_append, List.nil_append]
      · obtain ⟨j, hj, rfl⟩ := vp_in_of ho (by decide)
        have hans : (fUntil g w (nI j)).1 = untF (gR g) (gW g) j w (stoN x (gR g * gW g)) 100 x 0 := by
          rw [fUntil, ifC_t hq, ifC_t ⟨hw, ho⟩, ce_nI (by omega), stoN_E hx _ (Nat.le_refl _), untF_E 100 0 hx]
        refine g_ifne 27 24 rfl dX12_until_21 (by decide) (fun _ => ?_) (fun h => absurd h (by decide))
        refine g_aload0 28 rfl dX12_until_27 ?_
        refine g_callV 31 0 rfl kX12_190 (by first | rfl | exact st_o hb | exact st_1 hb | exact st_2 hb | exact st_3 hb | exact st_4 hb | exact st_5 hb | exact st_o hb2 | exact st_1 hb2 | exact st_2 hb2 | exact st_3 hb2 | exact st_4 hb2 | exact st_5 hb2) dX12_until_28 ⟨rfl, rfl⟩ om_save rfl rfl rfl (fun r M1 hq => ?_)
        obtain ⟨rfl, f, rfl, hf⟩ := hq
        try simp only [rV, Option.toList, List.cons_append, List.nil_append]
        have kO := sv_kp (N := N) (x := x) (f := f)
        have h21 := sv_21 (N := N) (x := x) (f := f)
        generalize setA (setL N 0 21 (sD x).toInt64) 11 f = O at hf kO h21 ⊢
        have hrO := hr.fr kO
        have fin : ∀ y i, i ≤ 100 → (fUntil g w (nI j)).1 = (if i = 100 then -1 else nI i) → Go GM l mX12_until 65 [.ref 0, .int w, .int (nI j), .int (nI i)] [] (pM O y) (qM (fUntil g w (nI j))) := by
          intro y i hi e
          refine g_aload0 66 rfl dX12_until_65 ?_
          refine g_callV 69 0 rfl kX12_193 (by first | rfl | exact st_o hb | exact st_1 hb | exact st_2 hb | exact st_3 hb | exact st_4 hb | exact st_5 hb | exact st_o hb2 | exact st_1 hb2 | exact st_2 hb2 | exact st_3 hb2 | exact st_4 hb2 | exact st_5 hb2) dX12_until_66 ⟨rfl, rfl⟩ (om_back hf h21) rfl rfl rfl (fun r M1 hq => ?_)
          obtain ⟨rfl, y2, rfl, hy⟩ := hq
          try simp only [rV, Option.toList, List.cons_append, List.nil_append]
          refine g_iload3 70 rfl dX12_until_69 ?_
          refine g_bipush 72 rfl (v := 99) dX12_until_70 (by decide) ?_
          have hm : MS g (pM O y2) := ⟨O, y2, rfl, (hy.le h30).tr hx, hrO⟩
          refine g_cmple 79 75 rfl dX12_until_72 (by decide) (fun h72 => ?_) (fun h72 => ?_)
          · have : ¬ i = 100 := fun z => by subst z; exact absurd h72 (by decide)
            rw [if_neg this] at e
            refine g_iload3 80 rfl dX12_until_79 ?_
            refine g_iret rfl dX12_until_80 ?_
            exact ⟨by rw [e], hm⟩
          · have : i = 100 := by
              have : ¬ i ≤ 99 := fun z => h72 (nI_le (b := 99) z (by decide))
              omega
            rw [if_pos this] at e
            refine g_iconst 76 rfl (v := (-1)) dX12_until_75 (by decide) ?_
            refine g_goto 80 dX12_until_76 (by decide) ?_
            refine g_iret rfl dX12_until_80 ?_
            exact ⟨by rw [e], hm⟩
        refine g_iconst 32 rfl (v := 0) dX12_until_31 (by decide) ?_
        refine g_istore3 33 rfl dX12_until_32 rfl rfl ?_
        have key : ∀ i, i ≤ 100 → ∀ y, SI (gR g * gW g) y → stoN y (gR g * gW g) = stoN x (gR g * gW g) → untF (gR g) (gW g) j w (stoN x (gR g * gW g)) (100 - i) y i = (fUntil g w (nI j)).1 → Go GM l mX12_until 33 [.ref 0, .int w, .int (nI j), .int (nI i)] [] (pM O y) (qM (fUntil g w (nI j))) := by
          refine loop_up (P := fun i => ∀ y, SI (gR g * gW g) y → stoN y (gR g * gW g) = stoN x (gR g * gW g) → untF (gR g) (gW g) j w (stoN x (gR g * gW g)) (100 - i) y i = (fUntil g w (nI j)).1 → Go GM l mX12_until 33 [.ref 0, .int w, .int (nI j), .int (nI i)] [] (pM O y) (qM (fUntil g w (nI j)))) 100 ?_ ?_
          · intro y _ _ e
            refine g_iload3 34 rfl dX12_until_33 ?_
            refine g_bipush 36 rfl (v := 99) dX12_until_34 (by decide) ?_
            refine g_cmpgt 65 39 rfl dX12_until_36 (by decide) (fun h36 => ?_) (fun h36 => absurd (by decide) h36)
            exact fin y 100 (by omega) e.symm
          · intro i hi ih y hy hst e
            rw [show 100 - i = 100 - (i + 1) + 1 by omega, untF] at e
            obtain ⟨p, q, h1, h2, h3, h5⟩ := ri_st (R := gR g) (W := gW g) (x := y) (w := w) (gR g * gW g)
            refine g_iload3 34 rfl dX12_until_33 ?_
            refine g_bipush 36 rfl (v := 99) dX12_until_34 (by decide) ?_
            refine g_cmpgt 65 39 rfl dX12_until_36 (by decide) (fun h36 => absurd h36 (nI_nlt (a := 99) (b := i) (by omega) (by omega))) (fun h36 => ?_)
            refine g_aload0 40 rfl dX12_until_39 ?_
            refine g_iload1 41 rfl dX12_until_40 ?_
            refine g_callVi 44 1 rfl kX12_184 (by first | rfl | exact st_o hb | exact st_1 hb | exact st_2 hb | exact st_3 hb | exact st_4 hb | exact st_5 hb | exact st_o hb2 | exact st_1 hb2 | exact st_2 hb2 | exact st_3 hb2 | exact st_4 hb2 | exact st_5 hb2) dX12_until_41 ⟨rfl, rfl⟩ (om_ringing hrO.m hy) rfl rfl rfl ?_
            refine g_aload0 45 rfl dX12_until_44 ?_
            refine g_callVi 48 0 rfl kX12_159 (by first | rfl | exact st_o hb | exact st_1 hb | exact st_2 hb | exact st_3 hb | exact st_4 hb | exact st_5 hb | exact st_o hb2 | exact st_1 hb2 | exact st_2 hb2 | exact st_3 hb2 | exact st_4 hb2 | exact st_5 hb2) dX12_until_45 ⟨rfl, rfl⟩ (om_stoneMany hrO.m) rfl rfl rfl ?_
            rw [hst]
            refine g_cmpge 65 51 rfl dX12_until_48 (by decide) (fun h48 => ?_) (fun h48 => ?_)
            · have : ringN (gR g) (gW g) y w (gR g * gW g) = stoN x (gR g * gW g) := by
                rw [← hst, h3, h5] at h48
                rw [← hst, h3, h5]
                have := (nI_leI (a := q) (by omega) (by omega)).mp h48
                rw [show p = q by omega]
              rw [if_pos this] at e
              refine fin y i (by omega) ?_
              rw [if_neg (by omega)]
              exact e.symm
            · have : ¬ ringN (gR g) (gW g) y w (gR g * gW g) = stoN x (gR g * gW g) := fun z => h48 (by rw [z]; exact Int32.le_refl _)
              rw [if_neg this] at e
              refine g_aload0 52 rfl dX12_until_51 ?_
              refine g_iload1 53 rfl dX12_until_52 ?_
              refine g_iconst 54 rfl (v := 1) dX12_until_53 (by decide) ?_
              refine g_iload2 55 rfl dX12_until_54 ?_
              refine g_callVi 58 3 rfl kX12_180 (by first | rfl | exact st_o hb | exact st_1 hb | exact st_2 hb | exact st_3 hb | exact st_4 hb | exact st_5 hb | exact st_o hb2 | exact st_1 hb2 | exact st_2 hb2 | exact st_3 hb2 | exact st_4 hb2 | exact st_5 hb2) dX12_until_55 ⟨rfl, rfl⟩ (om_goRounds (k := 1) hrO.m hj (by omega) hy) rfl rfl rfl ?_
              refine g_pop 59 rfl dX12_until_58 rfl ?_
              refine g_iinc3 62 rfl dX12_until_59 rfl rfl _ (by first | exact iinc1 _ | exact iincx _ | rfl) ?_
              refine g_goto 33 dX12_until_62 (by decide) ?_
              exact ih _ (SI_rou hy 1) ((sto_K _ (fun i _ => rnd_K i _)).trans hst) e
        exact key 0 (by omega) x hs rfl hans.symm
      · refine g_ifne 27 24 rfl dX12_until_21 (by decide) (fun h => absurd rfl h) (fun _ => ?_)
        exact bad (fun z => ho z.2)
    · refine g_ifeq 24 17 rfl dX12_until_14 (by decide) (fun _ => ?_) (fun h => absurd rfl h)
      exact bad (fun z => hw z.1)
  · refine g_bipush 9 rfl (v := (-103)) dX12_until_7 (by decide) ?_
    refine g_iret rfl dX12_until_9 ?_
    rw [fUntil, ifC_f (h0.mp h4)]
    exact ⟨rfl, N, x, rfl, hx, hr⟩
theorem spr_b {R W b : Nat} {x : Sx} (h : HB b (R * W) x) (hb : b < 100000000) : (sprS R W x).toInt ≤ 2 * b := by
  unfold sprS
  rcases mlo_is h (by omega) (R * W) (Nat.le_refl _) with ⟨a1, a2, _, _⟩ | ⟨_, _, a3, a4, a5⟩
  · rw [a1, a2, if_neg (by decide), tI0]
    omega
  · rw [if_pos (Int32.le_iff_toInt_le.mpr a3), tI_sub (by omega) (by omega)]
    omega
theorem mub_evenest {l : Launch} {M : Mm} {g : Sg} {b : Nat} {w r : Int32} (h : MS g M) (hI : IV b g) (hb : b < 40000000) : Ok GM l mX12_evenest [.ref 0, .int w, .int r] M (qM (fEven g w r)) := by
  obtain ⟨N, x, rfl, hx, hr⟩ := h
  have h30 := hr.m.le
  have hs := SI_E hI.1 hx
  have hB := HB_E hI.2.1 hx
  have h0 := hr.s0
  refine ok_of (by decide +kernel) rfl rfl ?_
  refine g_aload0 1 rfl dX12_evenest_0 ?_
  refine g_getI 4 rfl fX12_131 (by first | rfl | exact st_o hb | exact st_1 hb | exact st_2 hb | exact st_3 hb | exact st_4 hb | exact st_5 hb | exact st_o hb2 | exact st_1 hb2 | exact st_2 hb2 | exact st_3 hb2 | exact st_4 hb2 | exact st_5 hb2) rfl dX12_evenest_1 ?_
  try simp only [pM_0]
  refine g_ifne 10 7 rfl dX12_evenest_4 (by decide) (fun h4 => ?_) (fun h4 => ?_)
  · have hq : 0 < gN g := Classical.byContradiction (fun z => h4 (h0.mpr z))
    have bad : ¬ (okW w ∧ okR 0 r) → Go GM l mX12_evenest 27 [.ref 0, .int w, .int r, .null, .null, .null, .null] [] (pM N x) (qM (fEven g w r)) := by
      intro hn
      refine g_bipush 29 rfl (v := (-102)) dX12_evenest_27 (by decide) ?_
      refine g_iret rfl dX12_evenest_29 ?_
      rw [fEven, ifC_t hq, ifC_f hn]
      exact ⟨rfl, N, x, rfl, hx, hr⟩
    refine g_iload1 11 rfl dX12_evenest_10 ?_
    refine g_callS 14 1 rfl kX12_168 dX12_evenest_11 ⟨rfl, rfl⟩ om_isWeight rfl rfl rfl (fun r M1 hq => ?_)
    obtain ⟨rfl, ⟨rfl, hw⟩ | ⟨rfl, hw⟩⟩ := hq
    try simp only [rV, Option.toList, List.cons_append, List.nil_append]
    · refine g_ifeq 27 17 rfl dX12_evenest_14 (by decide) (fun h => absurd h (by decide)) (fun _ => ?_)
      refine g_iload2 18 rfl dX12_evenest_17 ?_
      refine g_iconst 19 rfl (v := 0) dX12_evenest_18 (by decide) ?_
      refine g_bipush 21 rfl (v := 40) dX12_evenest_19 (by decide) ?_
      refine g_callS 24 3 rfl kX12_78 dX12_evenest_21 ⟨rfl, rfl⟩ om_within rfl rfl rfl (fun r M1 hq => ?_)
      obtain ⟨rfl, ⟨rfl, hR⟩ | ⟨rfl, hR⟩⟩ := hq
      try simp only [rV, Option.toList, List.cons_append, List.nil_append]
      · have hR : okR 0 r := hR
        obtain ⟨k, hk, rfl⟩ := okR_nI hR (by decide)
        have ek : ce (nI k) = k := ce_nI (by omega)
        refine g_ifne 30 27 rfl dX12_evenest_24 (by decide) (fun _ => ?_) (fun h => absurd h (by decide))
        refine g_aload0 31 rfl dX12_evenest_30 ?_
        refine g_callV 34 0 rfl kX12_190 (by first | rfl | exact st_o hb | exact st_1 hb | exact st_2 hb | exact st_3 hb | exact st_4 hb | exact st_5 hb | exact st_o hb2 | exact st_1 hb2 | exact st_2 hb2 | exact st_3 hb2 | exact st_4 hb2 | exact st_5 hb2) dX12_evenest_31 ⟨rfl, rfl⟩ om_save rfl rfl rfl (fun r M1 hq => ?_)
        obtain ⟨rfl, f, rfl, hf⟩ := hq
        try simp only [rV, Option.toList, List.cons_append, List.nil_append]
        have kO := sv_kp (N := N) (x := x) (f := f)
        have h21 := sv_21 (N := N) (x := x) (f := f)
        generalize setA (setL N 0 21 (sD x).toInt64) 11 f = O at hf kO h21 ⊢
        have hrO := hr.fr kO
        refine g_iconst 35 rfl (v := 0) dX12_evenest_34 (by decide) ?_
        refine g_istore3 36 rfl dX12_evenest_35 rfl rfl ?_
        refine g_ldc 38 rfl dX12_evenest_36 cX12_196 ?_
        refine g_istore4 40 rfl dX12_evenest_38 rfl rfl ?_
        refine g_iconst 41 rfl (v := 0) dX12_evenest_40 (by decide) ?_
        refine g_istore5 43 rfl dX12_evenest_41 rfl rfl ?_
        have key : ∀ o, o ≤ 4 → ∀ (y : Sx) (v : Int32), sxE (gN g) y (gX g) → ((o = 0 ∧ v = 268435456) ∨ (0 < o ∧ v = (evN g w (nI k) o).2)) → Go GM l mX12_evenest 43 [.ref 0, .int w, .int (nI k), .int (evN g w (nI k) o).1, .int v, .int (nI o), .null] [] (pM O y) (qM (fEven g w (nI k))) := by
          refine loop_up (P := fun o => ∀ (y : Sx) (v : Int32), sxE (gN g) y (gX g) → ((o = 0 ∧ v = 268435456) ∨ (0 < o ∧ v = (evN g w (nI k) o).2)) → Go GM l mX12_evenest 43 [.ref 0, .int w, .int (nI k), .int (evN g w (nI k) o).1, .int v, .int (nI o), .null] [] (pM O y) (qM (fEven g w (nI k)))) 4 ?_ ?_
          · intro y v hy _
            refine g_iload5 45 rfl dX12_evenest_43 ?_
            refine g_iconst 46 rfl (v := 4) dX12_evenest_45 (by decide) ?_
            refine g_cmpge 104 49 rfl dX12_evenest_46 (by decide) (fun _ => ?_) (fun h => absurd (by decide) h)
            refine g_iload3 105 rfl dX12_evenest_104 ?_
            refine g_iret rfl dX12_evenest_105 ?_
            exact ⟨by rw [fEven, ifC_t hq, ifC_t ⟨hw, hR⟩], O, y, rfl, hy, hrO⟩
          · intro o ho ih y v hy hv
            have hsy := SI_E hI.1 hy
            have hBy := HB_rou (o := o) (w := w) h30 (by omega) hsy hw (HB_E hI.2.1 hy) k (by omega)
            have e := rouN_E (o := o) (k := k) (w := w) (s := 0) (t := 0) hy rfl
            have es : sprS (gR g) (gW g) (itN (rouB (gR g) (gW g) o w) k (y, 0)).1 = evS g w (nI k) o := by rw [evS, ek, sprS_E e.1]
            have hb2 := spr_b hBy (by omega)
            rw [es] at hb2
            refine g_iload5 45 rfl dX12_evenest_43 ?_
            refine g_iconst 46 rfl (v := 4) dX12_evenest_45 (by decide) ?_
            refine g_cmpge 104 49 rfl dX12_evenest_46 (by decide) (fun h => absurd h (nI_ge ho (by decide))) (fun _ => ?_)
            refine g_aload0 50 rfl dX12_evenest_49 ?_
            refine g_iload1 51 rfl dX12_evenest_50 ?_
            refine g_iload2 52 rfl dX12_evenest_51 ?_
            refine g_iload5 54 rfl dX12_evenest_52 ?_
            refine g_callVi 57 3 rfl kX12_180 (by first | rfl | exact st_o hb | exact st_1 hb | exact st_2 hb | exact st_3 hb | exact st_4 hb | exact st_5 hb | exact st_o hb2 | exact st_1 hb2 | exact st_2 hb2 | exact st_3 hb2 | exact st_4 hb2 | exact st_5 hb2) dX12_evenest_54 ⟨rfl, rfl⟩ (om_goRounds hrO.m ho (by omega) hsy) rfl rfl rfl ?_
            refine g_pop 58 rfl dX12_evenest_57 rfl ?_
            refine g_aload0 59 rfl dX12_evenest_58 ?_
            refine g_callVi 62 0 rfl kX12_198 (by first | rfl | exact st_o hb | exact st_1 hb | exact st_2 hb | exact st_3 hb | exact st_4 hb | exact st_5 hb | exact st_o hb2 | exact st_1 hb2 | exact st_2 hb2 | exact st_3 hb2 | exact st_4 hb2 | exact st_5 hb2) dX12_evenest_59 ⟨rfl, rfl⟩ (om_unevenNow hrO.m hBy (by omega)) rfl rfl rfl ?_
            rw [es]
            have n1 : (268435456 : Int32).toInt = 268435456 := by decide
            have n2 : (2147483647 : Int32).toInt = 2147483647 := by decide
            have hcmp : v ≤ evS g w (nI k) o ↔ (evN g w (nI k) o).2 ≤ evS g w (nI k) o := by
              rcases hv with ⟨rfl, rfl⟩ | ⟨_, rfl⟩
              · rw [show (evN g w (nI k) 0).2 = 2147483647 from rfl, Int32.le_iff_toInt_le, Int32.le_iff_toInt_le, n1, n2]
                omega
              · exact Iff.rfl
            refine g_istore6 64 rfl dX12_evenest_62 rfl rfl ?_
            refine g_iload6 66 rfl dX12_evenest_64 ?_
            refine g_iload4 68 rfl dX12_evenest_66 ?_
            refine g_cmpge 76 71 rfl dX12_evenest_68 (by decide) (fun h68 => ?_) (fun h68 => ?_)
            · have e2 : evN g w (nI k) (o + 1) = evN g w (nI k) o := by rw [evN, ifC_t (hcmp.mp h68)]
              have o0 : ¬ o = 0 := fun z => by
                rcases hv with ⟨_, rfl⟩ | ⟨a, _⟩
                · rw [Int32.le_iff_toInt_le, n1] at h68; omega
                · omega
              have hv2 : v = (evN g w (nI k) o).2 := by
                rcases hv with ⟨a, _⟩ | ⟨_, a⟩
                · exact absurd a o0
                · exact a
              refine g_iload3 77 rfl dX12_evenest_76 ?_
              refine g_istore3 78 rfl dX12_evenest_77 rfl rfl ?_
              refine g_iload6 80 rfl dX12_evenest_78 ?_
              refine g_iload4 82 rfl dX12_evenest_80 ?_
              refine g_cmpge 90 85 rfl dX12_evenest_82 (by decide) (fun h82 => ?_) (fun h82 => absurd h68 h82)
              refine g_iload4 92 rfl dX12_evenest_90 ?_
              refine g_istore4 94 rfl dX12_evenest_92 rfl rfl ?_
              refine g_aload0 95 rfl dX12_evenest_94 ?_
              refine g_callV 98 0 rfl kX12_193 (by first | rfl | exact st_o hb | exact st_1 hb | exact st_2 hb | exact st_3 hb | exact st_4 hb | exact st_5 hb | exact st_o hb2 | exact st_1 hb2 | exact st_2 hb2 | exact st_3 hb2 | exact st_4 hb2 | exact st_5 hb2) dX12_evenest_95 ⟨rfl, rfl⟩ (om_back hf h21) rfl rfl rfl (fun r M1 hq => ?_)
              obtain ⟨rfl, y2, rfl, hy2⟩ := hq
              try simp only [rV, Option.toList, List.cons_append, List.nil_append]
              refine g_iinc5 101 rfl dX12_evenest_98 rfl rfl _ (by first | exact iinc1 _ | exact iincx _ | rfl) ?_
              refine g_goto 43 dX12_evenest_101 (by decide) ?_
              refine g_fg 6 ?_
              have := ih y2 v ((hy2.le h30).tr hx) (Or.inr ⟨by omega, by rw [e2]; exact hv2⟩)
              rw [e2] at this
              exact this
            · have e2 : evN g w (nI k) (o + 1) = (nI o, evS g w (nI k) o) := by rw [evN, ifC_f (fun z => h68 (hcmp.mpr z))]
              refine g_iload5 73 rfl dX12_evenest_71 ?_
              refine g_goto 77 dX12_evenest_73 (by decide) ?_
              refine g_istore3 78 rfl dX12_evenest_77 rfl rfl ?_
              refine g_iload6 80 rfl dX12_evenest_78 ?_
              refine g_iload4 82 rfl dX12_evenest_80 ?_
              refine g_cmpge 90 85 rfl dX12_evenest_82 (by decide) (fun h82 => absurd h82 h68) (fun h82 => ?_)
              refine g_iload6 87 rfl dX12_evenest_85 ?_
              refine g_goto 92 dX12_evenest_87 (by decide) ?_
              refine g_istore4 94 rfl dX12_evenest_92 rfl rfl ?_
              refine g_aload0 95 rfl dX12_evenest_94 ?_
              refine g_callV 98 0 rfl kX12_193 (by first | rfl | exact st_o hb | exact st_1 hb | exact st_2 hb | exact st_3 hb | exact st_4 hb | exact st_5 hb | exact st_o hb2 | exact st_1 hb2 | exact st_2 hb2 | exact st_3 hb2 | exact st_4 hb2 | exact st_5 hb2) dX12_evenest_95 ⟨rfl, rfl⟩ (om_back hf h21) rfl rfl rfl (fun r M1 hq => ?_)
              obtain ⟨rfl, y2, rfl, hy2⟩ := hq
              try simp only [rV, Option.toList, List.cons_append, List.nil_append]
              refine g_iinc5 101 rfl dX12_evenest_98 rfl rfl _ (by first | exact iinc1 _ | exact iincx _ | rfl) ?_
              refine g_goto 43 dX12_evenest_101 (by decide) ?_
              refine g_fg 6 ?_
              have := ih y2 (evS g w (nI k) o) ((hy2.le h30).tr hx) (Or.inr ⟨by omega, by rw [e2]⟩)
              rw [e2] at this
              exact this
        exact key 0 (by omega) x _ hx (Or.inl ⟨rfl, rfl⟩)
      · refine g_ifne 30 27 rfl dX12_evenest_24 (by decide) (fun h => absurd rfl h) (fun _ => ?_)
        exact bad (fun z => hR z.2)
    · refine g_ifeq 27 17 rfl dX12_evenest_14 (by decide) (fun _ => ?_) (fun h => absurd rfl h)
      exact bad (fun z => hw z.1)
  · refine g_bipush 9 rfl (v := (-103)) dX12_evenest_7 (by decide) ?_
    refine g_iret rfl dX12_evenest_9 ?_
    rw [fEven, ifC_f (h0.mp h4)]
    exact ⟨rfl, N, x, rfl, hx, hr⟩
