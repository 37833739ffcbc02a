/-! the law's loop (written by gen_law.py) -/
theorem law_loop {l : Launch} {b L : Nat} {xs : Nat → Int32} (hL : L ≤ 2560) : ∀ j, j ≤ L / 5 → ∀ (g : Sg) (M1 M2 : Mm), CS g M1 → MS g M2 → JV j g → LG l b L xs 18 (lvL (5 * j)) [] M1 M2 := by
  refine loop_up (P := fun j => ∀ (g : Sg) (M1 M2 : Mm), CS g M1 → MS g M2 → JV j g → LG l b L xs 18 (lvL (5 * j)) [] M1 M2) (L / 5) ?_ ?_
  · intro g M1 M2 h1 h2 hJ
    have hlt : nI L - 5 < nI (5 * (L / 5)) := by
      rw [Int32.lt_iff_toInt_lt, show (5 : Int32) = nI 5 from rfl, pk_sub_toInt (by omega) (by omega), nI_toInt (by omega)]
      omega
    refine lg_iload3 19 rfl dL_law_18 ?_
    refine lg_aload0 20 rfl dL_law_19 ?_
    refine lg_slen 21 rfl dL_law_20 ?_
    refine lg_iconst 22 rfl (v := 5) dL_law_21 (by decide) ?_
    refine lg_isub 23 rfl dL_law_22 ?_
    refine lg_cmpgt 1230 26 rfl dL_law_23 (by decide) (fun _ => ?_) (fun h => absurd hlt h)
    refine lg_iconst 1231 rfl (v := 1) dL_law_1230 (by decide) ?_
    exact lg_ret dL_law_1231
  · intro j hj ih g M1 M2 h1 h2 hJ
    have hi : 5 * j + 5 ≤ L := by omega
    have hj2 : j ≤ 511 := by omega
    have hnl : ¬ nI L - 5 < nI (5 * j) := by
      rw [show (5 : Int32) = nI 5 from rfl, pk_sub (by omega)]
      exact nI_nlt (by omega) (by omega)
    have ih2 : ∀ (g : Sg) (M1 M2 : Mm), CS g M1 → MS g M2 → JV (j + 1) g → LG l b L xs 1224 (lvL (5 * j)) [] M1 M2 := by
      intro g M1 M2 h1 h2 hJ
      refine lg_iinc3 1227 rfl dL_law_1224 rfl (nI (5 * (j + 1))) (nI_add (5 * j) 5) ?_
      refine lg_goto 18 dL_law_1227 (by decide) ?_
      exact ih g M1 M2 h1 h2 hJ
    refine lg_iload3 19 rfl dL_law_18 ?_
    refine lg_aload0 20 rfl dL_law_19 ?_
    refine lg_slen 21 rfl dL_law_20 ?_
    refine lg_iconst 22 rfl (v := 5) dL_law_21 (by decide) ?_
    refine lg_isub 23 rfl dL_law_22 ?_
    refine lg_cmpgt 1230 26 rfl dL_law_23 (by decide) (fun h => absurd h hnl) (fun _ => ?_)
    refine lg_aload0 27 rfl dL_law_26 ?_
    refine lg_iload3 28 rfl dL_law_27 ?_
    refine lg_sld 29 rfl dL_law_28 (k := 5 * j) rfl (by omega) hL ?_
    refine lg_bipush 31 rfl (v := 63) dL_law_29 (by decide) ?_
    refine lg_iand 32 rfl dL_law_31 ?_
    obtain ⟨k, hk, ek⟩ := pk_andE (xs (5 * j)) (m := 63) 6 (by decide)
    refine lg_top (nI k) ek ?_
    have hk64 : k < 64 := hk
    rcases (show k = 0 ∨ k = 1 ∨ k = 2 ∨ k = 3 ∨ k = 4 ∨ k = 5 ∨ k = 6 ∨ k = 7 ∨ k = 8 ∨ k = 9 ∨ k = 10 ∨ k = 11 ∨ k = 12 ∨ k = 13 ∨ k = 14 ∨ k = 15 ∨ k = 16 ∨ k = 17 ∨ k = 18 ∨ k = 19 ∨ k = 20 ∨ k = 21 ∨ k = 22 ∨ k = 23 ∨ k = 24 ∨ k = 25 ∨ k = 26 ∨ k = 27 ∨ k = 28 ∨ k = 29 ∨ k = 30 ∨ k = 31 ∨ k = 32 ∨ k = 33 ∨ k = 34 ∨ 35 ≤ k by omega) with rfl | rfl | rfl | rfl | rfl | rfl | rfl | rfl | rfl | rfl | rfl | rfl | rfl | rfl | rfl | rfl | rfl | rfl | rfl | rfl | rfl | rfl | rfl | rfl | rfl | rfl | rfl | rfl | rfl | rfl | rfl | rfl | rfl | rfl | rfl | hk35
    · exact lg_tabIn 188 dL_law_32 (by decide) (by decide) (by rfl) (by decide) (lc_0 hL hi hj2 h1 h2 hJ ih2)
    · exact lg_tabIn 241 dL_law_32 (by decide) (by decide) (by rfl) (by decide) (lc_1 hL hi hj2 h1 h2 hJ ih2)
    · exact lg_tabIn 254 dL_law_32 (by decide) (by decide) (by rfl) (by decide) (lc_2 hL hi hj2 h1 h2 hJ ih2)
    · exact lg_tabIn 277 dL_law_32 (by decide) (by decide) (by rfl) (by decide) (lc_3 hL hi hj2 h1 h2 hJ ih2)
    · exact lg_tabIn 290 dL_law_32 (by decide) (by decide) (by rfl) (by decide) (lc_4 hL hi hj2 h1 h2 hJ ih2)
    · exact lg_tabIn 303 dL_law_32 (by decide) (by decide) (by rfl) (by decide) (lc_5 hL hi hj2 h1 h2 hJ ih2)
    · exact lg_tabIn 336 dL_law_32 (by decide) (by decide) (by rfl) (by decide) (lc_6 hL hi hj2 h1 h2 hJ ih2)
    · exact lg_tabIn 369 dL_law_32 (by decide) (by decide) (by rfl) (by decide) (lc_7 hL hi hj2 h1 h2 hJ ih2)
    · exact lg_tabIn 402 dL_law_32 (by decide) (by decide) (by rfl) (by decide) (lc_8 hL hi hj2 h1 h2 hJ ih2)
    · exact lg_tabIn 425 dL_law_32 (by decide) (by decide) (by rfl) (by decide) (lc_9 hL hi hj2 h1 h2 hJ ih2)
    · exact lg_tabIn 448 dL_law_32 (by decide) (by decide) (by rfl) (by decide) (lc_10 hL hi hj2 h1 h2 hJ ih2)
    · exact lg_tabIn 481 dL_law_32 (by decide) (by decide) (by rfl) (by decide) (lc_11 hL hi hj2 h1 h2 hJ ih2)
    · exact lg_tabIn 524 dL_law_32 (by decide) (by decide) (by rfl) (by decide) (lc_12 hL hi hj2 h1 h2 hJ ih2)
    · exact lg_tabIn 547 dL_law_32 (by decide) (by decide) (by rfl) (by decide) (lc_13 hL hi hj2 h1 h2 hJ ih2)
    · exact lg_tabIn 600 dL_law_32 (by decide) (by decide) (by rfl) (by decide) (lc_14 hL hi hj2 h1 h2 hJ ih2)
    · exact lg_tabIn 633 dL_law_32 (by decide) (by decide) (by rfl) (by decide) (lc_15 hL hi hj2 h1 h2 hJ ih2)
    · exact lg_tabIn 646 dL_law_32 (by decide) (by decide) (by rfl) (by decide) (lc_16 hL hi hj2 h1 h2 hJ ih2)
    · exact lg_tabIn 679 dL_law_32 (by decide) (by decide) (by rfl) (by decide) (lc_17 hL hi hj2 h1 h2 hJ ih2)
    · exact lg_tabIn 722 dL_law_32 (by decide) (by decide) (by rfl) (by decide) (lc_18 hL hi hj2 h1 h2 hJ ih2)
    · exact lg_tabIn 755 dL_law_32 (by decide) (by decide) (by rfl) (by decide) (lc_19 hL hi hj2 h1 h2 hJ ih2)
    · exact lg_tabIn 778 dL_law_32 (by decide) (by decide) (by rfl) (by decide) (lc_20 hL hi hj2 h1 h2 hJ ih2)
    · exact lg_tabIn 801 dL_law_32 (by decide) (by decide) (by rfl) (by decide) (lc_21 hL hi hj2 h1 h2 hJ ih2)
    · exact lg_tabIn 834 dL_law_32 (by decide) (by decide) (by rfl) (by decide) (lc_22 hL hi hj2 h1 h2 hJ ih2)
    · exact lg_tabIn 867 dL_law_32 (by decide) (by decide) (by rfl) (by decide) (lc_23 hL hi hj2 h1 h2 hJ ih2)
    · exact lg_tabIn 900 dL_law_32 (by decide) (by decide) (by rfl) (by decide) (lc_24 hL hi hj2 h1 h2 hJ ih2)
    · exact lg_tabIn 953 dL_law_32 (by decide) (by decide) (by rfl) (by decide) (lc_25 hL hi hj2 h1 h2 hJ ih2)
    · exact lg_tabIn 996 dL_law_32 (by decide) (by decide) (by rfl) (by decide) (lc_26 hL hi hj2 h1 h2 hJ ih2)
    · exact lg_tabIn 1019 dL_law_32 (by decide) (by decide) (by rfl) (by decide) (lc_27 hL hi hj2 h1 h2 hJ ih2)
    · exact lg_tabIn 1052 dL_law_32 (by decide) (by decide) (by rfl) (by decide) (lc_28 hL hi hj2 h1 h2 hJ ih2)
    · exact lg_tabIn 1095 dL_law_32 (by decide) (by decide) (by rfl) (by decide) (lc_29 hL hi hj2 h1 h2 hJ ih2)
    · exact lg_tabIn 1138 dL_law_32 (by decide) (by decide) (by rfl) (by decide) (lc_30 hL hi hj2 h1 h2 hJ ih2)
    · exact lg_tabIn 1161 dL_law_32 (by decide) (by decide) (by rfl) (by decide) (lc_31 hL hi hj2 h1 h2 hJ ih2)
    · exact lg_tabIn 1174 dL_law_32 (by decide) (by decide) (by rfl) (by decide) (lc_32 hL hi hj2 h1 h2 hJ ih2)
    · exact lg_tabIn 1187 dL_law_32 (by decide) (by decide) (by rfl) (by decide) (lc_33 hL hi hj2 h1 h2 hJ ih2)
    · exact lg_tabIn 1210 dL_law_32 (by decide) (by decide) (by rfl) (by decide) (lc_34 hL hi hj2 h1 h2 hJ ih2)
    · exact lg_tabOut 1224 dL_law_32 (Or.inr (by rw [nI_toInt (by omega)]; omega)) (by decide) (ih2 g M1 M2 h1 h2 hJ.keep)
/-! the state as it is made -/
noncomputable def g0 : Sg := (0, 0, vC cM0 15, 0, fun _ => 0, (0, fun _ => 0, fun _ => 0), 0, fun _ => 0, 0, 0, vC cM0 15, 0)
theorem cs_0 : CS g0 cM0 := by
  refine ⟨⟨Or.inl ⟨rfl, rfl⟩, rfl, rfl, rfl, fun c hc => absurd hc (by show ¬ c < 0 * 0; omega), fun c hc => absurd hc (by show ¬ c < 0 * 0; omega)⟩, sxE.rf, ⟨Nat.zero_le _, rfl, fun i hi => absurd hi (by show ¬ i < 0; omega)⟩, ⟨Nat.zero_le _, rfl, fun i hi => absurd hi (by show ¬ i < 0; omega)⟩, ⟨Nat.zero_le _, rfl, fun i hi => absurd hi (by show ¬ i < 0; omega)⟩, rfl, rfl, fun h => absurd rfl h, rfl, ⟨Iff.rfl, by show 0 < 1000000; omega, Nat.le_refl _, by show 0 ≤ 20; omega⟩⟩
theorem ms_0 : MS g0 mM0 := by
  refine ⟨mM0, (fun _ => 0, fun _ => 0, fun _ => 0, fun _ => 0, fun _ => 0, 1, 0), ?_, ⟨fun c hc => absurd hc (by show ¬ c < 0 * 0; omega), fun c hc => absurd hc (by show ¬ c < 0 * 0; omega), fun c hc => absurd hc (by show ¬ c < 0 * 0; omega), fun c hc => absurd hc (by show ¬ c < 0 * 0; omega), fun c hc => absurd hc (by show ¬ c < 0 * 0; omega), rfl⟩, ⟨⟨Or.inl ⟨rfl, rfl⟩, rfl, rfl⟩, ⟨Nat.zero_le _, rfl, fun i hi => absurd hi (by show ¬ i < 0; omega)⟩, ⟨Nat.zero_le _, rfl, fun i hi => absurd hi (by show ¬ i < 0; omega)⟩, ⟨Nat.zero_le _, rfl, fun i hi => absurd hi (by show ¬ i < 0; omega)⟩, rfl, rfl, fun _ => rfl, fun h => absurd rfl h, fun h => absurd rfl h, ⟨Iff.rfl, by show 0 < 1000000; omega, Nat.le_refl _, by show 0 ≤ 20; omega⟩⟩⟩
  refine Prod.ext ?_ ?_
  · funext h
    simp only [mM0, pM, sK, sZ, sH, sS, sJ]
    repeat' split
    all_goals rfl
  · funext h k
    simp only [mM0, pM, sD]
    by_cases e : h = 0 ∧ k = 8
    · rw [if_pos e, if_pos e.1, if_pos e.2]
      decide
    · rw [if_neg e]
theorem jv_0 : JV 0 g0 := ⟨⟨fun c hc => absurd hc (by show ¬ c < 0 * 0; omega), fun c hc => absurd hc (by show ¬ c < 0 * 0; omega), fun h => absurd rfl h, fun i hi => absurd hi (by show ¬ i < 0; omega)⟩, Nat.le_refl _⟩
theorem arr_known {args : Array Value} {s : State} {ty : FieldType} (h : (Cond.arrayClass ty).before args s = true) (hra : ∀ c : ClassId, s.vm.findClass ("[" ++ ty.toString) = some c → va_RA s c ty) : ∃ c : ClassId, ArrOfT s c ty ∧ va_RA s c ty := by
  obtain ⟨c, k, comp, h1, h2, h3⟩ := Cond.arrayClass_spec h
  exact ⟨c, fun n z => ⟨fun k h => (by cases h), k, h2, comp, h3⟩, hra c h1⟩
