/-! the class's calls: evenest, loads, water, years, mend -/
noncomputable def evS (g : Sg) (w r : Int32) (o : Nat) : Int32 := sprS (gR g) (gW g) (itN (rouB (gR g) (gW g) o w) (ce r) (gX g, 0)).1
/-- the best order so far, and by how much -/
noncomputable def evN (g : Sg) (w r : Int32) : Nat → Int32 × Int32
  | 0 => (0, 2147483647)
  | o + 1 => ifC ((evN g w r o).2 ≤ evS g w r o) (evN g w r o) (nI o, evS g w r o)
noncomputable def fEven (g : Sg) (w r : Int32) : Int32 × Sg := (ifC (0 < gN g) (ifC (okW w ∧ okR 0 r) (evN g w r 4).1 (-102)) (-103), g)
theorem pub_evenest {l : Launch} {M : Mm} {g : Sg} {w r : Int32} (h : CS g M) : Ok GC l mX11_evenest [.ref 0, .int w, .int r] M (qP (fEven g w r)) := by
  have hb : isSt 15 := Or.inl rfl
  have hb2 : isSt 21 := Or.inr (Or.inl rfl)
  refine ok_of (by decide +kernel) rfl rfl ?_
  refine g_aload0 1 rfl dX11_evenest_0 ?_
  refine g_callV 4 0 rfl kX11_171 (by first | rfl | exact st_o hb | exact st_1 hb | exact st_2 hb | exact st_3 hb | exact st_4 hb | exact st_5 hb | exact st_o hb2 | exact st_1 hb2 | exact st_2 hb2 | exact st_3 hb2 | exact st_4 hb2 | exact st_5 hb2) dX11_evenest_1 ⟨rfl, rfl⟩ (ok_hasStreet h.p) rfl rfl rfl (fun r M1 hq => ?_)
  obtain ⟨rfl, ⟨rfl, hq⟩ | ⟨rfl, hq⟩⟩ := hq
  try simp only [rV, Option.toList, List.cons_append, List.nil_append]
  · refine g_ifne 10 7 rfl dX11_evenest_4 (by decide) (fun _ => ?_) (fun h => absurd h (by decide))
    have bad : ¬ (okW w ∧ okR 0 r) → Go GC l mX11_evenest 27 [.ref 0, .int w, .int r, .null, .null, .null, .null] [] M1 (qP (fEven g w r)) := by
      intro hn
      refine g_bipush 29 rfl (v := (-102)) dX11_evenest_27 (by decide) ?_
      refine g_iret rfl dX11_evenest_29 ?_
      rw [fEven, ifC_t hq, ifC_f hn]
      exact ⟨rfl, h⟩
    refine g_iload1 11 rfl dX11_evenest_10 ?_
    refine g_callS 14 1 rfl kX11_188 dX11_evenest_11 ⟨rfl, rfl⟩ ok_isWeight rfl rfl rfl (fun r M1 hq => ?_)
    obtain ⟨rfl, ⟨rfl, hw⟩ | ⟨rfl, hw⟩⟩ := hq
    try simp only [rV, Option.toList, List.cons_append, List.nil_append]
    · refine g_ifeq 27 17 rfl dX11_evenest_14 (by decide) (fun h => absurd h (by decide)) (fun _ => ?_)
      refine g_iload2 18 rfl dX11_evenest_17 ?_
      refine g_iflt 27 21 rfl dX11_evenest_18 (by decide) (fun q => bad (fun z => absurd q (Int32.not_lt.mpr z.2.1))) (fun h19 => ?_)
      refine g_iload2 22 rfl dX11_evenest_21 ?_
      refine g_bipush 24 rfl (v := 40) dX11_evenest_22 (by decide) ?_
      refine g_cmple 30 27 rfl dX11_evenest_24 (by decide) (fun h25 => ?_) (fun q => bad (fun z => q z.2.2))
      have hR : okR 0 r := ⟨Int32.not_lt.mp h19, h25⟩
      obtain ⟨k, hk, rfl⟩ := okR_nI hR (by decide)
      have ek : ce (nI k) = k := ce_nI (by omega)
      refine g_iconst 31 rfl (v := 0) dX11_evenest_30 (by decide) ?_
      refine g_istore3 32 rfl dX11_evenest_31 rfl rfl ?_
      refine g_ldc 34 rfl dX11_evenest_32 cX11_218 ?_
      refine g_istore4 36 rfl dX11_evenest_34 rfl rfl ?_
      refine g_iconst 37 rfl (v := 0) dX11_evenest_36 (by decide) ?_
      refine g_istore5 39 rfl dX11_evenest_37 rfl rfl ?_
      refine loop_up (P := fun o => ∀ N, CS g N → Go GC l mX11_evenest 39 [.ref 0, .int w, .int (nI k), .int (evN g w (nI k) o).1, .int (evN g w (nI k) o).2, .int (nI o), .null] [] N (qP (fEven g w (nI k)))) 4 ?_ ?_ 0 (by omega) _ h
      · intro N hN
        refine g_iload5 41 rfl dX11_evenest_39 ?_
        refine g_iconst 42 rfl (v := 4) dX11_evenest_41 (by decide) ?_
        refine g_cmpge 101 45 rfl dX11_evenest_42 (by decide) (fun _ => ?_) (fun h => absurd (by decide) h)
        refine g_iload3 102 rfl dX11_evenest_101 ?_
        refine g_iret rfl dX11_evenest_102 ?_
        rw [fEven, ifC_t hq, ifC_t ⟨hw, hR⟩]
        exact ⟨rfl, hN⟩
      · intro o ho ih N hN
        have ht := ok_X7_copyFrom (l := l) (x := vC N 21) hb2 hb ap21 hN.p
        rw [pC_vC] at ht
        refine g_iload5 41 rfl dX11_evenest_39 ?_
        refine g_iconst 42 rfl (v := 4) dX11_evenest_41 (by decide) ?_
        refine g_cmpge 101 45 rfl dX11_evenest_42 (by decide) (fun h => absurd h (nI_ge ho (by decide))) (fun _ => ?_)
        refine g_aload0 46 rfl dX11_evenest_45 ?_
        refine g_getR 49 rfl fX11_49 (by first | rfl | exact st_o hb | exact st_1 hb | exact st_2 hb | exact st_3 hb | exact st_4 hb | exact st_5 hb | exact st_o hb2 | exact st_1 hb2 | exact st_2 hb2 | exact st_3 hb2 | exact st_4 hb2 | exact st_5 hb2) rfl dX11_evenest_46 ?_
        refine g_aload0 50 rfl dX11_evenest_49 ?_
        refine g_getR 53 rfl fX11_45 (by first | rfl | exact st_o hb | exact st_1 hb | exact st_2 hb | exact st_3 hb | exact st_4 hb | exact st_5 hb | exact st_o hb2 | exact st_1 hb2 | exact st_2 hb2 | exact st_3 hb2 | exact st_4 hb2 | exact st_5 hb2) rfl dX11_evenest_50 ?_
        refine g_callV 56 1 rfl kX11_205 (by first | rfl | exact st_o hb | exact st_1 hb | exact st_2 hb | exact st_3 hb | exact st_4 hb | exact st_5 hb | exact st_o hb2 | exact st_1 hb2 | exact st_2 hb2 | exact st_3 hb2 | exact st_4 hb2 | exact st_5 hb2) dX11_evenest_53 ⟨rfl, rfl⟩ ht rfl rfl rfl (fun r M1 hq => ?_)
        obtain ⟨rfl, y, rfl, hy⟩ := hq
        try simp only [rV, Option.toList, List.cons_append, List.nil_append]
        refine g_aload0 57 rfl dX11_evenest_56 ?_
        refine g_getR 60 rfl fX11_58 (by first | rfl | exact st_o hb | exact st_1 hb | exact st_2 hb | exact st_3 hb | exact st_4 hb | exact st_5 hb | exact st_o hb2 | exact st_1 hb2 | exact st_2 hb2 | exact st_3 hb2 | exact st_4 hb2 | exact st_5 hb2) rfl dX11_evenest_57 ?_
        refine g_aload0 61 rfl dX11_evenest_60 ?_
        refine g_getR 64 rfl fX11_49 (by first | rfl | exact st_o hb | exact st_1 hb | exact st_2 hb | exact st_3 hb | exact st_4 hb | exact st_5 hb | exact st_o hb2 | exact st_1 hb2 | exact st_2 hb2 | exact st_3 hb2 | exact st_4 hb2 | exact st_5 hb2) rfl dX11_evenest_61 ?_
        refine g_iload1 65 rfl dX11_evenest_64 ?_
        refine g_iload2 66 rfl dX11_evenest_65 ?_
        refine g_iload5 68 rfl dX11_evenest_66 ?_
        refine g_callV 71 4 rfl kX11_197 (by first | rfl | exact st_o hb | exact st_1 hb | exact st_2 hb | exact st_3 hb | exact st_4 hb | exact st_5 hb | exact st_o hb2 | exact st_1 hb2 | exact st_2 hb2 | exact st_3 hb2 | exact st_4 hb2 | exact st_5 hb2) dX11_evenest_68 ⟨rfl, rfl⟩ (ok_X5_go hb2 hN.p ho (show k < 100 by omega)) rfl rfl rfl (fun r M1 hq => ?_)
        obtain ⟨rfl, f, rfl⟩ := hq
        try simp only [rV, Option.toList, List.cons_append, List.nil_append]
        have e := rouN_E (o := o) (k := k) (w := w) (s := 0) (t := 0) (hy.tr hN.x) rfl
        refine g_pop 72 rfl dX11_evenest_71 rfl ?_
        refine g_aload0 73 rfl dX11_evenest_72 ?_
        refine g_getR 76 rfl fX11_49 (by first | rfl | exact st_o hb | exact st_1 hb | exact st_2 hb | exact st_3 hb | exact st_4 hb | exact st_5 hb | exact st_o hb2 | exact st_1 hb2 | exact st_2 hb2 | exact st_3 hb2 | exact st_4 hb2 | exact st_5 hb2) rfl dX11_evenest_73 ?_
        refine g_callVi 79 0 rfl kX11_215 (by first | rfl | exact st_o hb | exact st_1 hb | exact st_2 hb | exact st_3 hb | exact st_4 hb | exact st_5 hb | exact st_o hb2 | exact st_1 hb2 | exact st_2 hb2 | exact st_3 hb2 | exact st_4 hb2 | exact st_5 hb2) dX11_evenest_76 ⟨rfl, rfl⟩ (ok_X7_spread hb2 (hN.sA nk34).p) rfl rfl rfl ?_
        have es : sprS (gR g) (gW g) (itN (rouB (gR g) (gW g) o w) k (y, 0)).1 = evS g w (nI k) o := by rw [evS, ek, sprS_E e.1]
        rw [es]
        have hN2 : CS g (pC (setA N 34 f) 21 (itN (rouB (gR g) (gW g) o w) k (y, 0)).1) := (hN.sA nk34).tri
        refine g_istore6 81 rfl dX11_evenest_79 rfl rfl ?_
        refine g_iload6 83 rfl dX11_evenest_81 ?_
        refine g_iload4 85 rfl dX11_evenest_83 ?_
        refine g_cmpge 95 88 rfl dX11_evenest_85 (by decide) (fun h85 => ?_) (fun h85 => ?_)
        · have e2 : evN g w (nI k) (o + 1) = evN g w (nI k) o := by rw [evN, ifC_t h85]
          rw [e2] at ih
          refine g_iinc5 98 rfl dX11_evenest_95 rfl rfl _ (by first | exact iinc1 _ | exact iincx _ | rfl) ?_
          refine g_goto 39 dX11_evenest_98 (by decide) ?_
          refine g_fg 6 ?_
          exact ih _ hN2
        · have e2 : evN g w (nI k) (o + 1) = (nI o, evS g w (nI k) o) := by rw [evN, ifC_f h85]
          rw [e2] at ih
          refine g_iload6 90 rfl dX11_evenest_88 ?_
          refine g_istore4 92 rfl dX11_evenest_90 rfl rfl ?_
          refine g_iload5 94 rfl dX11_evenest_92 ?_
          refine g_istore3 95 rfl dX11_evenest_94 rfl rfl ?_
          refine g_iinc5 98 rfl dX11_evenest_95 rfl rfl _ (by first | exact iinc1 _ | exact iincx _ | rfl) ?_
          refine g_goto 39 dX11_evenest_98 (by decide) ?_
          refine g_fg 6 ?_
          exact ih _ hN2
    · refine g_ifeq 27 17 rfl dX11_evenest_14 (by decide) (fun _ => ?_) (fun h => absurd rfl h)
      exact bad (fun z => hw z.1)
  · refine g_ifne 10 7 rfl dX11_evenest_4 (by decide) (fun h => absurd rfl h) (fun _ => ?_)
    refine g_bipush 9 rfl (v := (-103)) dX11_evenest_7 (by decide) ?_
    refine g_iret rfl dX11_evenest_9 ?_
    rw [fEven, ifC_f hq]
    exact ⟨rfl, h⟩
