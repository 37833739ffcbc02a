/-! the class's calls: speeds, images -/
def cdF : Nat → Int32 → Int32 → Int32
  | 0, a, _ => a
  | d + 1, a, b => if b = 0 then a else cdF d b (a - a / b * b)
theorem ok_cd {l : Launch} {M : Mm} {a b : Int32} : Oi GC l mX11_commonDivisor [.int a, .int b] M (cdF 64 a b) M := by
  refine ok_of (by decide +kernel) rfl rfl ?_
  refine g_iload0 1 rfl dX11_commonDivisor_0 ?_
  refine g_istore2 2 rfl dX11_commonDivisor_1 rfl rfl ?_
  refine g_iload1 3 rfl dX11_commonDivisor_2 ?_
  refine g_istore3 4 rfl dX11_commonDivisor_3 rfl rfl ?_
  refine g_iconst 5 rfl (v := 0) dX11_commonDivisor_4 (by decide) ?_
  refine g_istore4 7 rfl dX11_commonDivisor_5 rfl rfl ?_
  refine loop_up (P := fun i => ∀ c d, cdF (64 - i) c d = cdF 64 a b → Go GC l mX11_commonDivisor 7 [.int a, .int b, .int c, .int d, .int (nI i), .null] [] M _) 64 ?_ ?_ 0 (by omega) a b rfl
  · intro c d he
    have he : c = cdF 64 a b := he
    refine g_iload4 9 rfl dX11_commonDivisor_7 ?_
    refine g_bipush 11 rfl (v := 64) dX11_commonDivisor_9 (by decide) ?_
    refine g_cmpge 34 14 rfl dX11_commonDivisor_11 (by decide) (fun h11 => ?_) (fun h => absurd (by decide) h)
    refine g_iload2 35 rfl dX11_commonDivisor_34 ?_
    refine g_iret rfl dX11_commonDivisor_35 ?_
    exact ⟨by rw [← he], rfl⟩
  · intro i hi ih c d he
    rw [show 64 - i = 64 - (i + 1) + 1 by omega, cdF] at he
    refine g_iload4 9 rfl dX11_commonDivisor_7 ?_
    refine g_bipush 11 rfl (v := 64) dX11_commonDivisor_9 (by decide) ?_
    refine g_cmpge 34 14 rfl dX11_commonDivisor_11 (by decide) (fun h => absurd h (nI_ge hi (by decide))) (fun _ => ?_)
    refine g_iload3 15 rfl dX11_commonDivisor_14 ?_
    refine g_ifeq 34 18 rfl dX11_commonDivisor_15 (by decide) (fun h15 => ?_) (fun h15 => ?_)
    · rw [if_pos h15] at he
      refine g_iload2 35 rfl dX11_commonDivisor_34 ?_
      refine g_iret rfl dX11_commonDivisor_35 ?_
      exact ⟨by rw [he], rfl⟩
    · rw [if_neg h15] at he
      refine g_iload2 19 rfl dX11_commonDivisor_18 ?_
      refine g_iload3 20 rfl dX11_commonDivisor_19 ?_
      refine g_irem 21 rfl dX11_commonDivisor_20 h15 ?_
      refine g_istore5 23 rfl dX11_commonDivisor_21 rfl rfl ?_
      refine g_iload3 24 rfl dX11_commonDivisor_23 ?_
      refine g_istore2 25 rfl dX11_commonDivisor_24 rfl rfl ?_
      refine g_iload5 27 rfl dX11_commonDivisor_25 ?_
      refine g_istore3 28 rfl dX11_commonDivisor_27 rfl rfl ?_
      refine g_iinc4 31 rfl dX11_commonDivisor_28 rfl rfl _ (by first | exact iinc1 _ | exact iincx _ | rfl) ?_
      refine g_goto 7 dX11_commonDivisor_31 (by decide) ?_
      refine g_fg 5 ?_
      exact ih _ _ he
theorem jolN_E {H I : Nat → Int32} {R W r v : Nat} (h : eqN (R * W) H I) (hr : r < R) (hW : 0 < W) : ∀ i, i ≤ (W - 1) / v → jolN H W r v i = jolN I W r v i
  | 0, _ => rfl
  | i + 1, hi => by
    have hm : i * v + v ≤ W - 1 := by
      have h1 : (i + 1) * v ≤ (W - 1) / v * v := Nat.mul_le_mul_right v hi
      have h2 : (W - 1) / v * v ≤ W - 1 := Nat.div_mul_le_self _ _
      rw [Nat.add_mul, Nat.one_mul] at h1
      omega
    rw [jolN, jolN, jolN_E h hr hW i (by omega), h _ (rc_lt hr (show i * v < W by omega)), h _ (rc_lt hr (show i * v + v < W by omega))]
def okV (v q : Int32) : Prop := (1 ≤ v ∧ v ≤ 5) ∧ (0 ≤ q ∧ q ≤ 1)
def stpS (W v : Nat) : Nat := (W - 1) / v
def joS (g : Sg) (r v : Nat) : Int32 := jolN (sH (gX g)) (gW g) r v (stpS (gW g) v)
noncomputable def shkS (g : Sg) (r v : Nat) (q : Int32) : Int32 := ifC (joS g r v = 0 ∨ nI (stpS (gW g) v) = 0) q (quo (ifC (q = 0) (joS g r v) (nI (stpS (gW g) v))) (cdF 64 (joS g r v) (nI (stpS (gW g) v))))
noncomputable def fShake (g : Sg) (a v q : Int32) : Int32 × Sg := (ifC (vp_in a (gR g)) (ifC (okV v q) (shkS g (ce a) (ce v) q) (-102)) (-101), g)
theorem le5 {y : Int32} (h0 : 1 ≤ y) (h1 : y ≤ 5) : ∃ k, 0 < k ∧ k < 6 ∧ y = nI k := by
  rw [Int32.le_iff_toInt_le] at h0 h1
  rw [tI1] at h0
  have h20 : (5 : Int32).toInt = 5 := by decide
  obtain ⟨j, hj, rfl⟩ := vp_in_of (x := y) (n := 6) (vp_in_iff.mpr (by omega)) (by decide)
  rw [nI_toInt (by omega)] at h0
  exact ⟨j, by omega, hj, rfl⟩
theorem pub_shake {l : Launch} {M : Mm} {g : Sg} {a v q : Int32} (h : CS g M) : Ok GC l mX11_shake [.ref 0, .int a, .int v, .int q] M (qP (fShake g a v q)) := by
  have hb : isSt 15 := Or.inl rfl
  have hr5 : gR g ≤ 30 := by rcases h.p.1 with ⟨h1, h2⟩ | ⟨h1, h2, h3, h4⟩ <;> omega
  refine ok_of (by decide +kernel) rfl rfl ?_
  refine g_aload0 1 rfl dX11_shake_0 ?_
  refine g_iload1 2 rfl dX11_shake_1 ?_
  refine g_callV 5 1 rfl kX11_294 (by first | rfl | exact st_o hb | exact st_1 hb | exact st_2 hb | exact st_3 hb | exact st_4 hb | exact st_5 hb | exact st_o hb2 | exact st_1 hb2 | exact st_2 hb2 | exact st_3 hb2 | exact st_4 hb2 | exact st_5 hb2) dX11_shake_2 ⟨rfl, rfl⟩ (ok_isRow h.p) rfl rfl rfl (fun r M1 hq => ?_)
  obtain ⟨rfl, ⟨rfl, hq⟩ | ⟨rfl, hq⟩⟩ := hq
  try simp only [rV, Option.toList, List.cons_append, List.nil_append]
  · obtain ⟨r, hr, rfl⟩ := vp_in_of hq (by omega)
    have hW : 0 < gW g := by rcases h.p.1 with ⟨h1, h2⟩ | ⟨h1, h2, h3, h4⟩ <;> omega
    refine g_ifne 11 8 rfl dX11_shake_5 (by decide) (fun _ => ?_) (fun h => absurd h (by decide))
    have good : okV v q → Go GC l mX11_shake 33 [.ref 0, .int (nI r), .int v, .int q, .null, .null] [] M1 (qP (fShake g (nI r) v q)) := by
      intro hg
      obtain ⟨k, hk0, hk, rfl⟩ := le5 hg.1.1 hg.1.2
      have ht := ok_X7_jolts (l := l) (x := vC M1 15) hb h.p hr hk0 (show k < 100 by omega)
      rw [pC_vC] at ht
      have ej : jolN (sH (vC M1 15)) (gW g) r k ((gW g - 1) / k) = joS g r k := jolN_E h.x.2.2.1 hr hW _ (Nat.le_refl _)
      rw [ej] at ht
      have fin : ∀ z, z = shkS g r k q → qP (fShake g (nI r) (nI k) q) (some (.inl z)) M1 := by
        intro z hz
        rw [fShake, ifC_t hq, ifC_t hg, ce_nI (by omega), ce_nI (by omega)]
        exact ⟨by rw [hz], h⟩
      refine g_aload0 34 rfl dX11_shake_33 ?_
      refine g_getR 37 rfl fX11_45 (by first | rfl | exact st_o hb | exact st_1 hb | exact st_2 hb | exact st_3 hb | exact st_4 hb | exact st_5 hb | exact st_o hb2 | exact st_1 hb2 | exact st_2 hb2 | exact st_3 hb2 | exact st_4 hb2 | exact st_5 hb2) rfl dX11_shake_34 ?_
      refine g_iload1 38 rfl dX11_shake_37 ?_
      refine g_iload2 39 rfl dX11_shake_38 ?_
      refine g_callVi 42 2 rfl kX11_297 (by first | rfl | exact st_o hb | exact st_1 hb | exact st_2 hb | exact st_3 hb | exact st_4 hb | exact st_5 hb | exact st_o hb2 | exact st_1 hb2 | exact st_2 hb2 | exact st_3 hb2 | exact st_4 hb2 | exact st_5 hb2) dX11_shake_39 ⟨rfl, rfl⟩ ht rfl rfl rfl ?_
      refine g_istore4 44 rfl dX11_shake_42 rfl rfl ?_
      refine g_aload0 45 rfl dX11_shake_44 ?_
      refine g_getR 48 rfl fX11_36 (by first | rfl | exact st_o hb | exact st_1 hb | exact st_2 hb | exact st_3 hb | exact st_4 hb | exact st_5 hb | exact st_o hb2 | exact st_1 hb2 | exact st_2 hb2 | exact st_3 hb2 | exact st_4 hb2 | exact st_5 hb2) rfl dX11_shake_45 ?_
      refine g_iload2 49 rfl dX11_shake_48 ?_
      refine g_callVi 52 1 rfl kX11_300 (by first | rfl | exact st_o hb | exact st_1 hb | exact st_2 hb | exact st_3 hb | exact st_4 hb | exact st_5 hb | exact st_o hb2 | exact st_1 hb2 | exact st_2 hb2 | exact st_3 hb2 | exact st_4 hb2 | exact st_5 hb2) dX11_shake_49 ⟨rfl, rfl⟩ (ok_X4_steps h.p hW hk0 (by omega)) rfl rfl rfl ?_
      refine g_istore5 54 rfl dX11_shake_52 rfl rfl ?_
      have es : nI ((gW g - 1) / k) = nI (stpS (gW g) k) := rfl
      rw [es]
      refine g_iload4 56 rfl dX11_shake_54 ?_
      refine g_ifeq 64 59 rfl dX11_shake_56 (by decide) (fun h56 => ?_) (fun h56 => ?_)
      · refine g_iload3 65 rfl dX11_shake_64 ?_
        refine g_iret rfl dX11_shake_65 ?_
        refine fin _ ?_
        first | rw [shkS, ifC_t (Or.inl h56)] | rw [shkS, ifC_t (Or.inr h61)] | rw [shkS, ifC_f (fun z => z.elim h56 h61), ifC_t h67] | rw [shkS, ifC_f (fun z => z.elim h56 h61), ifC_f h67]
      · refine g_iload5 61 rfl dX11_shake_59 ?_
        refine g_ifne 66 64 rfl dX11_shake_61 (by decide) (fun h61 => ?_) (fun h61 => ?_)
        · refine g_iload3 67 rfl dX11_shake_66 ?_
          refine g_ifne 75 70 rfl dX11_shake_67 (by decide) (fun h67 => ?_) (fun h67 => ?_)
          · refine g_iload5 77 rfl dX11_shake_75 ?_
            refine g_iload4 79 rfl dX11_shake_77 ?_
            refine g_iload5 81 rfl dX11_shake_79 ?_
            refine g_callSi 84 2 rfl kX11_303 dX11_shake_81 ⟨rfl, rfl⟩ ok_cd rfl rfl rfl ?_
            refine g_callSi 87 2 rfl kX11_278 dX11_shake_84 ⟨rfl, rfl⟩ ok_X11_quotient rfl rfl rfl ?_
            refine g_iret rfl dX11_shake_87 ?_
            refine fin _ ?_
            first | rw [shkS, ifC_t (Or.inl h56)] | rw [shkS, ifC_t (Or.inr h61)] | rw [shkS, ifC_f (fun z => z.elim h56 h61), ifC_t h67] | rw [shkS, ifC_f (fun z => z.elim h56 h61), ifC_f h67]
          · refine g_iload4 72 rfl dX11_shake_70 ?_
            refine g_goto 77 dX11_shake_72 (by decide) ?_
            refine g_iload4 79 rfl dX11_shake_77 ?_
            refine g_iload5 81 rfl dX11_shake_79 ?_
            refine g_callSi 84 2 rfl kX11_303 dX11_shake_81 ⟨rfl, rfl⟩ ok_cd rfl rfl rfl ?_
            refine g_callSi 87 2 rfl kX11_278 dX11_shake_84 ⟨rfl, rfl⟩ ok_X11_quotient rfl rfl rfl ?_
            refine g_iret rfl dX11_shake_87 ?_
            refine fin _ ?_
            first | rw [shkS, ifC_t (Or.inl h56)] | rw [shkS, ifC_t (Or.inr h61)] | rw [shkS, ifC_f (fun z => z.elim h56 h61), ifC_t h67] | rw [shkS, ifC_f (fun z => z.elim h56 h61), ifC_f h67]
        · refine g_iload3 65 rfl dX11_shake_64 ?_
          refine g_iret rfl dX11_shake_65 ?_
          refine fin _ ?_
          first | rw [shkS, ifC_t (Or.inl h56)] | rw [shkS, ifC_t (Or.inr h61)] | rw [shkS, ifC_f (fun z => z.elim h56 h61), ifC_t h67] | rw [shkS, ifC_f (fun z => z.elim h56 h61), ifC_f h67]
    refine g_iload2 12 rfl dX11_shake_11 ?_
    refine g_iconst 13 rfl (v := 1) dX11_shake_12 (by decide) ?_
    refine g_cmplt 30 16 rfl dX11_shake_13 (by decide) (fun h13 => ?_) (fun h13 => ?_)
    · have hn : ¬ okV v q := (fun q => by first | exact absurd h13 (Int32.not_lt.mpr q.1.1) | exact absurd h18 (Int32.not_lt.mpr q.1.2) | exact absurd h22 (Int32.not_lt.mpr q.2.1) | exact h27 q.2.2)
      refine g_bipush 32 rfl (v := (-102)) dX11_shake_30 (by decide) ?_
      refine g_iret rfl dX11_shake_32 ?_
      rw [fShake, ifC_t hq, ifC_f hn]
      exact ⟨rfl, h⟩
    · refine g_iload2 17 rfl dX11_shake_16 ?_
      refine g_iconst 18 rfl (v := 5) dX11_shake_17 (by decide) ?_
      refine g_cmpgt 30 21 rfl dX11_shake_18 (by decide) (fun h18 => ?_) (fun h18 => ?_)
      · have hn : ¬ okV v q := (fun q => by first | exact absurd h13 (Int32.not_lt.mpr q.1.1) | exact absurd h18 (Int32.not_lt.mpr q.1.2) | exact absurd h22 (Int32.not_lt.mpr q.2.1) | exact h27 q.2.2)
        refine g_bipush 32 rfl (v := (-102)) dX11_shake_30 (by decide) ?_
        refine g_iret rfl dX11_shake_32 ?_
        rw [fShake, ifC_t hq, ifC_f hn]
        exact ⟨rfl, h⟩
      · refine g_iload3 22 rfl dX11_shake_21 ?_
        refine g_iflt 30 25 rfl dX11_shake_22 (by decide) (fun h22 => ?_) (fun h22 => ?_)
        · have hn : ¬ okV v q := (fun q => by first | exact absurd h13 (Int32.not_lt.mpr q.1.1) | exact absurd h18 (Int32.not_lt.mpr q.1.2) | exact absurd h22 (Int32.not_lt.mpr q.2.1) | exact h27 q.2.2)
          refine g_bipush 32 rfl (v := (-102)) dX11_shake_30 (by decide) ?_
          refine g_iret rfl dX11_shake_32 ?_
          rw [fShake, ifC_t hq, ifC_f hn]
          exact ⟨rfl, h⟩
        · refine g_iload3 26 rfl dX11_shake_25 ?_
          refine g_iconst 27 rfl (v := 1) dX11_shake_26 (by decide) ?_
          refine g_cmple 33 30 rfl dX11_shake_27 (by decide) (fun h27 => ?_) (fun h27 => ?_)
          · exact good ⟨⟨Int32.not_lt.mp h13, Int32.not_lt.mp h18⟩, Int32.not_lt.mp h22, h27⟩
          · have hn : ¬ okV v q := (fun q => by first | exact absurd h13 (Int32.not_lt.mpr q.1.1) | exact absurd h18 (Int32.not_lt.mpr q.1.2) | exact absurd h22 (Int32.not_lt.mpr q.2.1) | exact h27 q.2.2)
            refine g_bipush 32 rfl (v := (-102)) dX11_shake_30 (by decide) ?_
            refine g_iret rfl dX11_shake_32 ?_
            rw [fShake, ifC_t hq, ifC_f hn]
            exact ⟨rfl, h⟩
  · refine g_ifne 11 8 rfl dX11_shake_5 (by decide) (fun h => absurd rfl h) (fun _ => ?_)
    refine g_bipush 10 rfl (v := (-101)) dX11_shake_8 (by decide) ?_
    refine g_iret rfl dX11_shake_10 ?_
    rw [fShake, ifC_f hq]
    exact ⟨rfl, h⟩
def wrsC (g : Sg) (r s b : Nat) : Prop := ¬ nI (stpS (gW g) s) ≤ 0 ∧ ¬ lg_cmp ((joS g r s).toInt64 * (nI (stpS (gW g) b)).toInt64) ((joS g r b).toInt64 * (nI (stpS (gW g) s)).toInt64) ≤ 0
noncomputable def wrsN (g : Sg) (r : Nat) : Nat → Nat
  | 0 => 1
  | i + 1 => ifC (wrsC g r (i + 2) (wrsN g r i)) (i + 2) (wrsN g r i)
theorem wrsN_b {g : Sg} {r : Nat} : ∀ i, 1 ≤ wrsN g r i ∧ wrsN g r i ≤ i + 1
  | 0 => ⟨Nat.le_refl _, Nat.le_refl _⟩
  | i + 1 => by
    have ih := wrsN_b (g := g) (r := r) i
    rw [wrsN]
    by_cases hc : wrsC g r (i + 2) (wrsN g r i)
    · rw [ifC_t hc]; omega
    · rw [ifC_f hc]; omega
noncomputable def fWorst (g : Sg) (a : Int32) : Int32 × Sg := (ifC (vp_in a (gR g)) (nI (wrsN g (ce a) 4)) (-101), g)
theorem pub_worst {l : Launch} {M : Mm} {g : Sg} {a : Int32} (h : CS g M) : Ok GC l mX11_worst [.ref 0, .int a] M (qP (fWorst g a)) := by
  have hb : isSt 15 := Or.inl rfl
  have hr5 : gR g ≤ 30 := by rcases h.p.1 with ⟨h1, h2⟩ | ⟨h1, h2, h3, h4⟩ <;> omega
  refine ok_of (by decide +kernel) rfl rfl ?_
  refine g_aload0 1 rfl dX11_worst_0 ?_
  refine g_iload1 2 rfl dX11_worst_1 ?_
  refine g_callV 5 1 rfl kX11_294 (by first | rfl | exact st_o hb | exact st_1 hb | exact st_2 hb | exact st_3 hb | exact st_4 hb | exact st_5 hb | exact st_o hb2 | exact st_1 hb2 | exact st_2 hb2 | exact st_3 hb2 | exact st_4 hb2 | exact st_5 hb2) dX11_worst_2 ⟨rfl, rfl⟩ (ok_isRow h.p) rfl rfl rfl (fun r M1 hq => ?_)
  obtain ⟨rfl, ⟨rfl, hq⟩ | ⟨rfl, hq⟩⟩ := hq
  try simp only [rV, Option.toList, List.cons_append, List.nil_append]
  · obtain ⟨r, hr, rfl⟩ := vp_in_of hq (by omega)
    have hW : 0 < gW g := by rcases h.p.1 with ⟨h1, h2⟩ | ⟨h1, h2, h3, h4⟩ <;> omega
    have ht : ∀ k, 0 < k → k < 100 → Oi GC l mX7_jolts [.ref 15, .int (nI r), .int (nI k)] M1 (joS g r k) M1 := by
      intro k h1 h2
      have ht := ok_X7_jolts (l := l) (x := vC M1 15) hb h.p hr h1 h2
      rw [pC_vC] at ht
      have ej : jolN (sH (vC M1 15)) (gW g) r k ((gW g - 1) / k) = joS g r k := jolN_E h.x.2.2.1 hr hW _ (Nat.le_refl _)
      rw [ej] at ht
      exact ht
    have hs : ∀ k, 0 < k → k < 100 → Oi GC l mX4_steps [.ref 12, .int (nI k)] M1 (nI (stpS (gW g) k)) M1 := fun k h1 h2 => ok_X4_steps h.p hW h1 h2
    refine g_ifne 11 8 rfl dX11_worst_5 (by decide) (fun _ => ?_) (fun h => absurd h (by decide))
    refine g_iconst 12 rfl (v := 1) dX11_worst_11 (by decide) ?_
    refine g_istore2 13 rfl dX11_worst_12 rfl rfl ?_
    refine g_iconst 14 rfl (v := 2) dX11_worst_13 (by decide) ?_
    refine g_istore3 15 rfl dX11_worst_14 rfl rfl ?_
    refine loop_up (P := fun i => Go GC l mX11_worst 15 [.ref 0, .int (nI r), .int (nI (wrsN g r i)), .int (nI (i + 2)), .null, .null, .null, .null] [] M1 (qP (fWorst g (nI r)))) 4 ?_ ?_ 0 (by omega)
    · refine g_iload3 16 rfl dX11_worst_15 ?_
      refine g_iconst 17 rfl (v := 5) dX11_worst_16 (by decide) ?_
      refine g_cmpgt 91 20 rfl dX11_worst_17 (by decide) (fun _ => ?_) (fun h => absurd (by decide) h)
      refine g_iload2 92 rfl dX11_worst_91 ?_
      refine g_iret rfl dX11_worst_92 ?_
      rw [fWorst, ifC_t hq, ce_nI (by omega)]
      exact ⟨rfl, h⟩
    · intro i hi ih
      have hbb := wrsN_b (g := g) (r := r) i
      have j1 := ht (i + 2) (by omega) (by omega)
      have j2 := ht (wrsN g r i) (by omega) (by omega)
      have s1 := hs (i + 2) (by omega) (by omega)
      have s2 := hs (wrsN g r i) (by omega) (by omega)
      refine g_iload3 16 rfl dX11_worst_15 ?_
      refine g_iconst 17 rfl (v := 5) dX11_worst_16 (by decide) ?_
      refine g_cmpgt 91 20 rfl dX11_worst_17 (by decide) (fun h => absurd h (nI_nlt (a := 5) (b := i + 2) (by omega) (by decide))) (fun _ => ?_)
      refine g_aload0 21 rfl dX11_worst_20 ?_
      refine g_getR 24 rfl fX11_45 (by first | rfl | exact st_o hb | exact st_1 hb | exact st_2 hb | exact st_3 hb | exact st_4 hb | exact st_5 hb | exact st_o hb2 | exact st_1 hb2 | exact st_2 hb2 | exact st_3 hb2 | exact st_4 hb2 | exact st_5 hb2) rfl dX11_worst_21 ?_
      refine g_iload1 25 rfl dX11_worst_24 ?_
      refine g_iload3 26 rfl dX11_worst_25 ?_
      refine g_callVi 29 2 rfl kX11_297 (by first | rfl | exact st_o hb | exact st_1 hb | exact st_2 hb | exact st_3 hb | exact st_4 hb | exact st_5 hb | exact st_o hb2 | exact st_1 hb2 | exact st_2 hb2 | exact st_3 hb2 | exact st_4 hb2 | exact st_5 hb2) dX11_worst_26 ⟨rfl, rfl⟩ j1 rfl rfl rfl ?_
      refine g_i2l 30 rfl dX11_worst_29 ?_
      refine g_aload0 31 rfl dX11_worst_30 ?_
      refine g_getR 34 rfl fX11_36 (by first | rfl | exact st_o hb | exact st_1 hb | exact st_2 hb | exact st_3 hb | exact st_4 hb | exact st_5 hb | exact st_o hb2 | exact st_1 hb2 | exact st_2 hb2 | exact st_3 hb2 | exact st_4 hb2 | exact st_5 hb2) rfl dX11_worst_31 ?_
      refine g_iload2 35 rfl dX11_worst_34 ?_
      refine g_callVi 38 1 rfl kX11_300 (by first | rfl | exact st_o hb | exact st_1 hb | exact st_2 hb | exact st_3 hb | exact st_4 hb | exact st_5 hb | exact st_o hb2 | exact st_1 hb2 | exact st_2 hb2 | exact st_3 hb2 | exact st_4 hb2 | exact st_5 hb2) dX11_worst_35 ⟨rfl, rfl⟩ s2 rfl rfl rfl ?_
      refine g_i2l 39 rfl dX11_worst_38 ?_
      refine g_lmul 40 rfl dX11_worst_39 ?_
      refine g_lstore4 42 rfl dX11_worst_40 rfl rfl ?_
      refine g_aload0 43 rfl dX11_worst_42 ?_
      refine g_getR 46 rfl fX11_45 (by first | rfl | exact st_o hb | exact st_1 hb | exact st_2 hb | exact st_3 hb | exact st_4 hb | exact st_5 hb | exact st_o hb2 | exact st_1 hb2 | exact st_2 hb2 | exact st_3 hb2 | exact st_4 hb2 | exact st_5 hb2) rfl dX11_worst_43 ?_
      refine g_iload1 47 rfl dX11_worst_46 ?_
      refine g_iload2 48 rfl dX11_worst_47 ?_
      refine g_callVi 51 2 rfl kX11_297 (by first | rfl | exact st_o hb | exact st_1 hb | exact st_2 hb | exact st_3 hb | exact st_4 hb | exact st_5 hb | exact st_o hb2 | exact st_1 hb2 | exact st_2 hb2 | exact st_3 hb2 | exact st_4 hb2 | exact st_5 hb2) dX11_worst_48 ⟨rfl, rfl⟩ j2 rfl rfl rfl ?_
      refine g_i2l 52 rfl dX11_worst_51 ?_
      refine g_aload0 53 rfl dX11_worst_52 ?_
      refine g_getR 56 rfl fX11_36 (by first | rfl | exact st_o hb | exact st_1 hb | exact st_2 hb | exact st_3 hb | exact st_4 hb | exact st_5 hb | exact st_o hb2 | exact st_1 hb2 | exact st_2 hb2 | exact st_3 hb2 | exact st_4 hb2 | exact st_5 hb2) rfl dX11_worst_53 ?_
      refine g_iload3 57 rfl dX11_worst_56 ?_
      refine g_callVi 60 1 rfl kX11_300 (by first | rfl | exact st_o hb | exact st_1 hb | exact st_2 hb | exact st_3 hb | exact st_4 hb | exact st_5 hb | exact st_o hb2 | exact st_1 hb2 | exact st_2 hb2 | exact st_3 hb2 | exact st_4 hb2 | exact st_5 hb2) dX11_worst_57 ⟨rfl, rfl⟩ s1 rfl rfl rfl ?_
      refine g_i2l 61 rfl dX11_worst_60 ?_
      refine g_lmul 62 rfl dX11_worst_61 ?_
      refine g_lstore6 64 rfl dX11_worst_62 rfl rfl ?_
      refine g_aload0 65 rfl dX11_worst_64 ?_
      refine g_getR 68 rfl fX11_36 (by first | rfl | exact st_o hb | exact st_1 hb | exact st_2 hb | exact st_3 hb | exact st_4 hb | exact st_5 hb | exact st_o hb2 | exact st_1 hb2 | exact st_2 hb2 | exact st_3 hb2 | exact st_4 hb2 | exact st_5 hb2) rfl dX11_worst_65 ?_
      refine g_iload3 69 rfl dX11_worst_68 ?_
      refine g_callVi 72 1 rfl kX11_300 (by first | rfl | exact st_o hb | exact st_1 hb | exact st_2 hb | exact st_3 hb | exact st_4 hb | exact st_5 hb | exact st_o hb2 | exact st_1 hb2 | exact st_2 hb2 | exact st_3 hb2 | exact st_4 hb2 | exact st_5 hb2) dX11_worst_69 ⟨rfl, rfl⟩ s1 rfl rfl rfl ?_
      refine g_ifle 85 75 rfl dX11_worst_72 (by decide) (fun h72 => ?_) (fun h72 => ?_)
      · have e : wrsN g r (i + 1) = wrsN g r i := by rw [wrsN, ifC_f (fun z => z.1 h72)]
        rw [e] at ih
        refine g_iinc3 88 rfl dX11_worst_85 rfl rfl _ (by first | exact iinc1 _ | exact iincx _ | rfl) ?_
        refine g_goto 15 dX11_worst_88 (by decide) ?_
        refine g_fg 4 ?_
        refine g_fg 6 ?_
        exact ih
      · refine g_lload4 77 rfl dX11_worst_75 ?_
        refine g_lload6 79 rfl dX11_worst_77 ?_
        refine g_lcmp 80 rfl dX11_worst_79 ?_
        refine g_ifle 85 83 rfl dX11_worst_80 (by decide) (fun h80 => ?_) (fun h80 => ?_)
        · have e : wrsN g r (i + 1) = wrsN g r i := by rw [wrsN, ifC_f (fun z => z.2 h80)]
          rw [e] at ih
          refine g_iinc3 88 rfl dX11_worst_85 rfl rfl _ (by first | exact iinc1 _ | exact iincx _ | rfl) ?_
          refine g_goto 15 dX11_worst_88 (by decide) ?_
          refine g_fg 4 ?_
          refine g_fg 6 ?_
          exact ih
        · have e : wrsN g r (i + 1) = i + 2 := by rw [wrsN, ifC_t ⟨h72, h80⟩]
          rw [e] at ih
          refine g_iload3 84 rfl dX11_worst_83 ?_
          refine g_istore2 85 rfl dX11_worst_84 rfl rfl ?_
          refine g_iinc3 88 rfl dX11_worst_85 rfl rfl _ (by first | exact iinc1 _ | exact iincx _ | rfl) ?_
          refine g_goto 15 dX11_worst_88 (by decide) ?_
          refine g_fg 4 ?_
          refine g_fg 6 ?_
          exact ih
  · refine g_ifne 11 8 rfl dX11_worst_5 (by decide) (fun h => absurd rfl h) (fun _ => ?_)
    refine g_bipush 10 rfl (v := (-101)) dX11_worst_8 (by decide) ?_
    refine g_iret rfl dX11_worst_10 ?_
    rw [fWorst, ifC_f hq]
    exact ⟨rfl, h⟩
theorem CS.img {g : Sg} {M : Mm} {y : Sx} (h : CS g M) (hS : 0 < gS g) (hy : sxE (gN g) y (gX g)) : CS (sgI g (gS g) (gX g)) (setA (pC M 27 y) 0 (upd (M.1 0) 15 (nI (gS g)))) := by
  obtain ⟨h1, h2, h3, h4, h5, h6, h7, h8, h9, h10⟩ := h
  have e : ∀ q, (q ≠ 0 ∧ (q < 27 ∨ 32 < q)) → (setA (pC M 27 y) 0 (upd (M.1 0) 15 (nI (gS g)))).1 q = M.1 q := fun q hq => by rw [sA_n hq.1, pC_o (by omega)]
  have v15 : vC (setA (pC M 27 y) 0 (upd (M.1 0) 15 (nI (gS g)))) 15 = vC M 15 := by unfold vC; rw [e (15 + 1) (by omega), e (15 + 2) (by omega), e (15 + 3) (by omega), e (15 + 4) (by omega), e (15 + 5) (by omega), e 15 (by omega)]
  have v27 : vC (setA (pC M 27 y) 0 (upd (M.1 0) 15 (nI (gS g)))) 27 = y := by
    rw [show vC (setA (pC M 27 y) 0 (upd (M.1 0) 15 (nI (gS g)))) 27 = vC (pC M 27 y) 27 from by unfold vC; rw [sA_n (by omega), sA_n (by omega), sA_n (by omega), sA_n (by omega), sA_n (by omega), sA_n (by omega)], vC_pC]
  refine ⟨?_, by rw [v15]; exact h2, ?_, ?_, ?_, ?_, ?_, fun _ _ => by rw [v27]; exact hy, ?_, h10.1, h10.2.1, Nat.le_refl _, h10.2.2.2⟩
  · unfold Plan; rw [e 12 (by omega), e 13 (by omega), e 14 (by omega)]; exact h1
  · unfold Pg; rw [e 1 (by omega), e 2 (by omega)]; exact h3
  · unfold Crt; rw [e 9 (by omega), e (9 + 1) (by omega), e (9 + 2) (by omega)]; exact h4
  · unfold Hp; rw [e 42 (by omega), e 43 (by omega), e 44 (by omega)]; exact h5
  · rw [sA_s, pk_un (by decide)]; exact h6
  · rw [sA_s, upd_at]; show nI (gS g) = if gS g = 0 then -1 else nI (gS g); rw [if_neg (by omega)]
  · rw [sA_s, pk_un (by decide)]; exact h9
theorem ap27 : apart 27 15 := by unfold apart; omega
theorem ap15 : apart 15 27 := by unfold apart; omega
noncomputable def fImage (g : Sg) : Int32 × Sg := ifC (0 < gN g) (stoN (gX g) (gN g), sgI g (gS g) (gX g)) (-103, g)
theorem pub_image {l : Launch} {M : Mm} {g : Sg} (h : CS g M) : Ok GC l mX11_image [.ref 0] M (qP (fImage g)) := by
  have hb : isSt 15 := Or.inl rfl
  have hb2 : isSt 27 := Or.inr (Or.inr rfl)
  refine ok_of (by decide +kernel) rfl rfl ?_
  refine g_aload0 1 rfl dX11_image_0 ?_
  refine g_callV 4 0 rfl kX11_171 (by first | rfl | exact st_o hb | exact st_1 hb | exact st_2 hb | exact st_3 hb | exact st_4 hb | exact st_5 hb | exact st_o hb2 | exact st_1 hb2 | exact st_2 hb2 | exact st_3 hb2 | exact st_4 hb2 | exact st_5 hb2) dX11_image_1 ⟨rfl, rfl⟩ (ok_hasStreet h.p) rfl rfl rfl (fun r M1 hq => ?_)
  obtain ⟨rfl, ⟨rfl, hq⟩ | ⟨rfl, hq⟩⟩ := hq
  try simp only [rV, Option.toList, List.cons_append, List.nil_append]
  · have ht := ok_X7_copyFrom (l := l) (x := vC M1 27) hb2 hb ap27 h.p
    rw [pC_vC] at ht
    refine g_ifne 10 7 rfl dX11_image_4 (by decide) (fun _ => ?_) (fun h => absurd h (by decide))
    refine g_aload0 11 rfl dX11_image_10 ?_
    refine g_getR 14 rfl fX11_52 (by first | rfl | exact st_o hb | exact st_1 hb | exact st_2 hb | exact st_3 hb | exact st_4 hb | exact st_5 hb | exact st_o hb2 | exact st_1 hb2 | exact st_2 hb2 | exact st_3 hb2 | exact st_4 hb2 | exact st_5 hb2) rfl dX11_image_11 ?_
    refine g_aload0 15 rfl dX11_image_14 ?_
    refine g_getR 18 rfl fX11_45 (by first | rfl | exact st_o hb | exact st_1 hb | exact st_2 hb | exact st_3 hb | exact st_4 hb | exact st_5 hb | exact st_o hb2 | exact st_1 hb2 | exact st_2 hb2 | exact st_3 hb2 | exact st_4 hb2 | exact st_5 hb2) rfl dX11_image_15 ?_
    refine g_callV 21 1 rfl kX11_205 (by first | rfl | exact st_o hb | exact st_1 hb | exact st_2 hb | exact st_3 hb | exact st_4 hb | exact st_5 hb | exact st_o hb2 | exact st_1 hb2 | exact st_2 hb2 | exact st_3 hb2 | exact st_4 hb2 | exact st_5 hb2) dX11_image_18 ⟨rfl, rfl⟩ ht rfl rfl rfl (fun r M1 hq => ?_)
    obtain ⟨rfl, y, rfl, hy⟩ := hq
    try simp only [rV, Option.toList, List.cons_append, List.nil_append]
    have e0 : (pC M1 27 y).1 0 = M1.1 0 := pC_o (by decide)
    have e14 : M1.1 0 14 = nI (gS g) := h.2.2.2.2.2.1
    refine g_aload0 22 rfl dX11_image_21 ?_
    refine g_aload0 23 rfl dX11_image_22 ?_
    refine g_getI 26 rfl fX11_96 (by first | rfl | exact st_o hb | exact st_1 hb | exact st_2 hb | exact st_3 hb | exact st_4 hb | exact st_5 hb | exact st_o hb2 | exact st_1 hb2 | exact st_2 hb2 | exact st_3 hb2 | exact st_4 hb2 | exact st_5 hb2) rfl dX11_image_23 ?_
    try simp only [e0, e14]
    refine g_putI 29 rfl fX11_100 (by first | rfl | exact st_o hb | exact st_1 hb | exact st_2 hb | exact st_3 hb | exact st_4 hb | exact st_5 hb | exact st_o hb2 | exact st_1 hb2 | exact st_2 hb2 | exact st_3 hb2 | exact st_4 hb2 | exact st_5 hb2) rfl dX11_image_26 ?_
    try simp only [e0, e14]
    have hS : 0 < gS g := h.2.2.2.2.2.2.2.2.2.1.mp hq
    have hc := h.img hS (hy.tr h.x)
    have hst := ok_X7_stones (l := l) (M := setA M1 0 (upd (M1.1 0) 15 (nI (gS g)))) (x := y) hb2 (pl_set h.p (by decide))
    rw [← set_o (by decide)] at hst
    refine g_aload0 30 rfl dX11_image_29 ?_
    refine g_getR 33 rfl fX11_52 (by first | rfl | exact st_o hb | exact st_1 hb | exact st_2 hb | exact st_3 hb | exact st_4 hb | exact st_5 hb | exact st_o hb2 | exact st_1 hb2 | exact st_2 hb2 | exact st_3 hb2 | exact st_4 hb2 | exact st_5 hb2) rfl dX11_image_30 ?_
    refine g_callVi 36 0 rfl kX11_178 (by first | rfl | exact st_o hb | exact st_1 hb | exact st_2 hb | exact st_3 hb | exact st_4 hb | exact st_5 hb | exact st_o hb2 | exact st_1 hb2 | exact st_2 hb2 | exact st_3 hb2 | exact st_4 hb2 | exact st_5 hb2) dX11_image_33 ⟨rfl, rfl⟩ hst rfl rfl rfl ?_
    refine g_iret rfl dX11_image_36 ?_
    rw [fImage, ifC_t hq]
    exact ⟨by rw [stoN_E (hy.tr h.x) _ (Nat.le_refl _)], hc⟩
  · refine g_ifne 10 7 rfl dX11_image_4 (by decide) (fun h => absurd rfl h) (fun _ => ?_)
    refine g_bipush 9 rfl (v := (-103)) dX11_image_7 (by decide) ?_
    refine g_iret rfl dX11_image_9 ?_
    rw [fImage, ifC_f hq]
    exact ⟨rfl, h⟩
noncomputable def fRestore (g : Sg) : Int32 × Sg := ifC (gI g ≠ 0 ∧ gI g = gS g) (stoN (gV g) (gN g), sgX g (gV g)) (-103, g)
theorem pub_restore {l : Launch} {M : Mm} {g : Sg} (h : CS g M) : Ok GC l mX11_restore [.ref 0] M (qP (fRestore g)) := by
  have hb : isSt 15 := Or.inl rfl
  have hb2 : isSt 27 := Or.inr (Or.inr rfl)
  have e14 : M.1 0 14 = nI (gS g) := h.2.2.2.2.2.1
  have e15 := h.2.2.2.2.2.2.1
  have hO := h.2.2.2.2.2.2.2.2.2
  refine ok_of (by decide +kernel) rfl rfl ?_
  have bad : ¬ (gI g ≠ 0 ∧ gI g = gS g) → Go GC l mX11_restore 19 [.ref 0] [] M (qP (fRestore g)) := by
    intro hn
    refine g_bipush 21 rfl (v := (-103)) dX11_restore_19 (by decide) ?_
    refine g_iret rfl dX11_restore_21 ?_
    rw [fRestore, ifC_f hn]
    exact ⟨rfl, h⟩
  refine g_aload0 1 rfl dX11_restore_0 ?_
  refine g_getI 4 rfl fX11_100 (by first | rfl | exact st_o hb | exact st_1 hb | exact st_2 hb | exact st_3 hb | exact st_4 hb | exact st_5 hb | exact st_o hb2 | exact st_1 hb2 | exact st_2 hb2 | exact st_3 hb2 | exact st_4 hb2 | exact st_5 hb2) rfl dX11_restore_1 ?_
  try simp only [e14, e15]
  refine g_iconst 5 rfl (v := (-1)) dX11_restore_4 (by decide) ?_
  by_cases hI : gI g = 0
  · rw [if_pos hI]
    refine g_cmpeq 19 8 rfl dX11_restore_5 (by decide) (fun _ => ?_) (fun h => absurd rfl h)
    exact bad (fun z => z.1 hI)
  · rw [if_neg hI]
    have hb3 := hO.2.2.1
    have hb4 := hO.2.1
    refine g_cmpeq 19 8 rfl dX11_restore_5 (by decide) (fun q => absurd q (nI_ne_m1 (by omega))) (fun _ => ?_)
    refine g_aload0 9 rfl dX11_restore_8 ?_
    refine g_getI 12 rfl fX11_100 (by first | rfl | exact st_o hb | exact st_1 hb | exact st_2 hb | exact st_3 hb | exact st_4 hb | exact st_5 hb | exact st_o hb2 | exact st_1 hb2 | exact st_2 hb2 | exact st_3 hb2 | exact st_4 hb2 | exact st_5 hb2) rfl dX11_restore_9 ?_
    try simp only [e14, e15]
    refine g_aload0 13 rfl dX11_restore_12 ?_
    refine g_getI 16 rfl fX11_96 (by first | rfl | exact st_o hb | exact st_1 hb | exact st_2 hb | exact st_3 hb | exact st_4 hb | exact st_5 hb | exact st_o hb2 | exact st_1 hb2 | exact st_2 hb2 | exact st_3 hb2 | exact st_4 hb2 | exact st_5 hb2) rfl dX11_restore_13 ?_
    try simp only [e14, e15]
    rw [if_neg hI]
    refine g_cmpeq 22 19 rfl dX11_restore_16 (by decide) (fun q => ?_) (fun q => bad (fun z => q (by rw [z.2])))
    have hIS : gI g = gS g := (nI_eq (by omega) (by omega)).mp q
    have hv := h.2.2.2.2.2.2.2.1 hI hIS
    have ht := ok_X7_copyFrom (l := l) (x := vC M 15) hb hb2 ap15 h.p
    rw [pC_vC] at ht
    refine g_aload0 23 rfl dX11_restore_22 ?_
    refine g_getR 26 rfl fX11_45 (by first | rfl | exact st_o hb | exact st_1 hb | exact st_2 hb | exact st_3 hb | exact st_4 hb | exact st_5 hb | exact st_o hb2 | exact st_1 hb2 | exact st_2 hb2 | exact st_3 hb2 | exact st_4 hb2 | exact st_5 hb2) rfl dX11_restore_23 ?_
    refine g_aload0 27 rfl dX11_restore_26 ?_
    refine g_getR 30 rfl fX11_52 (by first | rfl | exact st_o hb | exact st_1 hb | exact st_2 hb | exact st_3 hb | exact st_4 hb | exact st_5 hb | exact st_o hb2 | exact st_1 hb2 | exact st_2 hb2 | exact st_3 hb2 | exact st_4 hb2 | exact st_5 hb2) rfl dX11_restore_27 ?_
    refine g_callV 33 1 rfl kX11_205 (by first | rfl | exact st_o hb | exact st_1 hb | exact st_2 hb | exact st_3 hb | exact st_4 hb | exact st_5 hb | exact st_o hb2 | exact st_1 hb2 | exact st_2 hb2 | exact st_3 hb2 | exact st_4 hb2 | exact st_5 hb2) dX11_restore_30 ⟨rfl, rfl⟩ ht rfl rfl rfl (fun r M1 hq => ?_)
    obtain ⟨rfl, y, rfl, hy⟩ := hq
    try simp only [rV, Option.toList, List.cons_append, List.nil_append]
    refine g_aload0 34 rfl dX11_restore_33 ?_
    refine g_getR 37 rfl fX11_45 (by first | rfl | exact st_o hb | exact st_1 hb | exact st_2 hb | exact st_3 hb | exact st_4 hb | exact st_5 hb | exact st_o hb2 | exact st_1 hb2 | exact st_2 hb2 | exact st_3 hb2 | exact st_4 hb2 | exact st_5 hb2) rfl dX11_restore_34 ?_
    refine g_callVi 40 0 rfl kX11_178 (by first | rfl | exact st_o hb | exact st_1 hb | exact st_2 hb | exact st_3 hb | exact st_4 hb | exact st_5 hb | exact st_o hb2 | exact st_1 hb2 | exact st_2 hb2 | exact st_3 hb2 | exact st_4 hb2 | exact st_5 hb2) dX11_restore_37 ⟨rfl, rfl⟩ (ok_X7_stones hb h.p) rfl rfl rfl ?_
    refine g_iret rfl dX11_restore_40 ?_
    rw [fRestore, ifC_t ⟨hI, hIS⟩]
    exact ⟨by rw [stoN_E (hy.tr hv) _ (Nat.le_refl _)], h.now (hy.tr hv)⟩
