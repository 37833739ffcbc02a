/-! the reference's calls: speeds, images -/
theorem joS_nI {g : Sg} {x : Sx} {r v b : Nat} (hx : sxE (gN g) x (gX g)) (hm : RW (gR g) (gW g)) (hB : HB b (gN g) x) (hb : b < 40000000) (hr : r < gR g) : jolN (sH x) (gW g) r v (stpS (gW g) v) = joS g r v ∧ 0 ≤ (joS g r v).toInt ∧ (joS g r v).toInt ≤ 80000000 * stpS (gW g) v ∧ stpS (gW g) v ≤ 5 ∧ (2 ≤ v → stpS (gW g) v ≤ 2) := by
  have hW : 0 < gW g := by rcases hm with ⟨h1, h2⟩ | ⟨h1, h2, h3, h4⟩ <;> omega
  have hW6 : gW g ≤ 6 := by rcases hm with ⟨h1, h2⟩ | ⟨h1, h2, h3, h4⟩ <;> omega
  have e : jolN (sH x) (gW g) r v (stpS (gW g) v) = joS g r v := jolN_E hx.2.2.1 hr hW _ (Nat.le_refl _)
  have hd : stpS (gW g) v ≤ 5 := Nat.le_trans (Nat.div_le_self _ _) (by omega)
  have hd2 : 2 ≤ v → stpS (gW g) v ≤ 2 := fun h => Nat.le_trans (Nat.div_le_div_left h (by decide)) (by omega)
  have := jol_b (v := v) hB hb hr hW hW6 (stpS (gW g) v) (Nat.le_refl _)
  rw [e] at this
  exact ⟨e, this.1, this.2, hd, hd2⟩
theorem nn_nI {a : Int32} (h0 : 0 ≤ a.toInt) : ∃ k, k < 2 ^ 31 ∧ a = nI k := by
  have := Int32.toInt_lt a
  refine ⟨a.toInt.toNat, by omega, Int32.toInt_inj.mp ?_⟩
  rw [nI_toInt (by omega)]
  omega
theorem mub_shake {l : Launch} {M : Mm} {g : Sg} {b : Nat} {a v q : Int32} (h : MS g M) (hI : IV b g) (hb : b < 40000000) : Ok GM l mX12_shake [.ref 0, .int a, .int v, .int q] M (qM (fShake g a v q)) := by
  obtain ⟨N, x, rfl, hx, hr⟩ := h
  have hm : MS g (pM N x) := ⟨N, x, rfl, hx, hr⟩
  have hB := HB_E hI.2.1 hx
  have hm2 := pM_mod (x := x) hr.m
  have hr5 := hr.m.b
  refine ok_of (by decide +kernel) rfl rfl ?_
  refine g_aload0 1 rfl dX12_shake_0 ?_
  refine g_iload1 2 rfl dX12_shake_1 ?_
  refine g_callV 5 1 rfl kX12_296 (by first | rfl | exact st_o hb | exact st_1 hb | exact st_2 hb | exact st_3 hb | exact st_4 hb | exact st_5 hb | exact st_o hb2 | exact st_1 hb2 | exact st_2 hb2 | exact st_3 hb2 | exact st_4 hb2 | exact st_5 hb2) dX12_shake_2 ⟨rfl, rfl⟩ (om_isRow hm2) rfl rfl rfl (fun r M1 hq => ?_)
  obtain ⟨rfl, ⟨rfl, hq⟩ | ⟨rfl, hq⟩⟩ := hq
  try simp only [rV, Option.toList, List.cons_append, List.nil_append]
  · obtain ⟨r, hrr, rfl⟩ := vp_in_of hq (by omega)
    have hW : 0 < gW g := by rcases hr.m.1 with ⟨h1, h2⟩ | ⟨h1, h2, h3, h4⟩ <;> omega
    refine g_ifne 11 8 rfl dX12_shake_5 (by decide) (fun _ => ?_) (fun h => absurd h (by decide))
    have bad : ¬ okV v q → Go GM l mX12_shake 29 [.ref 0, .int (nI r), .int v, .int q] [] (pM N x) (qM (fShake g (nI r) v q)) := by
      intro hn
      refine g_bipush 31 rfl (v := (-102)) dX12_shake_29 (by decide) ?_
      refine g_iret rfl dX12_shake_31 ?_
      exact ⟨by rw [fShake, ifC_t hq, ifC_f hn], hm⟩
    refine g_iload2 12 rfl dX12_shake_11 ?_
    refine g_iconst 13 rfl (v := 1) dX12_shake_12 (by decide) ?_
    refine g_iconst 14 rfl (v := 5) dX12_shake_13 (by decide) ?_
    refine g_callS 17 3 rfl kX12_78 dX12_shake_14 ⟨rfl, rfl⟩ om_within rfl rfl rfl (fun r M1 hq => ?_)
    obtain ⟨rfl, ⟨rfl, hv⟩ | ⟨rfl, hv⟩⟩ := hq
    try simp only [rV, Option.toList, List.cons_append, List.nil_append]
    · refine g_ifeq 29 20 rfl dX12_shake_17 (by decide) (fun h => absurd h (by decide)) (fun _ => ?_)
      refine g_iload3 21 rfl dX12_shake_20 ?_
      refine g_iconst 22 rfl (v := 0) dX12_shake_21 (by decide) ?_
      refine g_iconst 23 rfl (v := 1) dX12_shake_22 (by decide) ?_
      refine g_callS 26 3 rfl kX12_78 dX12_shake_23 ⟨rfl, rfl⟩ om_within rfl rfl rfl (fun r M1 hq => ?_)
      obtain ⟨rfl, ⟨rfl, hw⟩ | ⟨rfl, hw⟩⟩ := hq
      try simp only [rV, Option.toList, List.cons_append, List.nil_append]
      · obtain ⟨k, hk0, hk, rfl⟩ := le5 hv.1 hv.2
        have fin : ∀ z, z = shkS g r k q → qM (fShake g (nI r) (nI k) q) (some (.inl z)) (pM N x) := by
          intro z hz
          rw [fShake, ifC_t hq, ifC_t ⟨hv, hw⟩, ce_nI (by omega), ce_nI (by omega)]
          exact ⟨by rw [hz], hm⟩
        obtain ⟨ej, j0, j1, j5, -⟩ := joS_nI (v := k) hx hr.m.1 hB hb hrr
        refine g_ifne 32 29 rfl dX12_shake_26 (by decide) (fun _ => ?_) (fun h => absurd h (by decide))
        refine g_aload0 33 rfl dX12_shake_32 ?_
        refine g_iload2 34 rfl dX12_shake_33 ?_
        refine g_callVi 37 1 rfl kX12_293 (by first | rfl | exact st_o hb | exact st_1 hb | exact st_2 hb | exact st_3 hb | exact st_4 hb | exact st_5 hb | exact st_o hb2 | exact st_1 hb2 | exact st_2 hb2 | exact st_3 hb2 | exact st_4 hb2 | exact st_5 hb2) dX12_shake_34 ⟨rfl, rfl⟩ (om_steps hm2 hW hk0 (by omega)) rfl rfl rfl ?_
        refine g_ifne 44 40 rfl dX12_shake_37 (by decide) (fun h37 => ?_) (fun h37 => ?_)
        · have hs0 : 0 < stpS (gW g) k := Nat.pos_of_ne_zero (fun z => h37 (by rw [z]; rfl))
          obtain ⟨j, hj, ejj⟩ := nn_nI j0
          refine g_aload0 45 rfl dX12_shake_44 ?_
          refine g_iload1 46 rfl dX12_shake_45 ?_
          refine g_iload2 47 rfl dX12_shake_46 ?_
          refine g_callVi 50 2 rfl kX12_299 (by first | rfl | exact st_o hb | exact st_1 hb | exact st_2 hb | exact st_3 hb | exact st_4 hb | exact st_5 hb | exact st_o hb2 | exact st_1 hb2 | exact st_2 hb2 | exact st_3 hb2 | exact st_4 hb2 | exact st_5 hb2) dX12_shake_47 ⟨rfl, rfl⟩ (om_shaken hr.m hB hb hrr hW hk0 (by omega)) rfl rfl rfl ?_
          refine g_aload0 51 rfl dX12_shake_50 ?_
          refine g_iload2 52 rfl dX12_shake_51 ?_
          refine g_callVi 55 1 rfl kX12_293 (by first | rfl | exact st_o hb | exact st_1 hb | exact st_2 hb | exact st_3 hb | exact st_4 hb | exact st_5 hb | exact st_o hb2 | exact st_1 hb2 | exact st_2 hb2 | exact st_3 hb2 | exact st_4 hb2 | exact st_5 hb2) dX12_shake_52 ⟨rfl, rfl⟩ (om_steps hm2 hW hk0 (by omega)) rfl rfl rfl ?_
          rw [ej, ejj]
          obtain ⟨oklow, z, hz0, hz, ez⟩ := om_lowest (l := l) (M := pM N x) (q := q) hj hs0 (show stpS (gW g) k < 60 by omega)
          refine g_iload3 56 rfl dX12_shake_55 ?_
          refine g_callSi 59 3 rfl kX12_302 dX12_shake_56 ⟨rfl, rfl⟩ oklow rfl rfl rfl ?_
          refine g_iret rfl dX12_shake_59 ?_
          refine fin _ ?_
          rw [shkS, ejj, ez]
          have h1z : 1 ≤ nI z := nI_le (a := 1) hz0 hz
          rcases Nat.eq_zero_or_pos j with rfl | hjp
          · rw [ifC_t (Or.inl (show nI 0 = 0 from rfl))]
            have hzs : z = stpS (gW g) k := by
              have e2 : cdF 64 (nI 0) (nI (stpS (gW g) k)) = nI (stpS (gW g) k) := by
                rw [show (64 : Nat) = 62 + 1 + 1 from rfl, cdF, if_neg h37, pk_rem (by decide) hs0 (by omega), Nat.zero_mod, cd_0]
              rw [e2] at ez
              exact ((nI_eq (by omega) hz).mp ez).symm
            rw [hzs]
            rcases q01.mp hw with rfl | rfl
            · rw [if_pos rfl, pk_div (by decide) hs0 (by omega), Nat.zero_div]
              rfl
            · rw [if_neg (by decide), pk_div (by omega) hs0 (by omega), Nat.div_self hs0]
              rfl
          · rw [ifC_f (fun y => y.elim (nI_ne0 hjp hj) h37), quo_is h1z]
            rcases q01.mp hw with rfl | rfl
            · rw [if_pos rfl, ifC_t rfl]
            · rw [if_neg (by decide), ifC_f (by decide)]
        · refine g_iload3 41 rfl dX12_shake_40 ?_
          refine g_goto 59 dX12_shake_41 (by decide) ?_
          refine g_iret rfl dX12_shake_59 ?_
          exact fin _ (by rw [shkS, ifC_t (Or.inr h37)])
      · refine g_ifne 32 29 rfl dX12_shake_26 (by decide) (fun h => absurd rfl h) (fun _ => ?_)
        exact bad (fun z => hw z.2)
    · refine g_ifeq 29 20 rfl dX12_shake_17 (by decide) (fun _ => ?_) (fun h => absurd rfl h)
      exact bad (fun z => hv z.1)
  · refine g_ifne 11 8 rfl dX12_shake_5 (by decide) (fun h => absurd rfl h) (fun _ => ?_)
    refine g_bipush 10 rfl (v := (-101)) dX12_shake_8 (by decide) ?_
    refine g_iret rfl dX12_shake_10 ?_
    exact ⟨by rw [fShake, ifC_f hq], hm⟩
theorem cmp64 {a b c d : Int32} (h1 : -2147483648 ≤ a.toInt * b.toInt ∧ a.toInt * b.toInt ≤ 2147483647) (h2 : -2147483648 ≤ c.toInt * d.toInt ∧ c.toInt * d.toInt ≤ 2147483647) : lg_cmp (a.toInt64 * b.toInt64) (c.toInt64 * d.toInt64) ≤ 0 ↔ a * b ≤ c * d := by
  have m : ∀ a b : Int32, -2147483648 ≤ a.toInt * b.toInt ∧ a.toInt * b.toInt ≤ 2147483647 → (a.toInt64 * b.toInt64).toInt = a.toInt * b.toInt := by
    intro a b h
    rw [Int64.toInt_mul, Int32.toInt_toInt64, Int32.toInt_toInt64]
    exact Int.bmod_eq_of_le (by omega) (by omega)
  rw [lg_cmp_le, Int64.le_iff_toInt_le, Int32.le_iff_toInt_le, m a b h1, m c d h2, tI_mul h1.1 h1.2, tI_mul h2.1 h2.2]
theorem mul_b {x y : Int} {p q : Int} (h0 : 0 ≤ x) (h1 : x ≤ p) (h2 : 0 ≤ y) (h3 : y ≤ q) (hp : 0 ≤ p) : 0 ≤ x * y ∧ x * y ≤ p * q := ⟨Int.mul_nonneg h0 h2, Int.mul_le_mul h1 h3 h2 hp⟩
theorem mub_worst {l : Launch} {M : Mm} {g : Sg} {b : Nat} {a : Int32} (h : MS g M) (hI : IV b g) (hb : b < 40000000) : Ok GM l mX12_worst [.ref 0, .int a] M (qM (fWorst g a)) := by
  obtain ⟨N, x, rfl, hx, hr⟩ := h
  have hm : MS g (pM N x) := ⟨N, x, rfl, hx, hr⟩
  have hB := HB_E hI.2.1 hx
  have hm2 := pM_mod (x := x) hr.m
  have hr5 := hr.m.b
  refine ok_of (by decide +kernel) rfl rfl ?_
  refine g_aload0 1 rfl dX12_worst_0 ?_
  refine g_iload1 2 rfl dX12_worst_1 ?_
  refine g_callV 5 1 rfl kX12_296 (by first | rfl | exact st_o hb | exact st_1 hb | exact st_2 hb | exact st_3 hb | exact st_4 hb | exact st_5 hb | exact st_o hb2 | exact st_1 hb2 | exact st_2 hb2 | exact st_3 hb2 | exact st_4 hb2 | exact st_5 hb2) dX12_worst_2 ⟨rfl, rfl⟩ (om_isRow hm2) rfl rfl rfl (fun r M1 hq => ?_)
  obtain ⟨rfl, ⟨rfl, hq⟩ | ⟨rfl, hq⟩⟩ := hq
  try simp only [rV, Option.toList, List.cons_append, List.nil_append]
  · obtain ⟨r, hrr, rfl⟩ := vp_in_of hq (by omega)
    have hW : 0 < gW g := by rcases hr.m.1 with ⟨h1, h2⟩ | ⟨h1, h2, h3, h4⟩ <;> omega
    refine g_ifne 11 8 rfl dX12_worst_5 (by decide) (fun _ => ?_) (fun h => absurd h (by decide))
    refine g_iconst 12 rfl (v := 1) dX12_worst_11 (by decide) ?_
    refine g_istore2 13 rfl dX12_worst_12 rfl rfl ?_
    refine g_iconst 14 rfl (v := 2) dX12_worst_13 (by decide) ?_
    refine g_istore3 15 rfl dX12_worst_14 rfl rfl ?_
    refine loop_up (P := fun i => Go GM l mX12_worst 15 [.ref 0, .int (nI r), .int (nI (wrsN g r i)), .int (nI (i + 2)), .null] [] (pM N x) (qM (fWorst g (nI r)))) 4 ?_ ?_ 0 (by omega)
    · refine g_iload3 16 rfl dX12_worst_15 ?_
      refine g_bipush 18 rfl (v := 6) dX12_worst_16 (by decide) ?_
      refine g_cmpge 80 21 rfl dX12_worst_18 (by decide) (fun _ => ?_) (fun h => absurd (by decide) h)
      refine g_iload2 81 rfl dX12_worst_80 ?_
      refine g_iret rfl dX12_worst_81 ?_
      exact ⟨by rw [fWorst, ifC_t hq, ce_nI (by omega)], hm⟩
    · intro i hi ih
      obtain ⟨w1, w2⟩ := wrsN_b (g := g) (r := r) i
      rw [wrsN] at ih
      generalize wrsN g r i = c at w1 w2 ih ⊢
      obtain ⟨ej, j0, j1, j5, j2⟩ := joS_nI (v := i + 2) hx hr.m.1 hB hb hrr
      obtain ⟨ek, k0, k1, k5, -⟩ := joS_nI (v := c) hx hr.m.1 hB hb hrr
      have j2 := j2 (by omega)
      have t1 : (nI (stpS (gW g) (i + 2))).toInt = (stpS (gW g) (i + 2) : Int) := nI_toInt (by omega)
      have t2 : (nI (stpS (gW g) c)).toInt = (stpS (gW g) c : Int) := nI_toInt (by omega)
      have m1 := mul_b (y := (stpS (gW g) c : Int)) (q := 5) j0 (p := 160000000) (by omega) (by omega) (by omega) (by omega)
      have m2 := mul_b (y := (stpS (gW g) (i + 2) : Int)) (q := 2) k0 (p := 400000000) (by omega) (by omega) (by omega) (by omega)
      rw [← t1] at m2
      rw [← t2] at m1
      have hcmp := cmp64 (a := joS g r (i + 2)) (b := nI (stpS (gW g) c)) (c := joS g r c) (d := nI (stpS (gW g) (i + 2))) ⟨by omega, by omega⟩ ⟨by omega, by omega⟩
      have no : ¬ wrsC g r (i + 2) c → Go GM l mX12_worst 60 [.ref 0, .int (nI r), .int (nI c), .int (nI (i + 2)), .null] [] (pM N x) (qM (fWorst g (nI r))) := by
        intro hn
        rw [ifC_f hn] at ih
        refine g_iconst 61 rfl (v := 0) dX12_worst_60 (by decide) ?_
        refine g_istore4 63 rfl dX12_worst_61 rfl rfl ?_
        refine g_iload4 65 rfl dX12_worst_63 ?_
        refine g_ifeq 72 68 rfl dX12_worst_65 (by decide) (fun _ => ?_) (fun h => absurd rfl h)
        refine g_iload2 73 rfl dX12_worst_72 ?_
        refine g_istore2 74 rfl dX12_worst_73 rfl rfl ?_
        refine g_iinc3 77 rfl dX12_worst_74 rfl rfl _ (by first | exact iinc1 _ | exact iincx _ | rfl) ?_
        refine g_goto 15 dX12_worst_77 (by decide) ?_
        refine g_fg 4 ?_
        exact ih
      refine g_iload3 16 rfl dX12_worst_15 ?_
      refine g_bipush 18 rfl (v := 6) dX12_worst_16 (by decide) ?_
      refine g_cmpge 80 21 rfl dX12_worst_18 (by decide) (fun h => absurd h (nI_ge (a := i + 2) (b := 6) (by omega) (by decide))) (fun _ => ?_)
      refine g_aload0 22 rfl dX12_worst_21 ?_
      refine g_iload3 23 rfl dX12_worst_22 ?_
      refine g_callVi 26 1 rfl kX12_293 (by first | rfl | exact st_o hb | exact st_1 hb | exact st_2 hb | exact st_3 hb | exact st_4 hb | exact st_5 hb | exact st_o hb2 | exact st_1 hb2 | exact st_2 hb2 | exact st_3 hb2 | exact st_4 hb2 | exact st_5 hb2) dX12_worst_23 ⟨rfl, rfl⟩ (om_steps hm2 hW (by omega) (by omega)) rfl rfl rfl ?_
      refine g_ifle 60 29 rfl dX12_worst_26 (by decide) (fun h26 => no (fun z => z.1 h26)) (fun h26 => ?_)
      refine g_aload0 30 rfl dX12_worst_29 ?_
      refine g_iload1 31 rfl dX12_worst_30 ?_
      refine g_iload3 32 rfl dX12_worst_31 ?_
      refine g_callVi 35 2 rfl kX12_299 (by first | rfl | exact st_o hb | exact st_1 hb | exact st_2 hb | exact st_3 hb | exact st_4 hb | exact st_5 hb | exact st_o hb2 | exact st_1 hb2 | exact st_2 hb2 | exact st_3 hb2 | exact st_4 hb2 | exact st_5 hb2) dX12_worst_32 ⟨rfl, rfl⟩ (om_shaken hr.m hB hb hrr hW (by omega) (by omega)) rfl rfl rfl ?_
      refine g_aload0 36 rfl dX12_worst_35 ?_
      refine g_iload2 37 rfl dX12_worst_36 ?_
      refine g_callVi 40 1 rfl kX12_293 (by first | rfl | exact st_o hb | exact st_1 hb | exact st_2 hb | exact st_3 hb | exact st_4 hb | exact st_5 hb | exact st_o hb2 | exact st_1 hb2 | exact st_2 hb2 | exact st_3 hb2 | exact st_4 hb2 | exact st_5 hb2) dX12_worst_37 ⟨rfl, rfl⟩ (om_steps hm2 hW (by omega) (by omega)) rfl rfl rfl ?_
      rw [ej]
      refine g_imul 41 rfl dX12_worst_40 ?_
      refine g_aload0 42 rfl dX12_worst_41 ?_
      refine g_iload1 43 rfl dX12_worst_42 ?_
      refine g_iload2 44 rfl dX12_worst_43 ?_
      refine g_callVi 47 2 rfl kX12_299 (by first | rfl | exact st_o hb | exact st_1 hb | exact st_2 hb | exact st_3 hb | exact st_4 hb | exact st_5 hb | exact st_o hb2 | exact st_1 hb2 | exact st_2 hb2 | exact st_3 hb2 | exact st_4 hb2 | exact st_5 hb2) dX12_worst_44 ⟨rfl, rfl⟩ (om_shaken hr.m hB hb hrr hW (by omega) (by omega)) rfl rfl rfl ?_
      refine g_aload0 48 rfl dX12_worst_47 ?_
      refine g_iload3 49 rfl dX12_worst_48 ?_
      refine g_callVi 52 1 rfl kX12_293 (by first | rfl | exact st_o hb | exact st_1 hb | exact st_2 hb | exact st_3 hb | exact st_4 hb | exact st_5 hb | exact st_o hb2 | exact st_1 hb2 | exact st_2 hb2 | exact st_3 hb2 | exact st_4 hb2 | exact st_5 hb2) dX12_worst_49 ⟨rfl, rfl⟩ (om_steps hm2 hW (by omega) (by omega)) rfl rfl rfl ?_
      rw [ek]
      refine g_imul 53 rfl dX12_worst_52 ?_
      refine g_cmple 60 56 rfl dX12_worst_53 (by decide) (fun h53 => no (fun z => z.2 (hcmp.mpr h53))) (fun h53 => ?_)
      have hyes : wrsC g r (i + 2) c := ⟨h26, fun z => h53 (hcmp.mp z)⟩
      rw [ifC_t hyes] at ih
      refine g_iconst 57 rfl (v := 1) dX12_worst_56 (by decide) ?_
      refine g_goto 61 dX12_worst_57 (by decide) ?_
      refine g_istore4 63 rfl dX12_worst_61 rfl rfl ?_
      refine g_iload4 65 rfl dX12_worst_63 ?_
      refine g_ifeq 72 68 rfl dX12_worst_65 (by decide) (fun h => absurd h (by decide)) (fun _ => ?_)
      refine g_iload3 69 rfl dX12_worst_68 ?_
      refine g_goto 73 dX12_worst_69 (by decide) ?_
      refine g_istore2 74 rfl dX12_worst_73 rfl rfl ?_
      refine g_iinc3 77 rfl dX12_worst_74 rfl rfl _ (by first | exact iinc1 _ | exact iincx _ | rfl) ?_
      refine g_goto 15 dX12_worst_77 (by decide) ?_
      refine g_fg 4 ?_
      exact ih
  · refine g_ifne 11 8 rfl dX12_worst_5 (by decide) (fun h => absurd rfl h) (fun _ => ?_)
    refine g_bipush 10 rfl (v := (-101)) dX12_worst_8 (by decide) ?_
    refine g_iret rfl dX12_worst_10 ?_
    exact ⟨by rw [fWorst, ifC_f hq], hm⟩
theorem MR.im {g : Sg} {N O : Mm} {y : Sx} (h : MR g N) (hS : 0 < gS g) (h17 : O.1 0 17 = 1) (h18 : O.1 0 18 = nI (gS g)) (hK : Kp O y (gN g)) (hk : ∀ k, k ≤ 22 → k ≠ 17 → k ≠ 18 → O.1 0 k = N.1 0 k) (hh : ∀ q, 6 ≤ q → q ≤ 9 → O.1 q = N.1 q) : MR (sgI g (gS g) y) O := by
  obtain ⟨a1, a2, a3, a4, a5, a6, a7, a8, a9, a10⟩ := h
  refine ⟨?_, ?_, ?_, ?_, ?_, ?_, ?_, fun _ => ⟨h17, h18⟩, fun _ _ => hK, ⟨a10.1, a10.2.1, Nat.le_refl _, a10.2.2.2⟩⟩
  · unfold Mod at a1 ⊢
    rw [hk 0 (by decide) (by decide) (by decide), hk 1 (by decide) (by decide) (by decide)]
    exact a1
  · rw [hk 15 (by decide) (by decide) (by decide), hh 9 (by decide) (by decide)]
    exact a2
  · unfold CrM at a3 ⊢
    rw [hk 9 (by decide) (by decide) (by decide), hh 6 (by decide) (by decide), hh 7 (by decide) (by decide)]
    exact a3
  · rw [hk 12 (by decide) (by decide) (by decide), hh 8 (by decide) (by decide)]
    exact a4
  · rw [hk 2 (by decide) (by decide) (by decide)]
    exact a5
  · rw [hk 14 (by decide) (by decide) (by decide)]
    exact a6
  · intro z
    exact absurd (show gS g = 0 from z) (by omega)
theorem mub_image {l : Launch} {M : Mm} {g : Sg} (h : MS g M) : Ok GM l mX12_image [.ref 0] M (qM (fImage g)) := by
  obtain ⟨N, x, rfl, hx, hr⟩ := h
  have h30 := hr.m.le
  have h0 := hr.s0
  have e2 := hr.s
  refine ok_of (by decide +kernel) rfl rfl ?_
  refine g_aload0 1 rfl dX12_image_0 ?_
  refine g_getI 4 rfl fX12_131 (by first | rfl | exact st_o hb | exact st_1 hb | exact st_2 hb | exact st_3 hb | exact st_4 hb | exact st_5 hb | exact st_o hb2 | exact st_1 hb2 | exact st_2 hb2 | exact st_3 hb2 | exact st_4 hb2 | exact st_5 hb2) rfl dX12_image_1 ?_
  try simp only [pM_0]
  refine g_ifne 10 7 rfl dX12_image_4 (by decide) (fun h4 => ?_) (fun h4 => ?_)
  · have hq : 0 < gN g := Classical.byContradiction (fun z => h4 (h0.mpr z))
    have hS : 0 < gS g := hr.ok.1.mp hq
    obtain ⟨O, hO⟩ : ∃ O, O = setL (setA (setA N 0 (upd (N.1 0) 17 1)) 0 (upd (upd (N.1 0) 17 1) 18 (nI (gS g)))) 0 19 (sD x).toInt64 := ⟨_, rfl⟩
    have u2 : upd (N.1 0) 17 1 2 = nI (gS g) := by rw [pk_un (by decide)]; exact e2
    refine g_aload0 11 rfl dX12_image_10 ?_
    refine g_iconst 12 rfl (v := 1) dX12_image_11 (by decide) ?_
    refine g_putZ 15 rfl fX12_305 (by first | rfl | exact st_o hb | exact st_1 hb | exact st_2 hb | exact st_3 hb | exact st_4 hb | exact st_5 hb | exact st_o hb2 | exact st_1 hb2 | exact st_2 hb2 | exact st_3 hb2 | exact st_4 hb2 | exact st_5 hb2) rfl dX12_image_12 (by first | exact Or.inl rfl | exact Or.inr rfl | assumption) ?_
    try simp only [pM_0, pM_w0, sA_s, u2, pM_8, pM_wL (k := 19) (by decide)]
    refine g_aload0 16 rfl dX12_image_15 ?_
    refine g_aload0 17 rfl dX12_image_16 ?_
    refine g_getI 20 rfl fX12_131 (by first | rfl | exact st_o hb | exact st_1 hb | exact st_2 hb | exact st_3 hb | exact st_4 hb | exact st_5 hb | exact st_o hb2 | exact st_1 hb2 | exact st_2 hb2 | exact st_3 hb2 | exact st_4 hb2 | exact st_5 hb2) rfl dX12_image_17 ?_
    try simp only [pM_0, pM_w0, sA_s, u2, pM_8, pM_wL (k := 19) (by decide)]
    refine g_putI 23 rfl fX12_308 (by first | rfl | exact st_o hb | exact st_1 hb | exact st_2 hb | exact st_3 hb | exact st_4 hb | exact st_5 hb | exact st_o hb2 | exact st_1 hb2 | exact st_2 hb2 | exact st_3 hb2 | exact st_4 hb2 | exact st_5 hb2) rfl dX12_image_20 ?_
    try simp only [pM_0, pM_w0, sA_s, u2, pM_8, pM_wL (k := 19) (by decide)]
    refine g_aload0 24 rfl dX12_image_23 ?_
    refine g_aload0 25 rfl dX12_image_24 ?_
    refine g_getL 28 rfl fX12_25 (by first | rfl | exact st_o hb | exact st_1 hb | exact st_2 hb | exact st_3 hb | exact st_4 hb | exact st_5 hb | exact st_o hb2 | exact st_1 hb2 | exact st_2 hb2 | exact st_3 hb2 | exact st_4 hb2 | exact st_5 hb2) rfl dX12_image_25 ?_
    try simp only [pM_0, pM_w0, sA_s, u2, pM_8, pM_wL (k := 19) (by decide)]
    refine g_putL 31 rfl fX12_311 (by first | rfl | exact st_o hb | exact st_1 hb | exact st_2 hb | exact st_3 hb | exact st_4 hb | exact st_5 hb | exact st_o hb2 | exact st_1 hb2 | exact st_2 hb2 | exact st_3 hb2 | exact st_4 hb2 | exact st_5 hb2) rfl dX12_image_28 ?_
    try simp only [pM_0, pM_w0, sA_s, u2, pM_8, pM_wL (k := 19) (by decide)]
    rw [← hO]
    refine g_aload0 32 rfl dX12_image_31 ?_
    refine g_callV 35 0 rfl kX12_190 (by first | rfl | exact st_o hb | exact st_1 hb | exact st_2 hb | exact st_3 hb | exact st_4 hb | exact st_5 hb | exact st_o hb2 | exact st_1 hb2 | exact st_2 hb2 | exact st_3 hb2 | exact st_4 hb2 | exact st_5 hb2) dX12_image_32 ⟨rfl, rfl⟩ om_save rfl rfl rfl (fun r M1 hq => ?_)
    obtain ⟨rfl, f, rfl, hf⟩ := hq
    try simp only [rV, Option.toList, List.cons_append, List.nil_append]
    obtain ⟨P, hP⟩ : ∃ P, P = setA (setL O 0 21 (sD x).toInt64) 11 f := ⟨_, rfl⟩
    have p11 : P.1 11 = f := by rw [hP, sA_s]
    have pq : ∀ q, 1 ≤ q → q ≤ 10 → P.1 q = N.1 q := fun q a b => by
      rw [hP, sA_n (by omega), hO]
      simp only [setL]
      rw [sA_n (by omega), sA_n (by omega)]
    have p0 : P.1 0 = upd (upd (N.1 0) 17 1) 18 (nI (gS g)) := by
      rw [hP, sA_n (by omega), hO]
      simp only [setL]
      rw [sA_s]
    have p19 : P.2 0 19 = (sD x).toInt64 := by rw [hP, hO]; simp [setL, setA]
    have hf2 : Sv P x 30 := by rw [hP]; exact hf
    rw [← hP]
    have r10 : ∀ k, (pM (setA P 10 k) x).1 10 = k := fun k => by rw [pM_h10, sA_s]
    have r11 : ∀ k, (pM (setA P 10 k) x).1 11 = f := fun k => by rw [pM_h11, sA_n (by decide)]; exact p11
    have w10 : ∀ k e, setA (pM (setA P 10 k) x) 10 e = pM (setA P 10 e) x := fun k e => by rw [pM_wo (Or.inr (by decide)), sA_sA]
    refine g_mem (pM (setA P 10 (P.1 10)) x) (by rw [sA_id]) ?_
    refine g_iconst 36 rfl (v := 0) dX12_image_35 (by decide) ?_
    refine g_istore1 37 rfl dX12_image_36 rfl rfl ?_
    have key : ∀ i, i ≤ 150 → ∀ k, (∀ c, c < i → k c = f c) → Go GM l mX12_image 37 [.ref 0, .int (nI i)] [] (pM (setA P 10 k) x) (qM (fImage g)) := by
      refine loop_up (P := fun i => ∀ k, (∀ c, c < i → k c = f c) → Go GM l mX12_image 37 [.ref 0, .int (nI i)] [] (pM (setA P 10 k) x) (qM (fImage g))) 150 ?_ ?_
      · intro k hk
        refine g_iload1 38 rfl dX12_image_37 ?_
        refine g_sipush 41 rfl (v := 150) dX12_image_38 (by decide) ?_
        refine g_cmpge 62 44 rfl dX12_image_41 (by decide) (fun _ => ?_) (fun h => absurd (by decide) h)
        have hmP : MR (sgI g (gS g) (gX g)) (setA P 10 k) := by
          refine hr.im hS ?_ ?_ ⟨?_, ?_⟩ ?_ ?_
          · rw [sA_n (by decide), p0, pk_un (by decide), upd_at]
          · rw [sA_n (by decide), p0, upd_at]
          · show P.2 0 19 = _
            rw [p19, hx.D]
          · intro c hc
            obtain ⟨b1, b2, b3, b4, b5⟩ := hf2 c (Nat.lt_of_lt_of_le hc h30)
            rw [p11] at b1 b2 b3 b4 b5
            have hc30 : c < 30 := Nat.lt_of_lt_of_le hc h30
            rw [sA_s, hk _ (by omega), hk _ (by omega), hk _ (by omega), hk _ (by omega), hk _ (by omega), b1, b2, b3, b4, b5, hx.K hc, hx.Z hc, hx.H hc, hx.S hc, hx.J hc]
            exact ⟨rfl, rfl, rfl, rfl, rfl⟩
          · intro q _ a b
            rw [sA_n (by decide), p0, pk_un b, pk_un a]
          · intro q a b
            rw [sA_n (by omega)]
            exact pq q (by omega) (by omega)
        refine g_aload0 63 rfl dX12_image_62 ?_
        refine g_callVi 66 0 rfl kX12_159 (by first | rfl | exact st_o hb | exact st_1 hb | exact st_2 hb | exact st_3 hb | exact st_4 hb | exact st_5 hb | exact st_o hb2 | exact st_1 hb2 | exact st_2 hb2 | exact st_3 hb2 | exact st_4 hb2 | exact st_5 hb2) dX12_image_63 ⟨rfl, rfl⟩ (om_stoneMany hmP.m) rfl rfl rfl ?_
        refine g_iret rfl dX12_image_66 ?_
        rw [fImage, ifC_t hq]
        exact ⟨by show some (Sum.inl (stoN x (gR g * gW g))) = _; rw [stoN_E hx _ (Nat.le_refl _)], _, x, rfl, hx, hmP⟩
      · intro i hi ih k hk
        refine g_iload1 38 rfl dX12_image_37 ?_
        refine g_sipush 41 rfl (v := 150) dX12_image_38 (by decide) ?_
        refine g_cmpge 62 44 rfl dX12_image_41 (by decide) (fun h => absurd h (nI_ge hi (by decide))) (fun _ => ?_)
        refine g_aload0 45 rfl dX12_image_44 ?_
        refine g_getR 48 rfl fX12_42 (by first | rfl | exact st_o hb | exact st_1 hb | exact st_2 hb | exact st_3 hb | exact st_4 hb | exact st_5 hb | exact st_o hb2 | exact st_1 hb2 | exact st_2 hb2 | exact st_3 hb2 | exact st_4 hb2 | exact st_5 hb2) rfl dX12_image_45 ?_
        refine g_iload1 49 rfl dX12_image_48 ?_
        refine g_aload0 50 rfl dX12_image_49 ?_
        refine g_getR 53 rfl fX12_45 (by first | rfl | exact st_o hb | exact st_1 hb | exact st_2 hb | exact st_3 hb | exact st_4 hb | exact st_5 hb | exact st_o hb2 | exact st_1 hb2 | exact st_2 hb2 | exact st_3 hb2 | exact st_4 hb2 | exact st_5 hb2) rfl dX12_image_50 ?_
        refine g_iload1 54 rfl dX12_image_53 ?_
        refine g_iald 55 rfl dX12_image_54 (by first | rfl | exact st_o hb | exact st_1 hb | exact st_2 hb | exact st_3 hb | exact st_4 hb | exact st_5 hb | exact st_o hb2 | exact st_1 hb2 | exact st_2 hb2 | exact st_3 hb2 | exact st_4 hb2 | exact st_5 hb2) rfl rfl (by first | assumption | omega) ?_
        try simp only [r10, r11, w10]
        refine g_iast 56 rfl dX12_image_55 (by first | rfl | exact st_o hb | exact st_1 hb | exact st_2 hb | exact st_3 hb | exact st_4 hb | exact st_5 hb | exact st_o hb2 | exact st_1 hb2 | exact st_2 hb2 | exact st_3 hb2 | exact st_4 hb2 | exact st_5 hb2) rfl rfl (by first | assumption | omega) ?_
        try simp only [r10, r11, w10]
        refine g_iinc1 59 rfl dX12_image_56 rfl rfl _ (by first | exact iinc1 _ | exact iincx _ | rfl) ?_
        refine g_goto 37 dX12_image_59 (by decide) ?_
        refine ih _ (fun c hc => ?_)
        by_cases hci : c = i
        · subst hci; rw [upd_at]
        · rw [pk_un hci]; exact hk c (by omega)
    exact key 0 (by omega) _ (fun c hc => absurd hc (by omega))
  · refine g_bipush 9 rfl (v := (-103)) dX12_image_7 (by decide) ?_
    refine g_iret rfl dX12_image_9 ?_
    rw [fImage, ifC_f (h0.mp h4)]
    exact ⟨rfl, N, x, rfl, hx, hr⟩
theorem mub_restore {l : Launch} {M : Mm} {g : Sg} (h : MS g M) : Ok GM l mX12_restore [.ref 0] M (qM (fRestore g)) := by
  obtain ⟨N, x, rfl, hx, hr⟩ := h
  have h30 := hr.m.le
  have e2 := hr.s
  have hok1 := hr.ok.2.1
  have hok2 := hr.ok.2.2.1
  have a7 := hr.2.2.2.2.2.2.1
  have a8 := hr.2.2.2.2.2.2.2.1
  have a9 := hr.2.2.2.2.2.2.2.2.1
  have bad : ¬ (gI g ≠ 0 ∧ gI g = gS g) → Go GM l mX12_restore 18 [.ref 0, .null] [] (pM N x) (qM (fRestore g)) := by
    intro hn
    refine g_bipush 20 rfl (v := (-103)) dX12_restore_18 (by decide) ?_
    refine g_iret rfl dX12_restore_20 ?_
    rw [fRestore, ifC_f hn]
    exact ⟨rfl, N, x, rfl, hx, hr⟩
  refine ok_of (by decide +kernel) rfl rfl ?_
  by_cases hi0 : gI g = 0
  · have e17 := a7 hi0
    refine g_aload0 1 rfl dX12_restore_0 ?_
    refine g_getI 4 rfl fX12_305 (by first | rfl | exact st_o hb | exact st_1 hb | exact st_2 hb | exact st_3 hb | exact st_4 hb | exact st_5 hb | exact st_o hb2 | exact st_1 hb2 | exact st_2 hb2 | exact st_3 hb2 | exact st_4 hb2 | exact st_5 hb2) rfl dX12_restore_1 ?_
    try simp only [pM_0, e17]
    refine g_ifeq 18 7 rfl dX12_restore_4 (by decide) (fun _ => ?_) (fun h => absurd rfl h)
    exact bad (fun z => z.1 hi0)
  · obtain ⟨e17, e18⟩ := a8 hi0
    refine g_aload0 1 rfl dX12_restore_0 ?_
    refine g_getI 4 rfl fX12_305 (by first | rfl | exact st_o hb | exact st_1 hb | exact st_2 hb | exact st_3 hb | exact st_4 hb | exact st_5 hb | exact st_o hb2 | exact st_1 hb2 | exact st_2 hb2 | exact st_3 hb2 | exact st_4 hb2 | exact st_5 hb2) rfl dX12_restore_1 ?_
    try simp only [pM_0, e17, e18, e2]
    refine g_ifeq 18 7 rfl dX12_restore_4 (by decide) (fun h => absurd h (by decide)) (fun _ => ?_)
    refine g_aload0 8 rfl dX12_restore_7 ?_
    refine g_getI 11 rfl fX12_308 (by first | rfl | exact st_o hb | exact st_1 hb | exact st_2 hb | exact st_3 hb | exact st_4 hb | exact st_5 hb | exact st_o hb2 | exact st_1 hb2 | exact st_2 hb2 | exact st_3 hb2 | exact st_4 hb2 | exact st_5 hb2) rfl dX12_restore_8 ?_
    try simp only [pM_0, e17, e18, e2]
    refine g_aload0 12 rfl dX12_restore_11 ?_
    refine g_getI 15 rfl fX12_131 (by first | rfl | exact st_o hb | exact st_1 hb | exact st_2 hb | exact st_3 hb | exact st_4 hb | exact st_5 hb | exact st_o hb2 | exact st_1 hb2 | exact st_2 hb2 | exact st_3 hb2 | exact st_4 hb2 | exact st_5 hb2) rfl dX12_restore_12 ?_
    try simp only [pM_0, e17, e18, e2]
    refine g_cmpeq 21 18 rfl dX12_restore_15 (by decide) (fun h15 => ?_) (fun h15 => bad (fun z => h15 (by rw [z.2])))
    have hIS : gI g = gS g := (nI_eq (by omega) (by omega)).mp h15
    obtain ⟨k19, kc⟩ := a9 hi0 hIS
    have r19 : (pM N x).2 0 19 = (sD (gV g)).toInt64 := by rw [pM_21 (by decide)]; exact k19
    refine g_aload0 22 rfl dX12_restore_21 ?_
    refine g_aload0 23 rfl dX12_restore_22 ?_
    refine g_getL 26 rfl fX12_311 (by first | rfl | exact st_o hb | exact st_1 hb | exact st_2 hb | exact st_3 hb | exact st_4 hb | exact st_5 hb | exact st_o hb2 | exact st_1 hb2 | exact st_2 hb2 | exact st_3 hb2 | exact st_4 hb2 | exact st_5 hb2) rfl dX12_restore_23 ?_
    try simp only [r19, pM_wL (k := 21) (by decide)]
    refine g_putL 29 rfl fX12_187 (by first | rfl | exact st_o hb | exact st_1 hb | exact st_2 hb | exact st_3 hb | exact st_4 hb | exact st_5 hb | exact st_o hb2 | exact st_1 hb2 | exact st_2 hb2 | exact st_3 hb2 | exact st_4 hb2 | exact st_5 hb2) rfl dX12_restore_26 ?_
    try simp only [r19, pM_wL (k := 21) (by decide)]
    obtain ⟨O, hO⟩ : ∃ O, O = setL N 0 21 (sD (gV g)).toInt64 := ⟨_, rfl⟩
    have o21 : O.2 0 21 = (sD (gV g)).toInt64 := by rw [hO]; simp [setL]
    have oN : O.1 = N.1 := by rw [hO]; rfl
    have kO : kpM N O := by rw [hO]; exact kpM.rf.sL (by decide)
    rw [← hO]
    have r11 : ∀ k, (pM (setA O 11 k) x).1 11 = k := fun k => by rw [pM_h11, sA_s]
    have r10 : ∀ k, (pM (setA O 11 k) x).1 10 = N.1 10 := fun k => by rw [pM_h10, sA_n (by decide), oN]
    have w11 : ∀ k e, setA (pM (setA O 11 k) x) 11 e = pM (setA O 11 e) x := fun k e => by rw [pM_wo (Or.inr (by decide)), sA_sA]
    refine g_mem (pM (setA O 11 (O.1 11)) x) (by rw [sA_id]) ?_
    refine g_iconst 30 rfl (v := 0) dX12_restore_29 (by decide) ?_
    refine g_istore1 31 rfl dX12_restore_30 rfl rfl ?_
    have key : ∀ i, i ≤ 150 → ∀ k, (∀ c, c < i → k c = N.1 10 c) → Go GM l mX12_restore 31 [.ref 0, .int (nI i)] [] (pM (setA O 11 k) x) (qM (fRestore g)) := by
      refine loop_up (P := fun i => ∀ k, (∀ c, c < i → k c = N.1 10 c) → Go GM l mX12_restore 31 [.ref 0, .int (nI i)] [] (pM (setA O 11 k) x) (qM (fRestore g))) 150 ?_ ?_
      · intro k hk
        refine g_iload1 32 rfl dX12_restore_31 ?_
        refine g_sipush 35 rfl (v := 150) dX12_restore_32 (by decide) ?_
        refine g_cmpge 56 38 rfl dX12_restore_35 (by decide) (fun _ => ?_) (fun h => absurd (by decide) h)
        obtain ⟨v, hv⟩ : ∃ v : Sx, v = (fun c => N.1 10 (5 * c), fun c => N.1 10 (5 * c + 1), fun c => N.1 10 (5 * c + 2), fun c => N.1 10 (5 * c + 3), fun c => N.1 10 (5 * c + 4), sD (gV g), 0) := ⟨_, rfl⟩
        have hSv : Sv (setA O 11 k) v 30 := by
          intro c hc
          rw [sA_s, hk _ (by omega), hk _ (by omega), hk _ (by omega), hk _ (by omega), hk _ (by omega), hv]
          exact ⟨rfl, rfl, rfl, rfl, rfl⟩
        have hvD : sD v = sD (gV g) := by rw [hv]; rfl
        have hvE : sxE (gN g) v (gV g) := by
          refine ⟨fun c hc => ?_, fun c hc => ?_, fun c hc => ?_, fun c hc => ?_, fun c hc => ?_, hvD⟩
          · rw [hv]; exact (kc c hc).1
          · rw [hv]; exact (kc c hc).2.1
          · rw [hv]; exact (kc c hc).2.2.1
          · rw [hv]; exact (kc c hc).2.2.2.1
          · rw [hv]; exact (kc c hc).2.2.2.2
        have h21 : (setA O 11 k).2 0 21 = (sD v).toInt64 := by rw [hvD]; exact o21
        have hrO : MR g (setA O 11 k) := hr.fr (kO.sA (by decide))
        refine g_aload0 57 rfl dX12_restore_56 ?_
        refine g_callV 60 0 rfl kX12_193 (by first | rfl | exact st_o hb | exact st_1 hb | exact st_2 hb | exact st_3 hb | exact st_4 hb | exact st_5 hb | exact st_o hb2 | exact st_1 hb2 | exact st_2 hb2 | exact st_3 hb2 | exact st_4 hb2 | exact st_5 hb2) dX12_restore_57 ⟨rfl, rfl⟩ (om_back hSv h21) rfl rfl rfl (fun r M1 hq => ?_)
        obtain ⟨rfl, y, rfl, hy⟩ := hq
        try simp only [rV, Option.toList, List.cons_append, List.nil_append]
        refine g_aload0 61 rfl dX12_restore_60 ?_
        refine g_callVi 64 0 rfl kX12_159 (by first | rfl | exact st_o hb | exact st_1 hb | exact st_2 hb | exact st_3 hb | exact st_4 hb | exact st_5 hb | exact st_o hb2 | exact st_1 hb2 | exact st_2 hb2 | exact st_3 hb2 | exact st_4 hb2 | exact st_5 hb2) dX12_restore_61 ⟨rfl, rfl⟩ (om_stoneMany hrO.m) rfl rfl rfl ?_
        refine g_iret rfl dX12_restore_64 ?_
        rw [fRestore, ifC_t ⟨hi0, hIS⟩]
        have e := (hy.le h30).tr hvE
        exact ⟨by rw [stoN_E e _ (Nat.le_refl _)], _, y, rfl, e, hrO.x⟩
      · intro i hi ih k hk
        refine g_iload1 32 rfl dX12_restore_31 ?_
        refine g_sipush 35 rfl (v := 150) dX12_restore_32 (by decide) ?_
        refine g_cmpge 56 38 rfl dX12_restore_35 (by decide) (fun h => absurd h (nI_ge hi (by decide))) (fun _ => ?_)
        refine g_aload0 39 rfl dX12_restore_38 ?_
        refine g_getR 42 rfl fX12_45 (by first | rfl | exact st_o hb | exact st_1 hb | exact st_2 hb | exact st_3 hb | exact st_4 hb | exact st_5 hb | exact st_o hb2 | exact st_1 hb2 | exact st_2 hb2 | exact st_3 hb2 | exact st_4 hb2 | exact st_5 hb2) rfl dX12_restore_39 ?_
        refine g_iload1 43 rfl dX12_restore_42 ?_
        refine g_aload0 44 rfl dX12_restore_43 ?_
        refine g_getR 47 rfl fX12_42 (by first | rfl | exact st_o hb | exact st_1 hb | exact st_2 hb | exact st_3 hb | exact st_4 hb | exact st_5 hb | exact st_o hb2 | exact st_1 hb2 | exact st_2 hb2 | exact st_3 hb2 | exact st_4 hb2 | exact st_5 hb2) rfl dX12_restore_44 ?_
        refine g_iload1 48 rfl dX12_restore_47 ?_
        refine g_iald 49 rfl dX12_restore_48 (by first | rfl | exact st_o hb | exact st_1 hb | exact st_2 hb | exact st_3 hb | exact st_4 hb | exact st_5 hb | exact st_o hb2 | exact st_1 hb2 | exact st_2 hb2 | exact st_3 hb2 | exact st_4 hb2 | exact st_5 hb2) rfl rfl (by first | assumption | omega) ?_
        try simp only [r10, r11, w11]
        refine g_iast 50 rfl dX12_restore_49 (by first | rfl | exact st_o hb | exact st_1 hb | exact st_2 hb | exact st_3 hb | exact st_4 hb | exact st_5 hb | exact st_o hb2 | exact st_1 hb2 | exact st_2 hb2 | exact st_3 hb2 | exact st_4 hb2 | exact st_5 hb2) rfl rfl (by first | assumption | omega) ?_
        try simp only [r10, r11, w11]
        refine g_iinc1 53 rfl dX12_restore_50 rfl rfl _ (by first | exact iinc1 _ | exact iincx _ | rfl) ?_
        refine g_goto 31 dX12_restore_53 (by decide) ?_
        refine ih _ (fun c hc => ?_)
        by_cases hci : c = i
        · subst hci; rw [upd_at]
        · rw [pk_un hci]; exact hk c (by omega)
    exact key 0 (by omega) _ (fun c hc => absurd hc (by omega))
