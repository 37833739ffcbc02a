/-! the class's Plan.draw -/
theorem mod_rc {W r c : Nat} (hc : c < W) : (r * W + c) % W = c := by rw [Nat.mul_comm, Nat.mul_add_mod]; exact Nat.mod_eq_of_lt hc
theorem num_in {R W r c : Nat} (hr5 : R ≤ 30 ∧ W ≤ 30) (hr : r < R) (hc : c < W) : numO R W (nI r) (nI c) = nI (r * W + c) := by
  rw [numO, if_pos ⟨nI_pos' (by omega), nI_lt hr (by omega), nI_pos' (by omega), nI_lt hc (by omega)⟩, pk_mul, nI_add]
theorem num_0 {R W r c : Nat} (hr5 : R ≤ 30 ∧ W ≤ 30) (hr : r < R) (hc : c < W) : numO R W (nI r - 1) (nI c) = oI (nb R W (r * W + c) 0) := by
  cases r with
  | zero =>
    rw [numO, if_neg (fun z => absurd z.1 (by decide))]
    simp [nb, hc, oI]
  | succ r =>
    rw [nI_pred, num_in hr5 (by omega) hc]
    have h1 : ¬ (r + 1) * W + c < W := by rw [Nat.add_mul, Nat.one_mul]; omega
    have h2 : (r + 1) * W + c - W = r * W + c := by rw [Nat.add_mul, Nat.one_mul]; omega
    simp [nb, h1, oI, h2]
theorem num_1 {R W r c : Nat} (hr5 : R ≤ 30 ∧ W ≤ 30) (hr : r < R) (hc : c < W) : numO R W (nI r) (nI c + 1) = oI (nb R W (r * W + c) 1) := by
  rw [nI_1]
  by_cases h : c + 1 = W
  · rw [numO, if_neg (fun z => absurd z.2.2.2 (nI_nlt (by omega) (by omega)))]
    simp [nb, mod_rc hc, h, oI]
  · rw [num_in hr5 hr (by omega)]
    simp [nb, mod_rc hc, h, oI, Nat.add_assoc]
theorem num_2 {R W r c : Nat} (hr5 : R ≤ 30 ∧ W ≤ 30) (hr : r < R) (hc : c < W) : numO R W (nI r + 1) (nI c) = oI (nb R W (r * W + c) 2) := by
  rw [nI_1]
  have e : r * W + c + W = (r + 1) * W + c := by rw [Nat.add_mul, Nat.one_mul]; omega
  by_cases h : r + 1 < R
  · rw [num_in hr5 h hc]
    have h1 : (r + 1) * W + c < R * W := rc_lt h hc
    simp only [nb, e, h1, if_true, oI]
  · rw [numO, if_neg (fun z => absurd z.2.1 (nI_nlt (by omega) (by omega)))]
    have h1 : ¬ r * W + c + W < R * W := by rw [e, show R = r + 1 by omega]; omega
    simp [nb, h1, oI]
theorem num_3 {R W r c : Nat} (hr5 : R ≤ 30 ∧ W ≤ 30) (hr : r < R) (hc : c < W) : numO R W (nI r) (nI c - 1) = oI (nb R W (r * W + c) 3) := by
  cases c with
  | zero =>
    rw [numO, if_neg (fun z => absurd z.2.2.1 (by decide))]
    have := mod_rc (r := r) hc
    simp only [Nat.add_zero] at this
    simp [nb, this, oI]
  | succ c =>
    rw [nI_pred, num_in hr5 hr (by omega)]
    have := mod_rc (r := r) hc
    simp [nb, this, oI]
/-- the plan of the first i cells -/
def Pla (R W : Nat) (g a : Nat → Int32) (i : Nat) : Prop := (∀ c, c < i → ∀ s, s < 4 → g (4 * c + s) = oI (nb R W c s)) ∧ ∀ c, c < i → (a c = 1 ∧ rim R W c) ∨ (a c = 0 ∧ ¬ rim R W c)
theorem pla_up {R W i : Nat} {g a : Nat → Int32} {v0 v1 v2 v3 z : Int32} (h : Pla R W g a i) (h0 : v0 = oI (nb R W i 0)) (h1 : v1 = oI (nb R W i 1)) (h2 : v2 = oI (nb R W i 2)) (h3 : v3 = oI (nb R W i 3)) (hz : (z = 1 ∧ rim R W i) ∨ (z = 0 ∧ ¬ rim R W i)) : Pla R W (upd (upd (upd (upd g (4 * i) v0) (4 * i + 1) v1) (4 * i + 2) v2) (4 * i + 3) v3) (upd a i z) (i + 1) := by
  refine ⟨fun c hc s hs => ?_, fun c hc => ?_⟩
  · by_cases hci : c < i
    · rw [pk_un (by omega), pk_un (by omega), pk_un (by omega), pk_un (by omega)]
      exact h.1 c hci s hs
    · have : c = i := by omega
      subst this
      match s, hs with
      | 0, _ => rw [pk_un (by omega), pk_un (by omega), pk_un (by omega)]; rw [Nat.add_zero, upd_at, h0]
      | 1, _ => rw [pk_un (by omega), pk_un (by omega), upd_at, h1]
      | 2, _ => rw [pk_un (by omega), upd_at, h2]
      | 3, _ => rw [upd_at, h3]
  · by_cases hci : c < i
    · rw [upd_lt hci]; exact h.2 c hci
    · have : c = i := by omega
      subst this
      rw [upd_at]; exact hz
abbrev qDr (R W : Nat) (M : Mm) : Rr → Mm → Prop := fun r M' => r = none ∧ ∃ f g a, M' = setA (setA (setA M 12 f) 13 g) 14 a ∧ Plan M' R W
set_option maxHeartbeats 4000000 in
theorem ok_X4_draw {l : Launch} {M : Mm} {R W : Nat} (hR : 2 ≤ R ∧ R ≤ 5) (hW : 2 ≤ W ∧ W ≤ 6) : Ok GC l mX4_draw [.ref 12, .int (nI R), .int (nI W)] M (qDr R W M) := by
  have hRW : RW R W := Or.inr ⟨hR.1, hR.2, hW.1, hW.2⟩
  have h30 := hRW.le
  have hr5 : R ≤ 30 ∧ W ≤ 30 := by omega
  refine ok_of (by decide +kernel) rfl rfl ?_
  refine g_aload0 1 rfl dX4_draw_0 ?_
  refine g_iload1 2 rfl dX4_draw_1 ?_
  refine g_putI 5 rfl fX4_19 (by first | rfl | exact st_o hb | exact st_1 hb | exact st_2 hb | exact st_3 hb | exact st_4 hb | exact st_5 hb | exact st_o hb2 | exact st_1 hb2 | exact st_2 hb2 | exact st_3 hb2 | exact st_4 hb2 | exact st_5 hb2) rfl dX4_draw_2 ?_
  refine g_aload0 6 rfl dX4_draw_5 ?_
  refine g_iload2 7 rfl dX4_draw_6 ?_
  refine g_putI 10 rfl fX4_23 (by first | rfl | exact st_o hb | exact st_1 hb | exact st_2 hb | exact st_3 hb | exact st_4 hb | exact st_5 hb | exact st_o hb2 | exact st_1 hb2 | exact st_2 hb2 | exact st_3 hb2 | exact st_4 hb2 | exact st_5 hb2) rfl dX4_draw_7 ?_
  refine g_aload0 11 rfl dX4_draw_10 ?_
  refine g_iload1 12 rfl dX4_draw_11 ?_
  refine g_iload2 13 rfl dX4_draw_12 ?_
  refine g_imul 14 rfl dX4_draw_13 ?_
  refine g_putI 17 rfl fX4_26 (by first | rfl | exact st_o hb | exact st_1 hb | exact st_2 hb | exact st_3 hb | exact st_4 hb | exact st_5 hb | exact st_o hb2 | exact st_1 hb2 | exact st_2 hb2 | exact st_3 hb2 | exact st_4 hb2 | exact st_5 hb2) rfl dX4_draw_14 ?_
  refine g_iconst 18 rfl (v := 0) dX4_draw_17 (by decide) ?_
  refine g_istore3 19 rfl dX4_draw_18 rfl rfl ?_
  simp only [sA_s, sA_sA]
  generalize hF : upd (upd (upd (M.1 12) 2 (nI R)) 3 (nI W)) 4 (nI R * nI W) = F
  have hF2 : F 2 = nI R := by rw [← hF, pk_un (by decide), pk_un (by decide), upd_at]
  have hF3 : F 3 = nI W := by rw [← hF, pk_un (by decide), upd_at]
  have hF4 : F 4 = nI (R * W) := by rw [← hF, upd_at, pk_mul]
  refine g_mem (setA (setA (setA M 12 F) 13 (M.1 13)) 14 (M.1 14)) (by rw [← show (setA M 12 F).1 13 = M.1 13 from sA_n (by decide), sA_id, ← show (setA M 12 F).1 14 = M.1 14 from sA_n (by decide), sA_id]) ?_
  have e2 : ∀ g a, (setA (setA (setA M 12 F) 13 g) 14 a).1 12 = F := fun g a => by rw [sA_n (by decide), sA_n (by decide), sA_s]
  have e3 : ∀ g a, (setA (setA (setA M 12 F) 13 g) 14 a).1 13 = g := fun g a => by rw [sA_n (by decide), sA_s]
  have e4 : ∀ g a, (setA (setA (setA M 12 F) 13 g) 14 a).1 14 = a := fun g a => by rw [sA_s]
  have w3 : ∀ g a f, setA (setA (setA (setA M 12 F) 13 g) 14 a) 13 f = setA (setA (setA M 12 F) 13 f) 14 a := fun g a f => by rw [sA_sw (by decide), sA_sA]
  have w4 : ∀ g a f, setA (setA (setA (setA M 12 F) 13 g) 14 a) 14 f = setA (setA (setA M 12 F) 13 g) 14 f := fun g a f => by rw [sA_sA]
  have n2 : ∀ g a, (setA (setA (setA M 12 F) 13 g) 14 a).1 12 2 = nI R := fun g a => by rw [e2, hF2]
  have n3 : ∀ g a, (setA (setA (setA M 12 F) 13 g) 14 a).1 12 3 = nI W := fun g a => by rw [e2, hF3]
  refine loop_up (P := fun r => ∀ g a, Pla R W g a (r * W) → Go GC l mX4_draw 19 [.ref 12, .int (nI R), .int (nI W), .int (nI r), .null, .null] [] (setA (setA (setA M 12 F) 13 g) 14 a) (qDr R W M)) R ?_ ?_ 0 (by omega) (M.1 13) (M.1 14) ⟨fun c h => absurd h (by omega), fun c h => absurd h (by omega)⟩
  · intro g a hP
    refine g_iload3 20 rfl dX4_draw_19 ?_
    refine g_aload0 21 rfl dX4_draw_20 ?_
    refine g_getI 24 rfl fX4_19 (by first | rfl | exact st_o hb | exact st_1 hb | exact st_2 hb | exact st_3 hb | exact st_4 hb | exact st_5 hb | exact st_o hb2 | exact st_1 hb2 | exact st_2 hb2 | exact st_3 hb2 | exact st_4 hb2 | exact st_5 hb2) rfl dX4_draw_21 ?_
    try simp only [n2, n3, e3, e4, w3, w4]
    refine g_cmpge 182 27 rfl dX4_draw_24 (by decide) (fun h24 => ?_) (fun h => absurd (Int32.le_refl _) h)
    refine g_vret rfl dX4_draw_182 ?_
    exact ⟨rfl, F, g, a, rfl, hRW, n2 _ _, n3 _ _, by rw [e2, hF4], by rw [e3]; exact hP.1, by rw [e4]; exact hP.2⟩
  · intro r hr ih g a hP
    refine g_iload3 20 rfl dX4_draw_19 ?_
    refine g_aload0 21 rfl dX4_draw_20 ?_
    refine g_getI 24 rfl fX4_19 (by first | rfl | exact st_o hb | exact st_1 hb | exact st_2 hb | exact st_3 hb | exact st_4 hb | exact st_5 hb | exact st_o hb2 | exact st_1 hb2 | exact st_2 hb2 | exact st_3 hb2 | exact st_4 hb2 | exact st_5 hb2) rfl dX4_draw_21 ?_
    try simp only [n2, n3, e3, e4, w3, w4]
    refine g_cmpge 182 27 rfl dX4_draw_24 (by decide) (fun h => absurd h (nI_ge hr (by omega))) (fun _ => ?_)
    refine g_iconst 28 rfl (v := 0) dX4_draw_27 (by decide) ?_
    refine g_istore4 30 rfl dX4_draw_28 rfl rfl ?_
    refine loop_up (P := fun c => ∀ g a, Pla R W g a (r * W + c) → Go GC l mX4_draw 30 [.ref 12, .int (nI R), .int (nI W), .int (nI r), .int (nI c), .null] [] (setA (setA (setA M 12 F) 13 g) 14 a) (qDr R W M)) W ?_ ?_ 0 (by omega) g a hP
    · intro g a hP
      refine g_iload4 32 rfl dX4_draw_30 ?_
      refine g_aload0 33 rfl dX4_draw_32 ?_
      refine g_getI 36 rfl fX4_23 (by first | rfl | exact st_o hb | exact st_1 hb | exact st_2 hb | exact st_3 hb | exact st_4 hb | exact st_5 hb | exact st_o hb2 | exact st_1 hb2 | exact st_2 hb2 | exact st_3 hb2 | exact st_4 hb2 | exact st_5 hb2) rfl dX4_draw_33 ?_
      try simp only [n2, n3, e3, e4, w3, w4]
      refine g_cmpge 176 39 rfl dX4_draw_36 (by decide) (fun _ => ?_) (fun h => absurd (Int32.le_refl _) h)
      refine g_iinc3 179 rfl dX4_draw_176 rfl rfl _ (by first | exact iinc1 _ | exact iincx _ | rfl) ?_
      refine g_goto 19 dX4_draw_179 (by decide) ?_
      refine g_fg 4 ?_
      rw [show r * W + W = (r + 1) * W by rw [Nat.add_mul, Nat.one_mul]] at hP
      exact ih g a hP
    · intro c hc ih2 g a hP
      have hl := rc_lt hr hc
      have four : (4 : Int32) = nI 4 := rfl
      refine g_iload4 32 rfl dX4_draw_30 ?_
      refine g_aload0 33 rfl dX4_draw_32 ?_
      refine g_getI 36 rfl fX4_23 (by first | rfl | exact st_o hb | exact st_1 hb | exact st_2 hb | exact st_3 hb | exact st_4 hb | exact st_5 hb | exact st_o hb2 | exact st_1 hb2 | exact st_2 hb2 | exact st_3 hb2 | exact st_4 hb2 | exact st_5 hb2) rfl dX4_draw_33 ?_
      try simp only [n2, n3, e3, e4, w3, w4]
      refine g_cmpge 176 39 rfl dX4_draw_36 (by decide) (fun h => absurd h (nI_ge hc (by omega))) (fun _ => ?_)
      refine g_iload3 40 rfl dX4_draw_39 ?_
      refine g_aload0 41 rfl dX4_draw_40 ?_
      refine g_getI 44 rfl fX4_23 (by first | rfl | exact st_o hb | exact st_1 hb | exact st_2 hb | exact st_3 hb | exact st_4 hb | exact st_5 hb | exact st_o hb2 | exact st_1 hb2 | exact st_2 hb2 | exact st_3 hb2 | exact st_4 hb2 | exact st_5 hb2) rfl dX4_draw_41 ?_
      try simp only [n2, n3, e3, e4, w3, w4]
      refine g_imul 45 rfl dX4_draw_44 ?_
      refine g_iload4 47 rfl dX4_draw_45 ?_
      refine g_iadd 48 rfl dX4_draw_47 ?_
      rw [pk_mul, nI_add]
      refine g_istore5 50 rfl dX4_draw_48 rfl rfl ?_
      refine g_aload0 51 rfl dX4_draw_50 ?_
      refine g_getR 54 rfl fX4_9 (by first | rfl | exact st_o hb | exact st_1 hb | exact st_2 hb | exact st_3 hb | exact st_4 hb | exact st_5 hb | exact st_o hb2 | exact st_1 hb2 | exact st_2 hb2 | exact st_3 hb2 | exact st_4 hb2 | exact st_5 hb2) rfl dX4_draw_51 ?_
      refine g_iload5 56 rfl dX4_draw_54 ?_
      refine g_iconst 57 rfl (v := 4) dX4_draw_56 (by decide) ?_
      refine g_imul 58 rfl dX4_draw_57 ?_
      rw [four, pk_mul, Nat.mul_comm (r * W + c) 4]
      refine g_aload0 59 rfl dX4_draw_58 ?_
      refine g_iload3 60 rfl dX4_draw_59 ?_
      refine g_iconst 61 rfl (v := 1) dX4_draw_60 (by decide) ?_
      refine g_isub 62 rfl dX4_draw_61 ?_
      refine g_iload4 64 rfl dX4_draw_62 ?_
      refine g_callVi 67 2 rfl kX4_29 (by first | rfl | exact st_o hb | exact st_1 hb | exact st_2 hb | exact st_3 hb | exact st_4 hb | exact st_5 hb | exact st_o hb2 | exact st_1 hb2 | exact st_2 hb2 | exact st_3 hb2 | exact st_4 hb2 | exact st_5 hb2) dX4_draw_64 ⟨rfl, rfl⟩ (ok_X4_numberOf (n2 _ _) (n3 _ _)) rfl rfl rfl ?_
      rw [num_0 hr5 hr hc]
      refine g_iast 68 rfl dX4_draw_67 (by first | rfl | exact st_o hb | exact st_1 hb | exact st_2 hb | exact st_3 hb | exact st_4 hb | exact st_5 hb | exact st_o hb2 | exact st_1 hb2 | exact st_2 hb2 | exact st_3 hb2 | exact st_4 hb2 | exact st_5 hb2) rfl rfl (by first | assumption | omega) ?_
      try simp only [n2, n3, e3, e4, w3, w4]
      refine g_aload0 69 rfl dX4_draw_68 ?_
      refine g_getR 72 rfl fX4_9 (by first | rfl | exact st_o hb | exact st_1 hb | exact st_2 hb | exact st_3 hb | exact st_4 hb | exact st_5 hb | exact st_o hb2 | exact st_1 hb2 | exact st_2 hb2 | exact st_3 hb2 | exact st_4 hb2 | exact st_5 hb2) rfl dX4_draw_69 ?_
      refine g_iload5 74 rfl dX4_draw_72 ?_
      refine g_iconst 75 rfl (v := 4) dX4_draw_74 (by decide) ?_
      refine g_imul 76 rfl dX4_draw_75 ?_
      refine g_iconst 77 rfl (v := 1) dX4_draw_76 (by decide) ?_
      refine g_iadd 78 rfl dX4_draw_77 ?_
      rw [four, pk_mul, Nat.mul_comm (r * W + c) 4, nI_1]
      refine g_aload0 79 rfl dX4_draw_78 ?_
      refine g_iload3 80 rfl dX4_draw_79 ?_
      refine g_iload4 82 rfl dX4_draw_80 ?_
      refine g_iconst 83 rfl (v := 1) dX4_draw_82 (by decide) ?_
      refine g_iadd 84 rfl dX4_draw_83 ?_
      refine g_callVi 87 2 rfl kX4_29 (by first | rfl | exact st_o hb | exact st_1 hb | exact st_2 hb | exact st_3 hb | exact st_4 hb | exact st_5 hb | exact st_o hb2 | exact st_1 hb2 | exact st_2 hb2 | exact st_3 hb2 | exact st_4 hb2 | exact st_5 hb2) dX4_draw_84 ⟨rfl, rfl⟩ (ok_X4_numberOf (n2 _ _) (n3 _ _)) rfl rfl rfl ?_
      rw [num_1 hr5 hr hc]
      refine g_iast 88 rfl dX4_draw_87 (by first | rfl | exact st_o hb | exact st_1 hb | exact st_2 hb | exact st_3 hb | exact st_4 hb | exact st_5 hb | exact st_o hb2 | exact st_1 hb2 | exact st_2 hb2 | exact st_3 hb2 | exact st_4 hb2 | exact st_5 hb2) rfl rfl (by first | assumption | omega) ?_
      try simp only [n2, n3, e3, e4, w3, w4]
      refine g_aload0 89 rfl dX4_draw_88 ?_
      refine g_getR 92 rfl fX4_9 (by first | rfl | exact st_o hb | exact st_1 hb | exact st_2 hb | exact st_3 hb | exact st_4 hb | exact st_5 hb | exact st_o hb2 | exact st_1 hb2 | exact st_2 hb2 | exact st_3 hb2 | exact st_4 hb2 | exact st_5 hb2) rfl dX4_draw_89 ?_
      refine g_iload5 94 rfl dX4_draw_92 ?_
      refine g_iconst 95 rfl (v := 4) dX4_draw_94 (by decide) ?_
      refine g_imul 96 rfl dX4_draw_95 ?_
      refine g_iconst 97 rfl (v := 2) dX4_draw_96 (by decide) ?_
      refine g_iadd 98 rfl dX4_draw_97 ?_
      rw [four, pk_mul, Nat.mul_comm (r * W + c) 4, show (2 : Int32) = nI 2 from rfl, nI_add]
      refine g_aload0 99 rfl dX4_draw_98 ?_
      refine g_iload3 100 rfl dX4_draw_99 ?_
      refine g_iconst 101 rfl (v := 1) dX4_draw_100 (by decide) ?_
      refine g_iadd 102 rfl dX4_draw_101 ?_
      refine g_iload4 104 rfl dX4_draw_102 ?_
      refine g_callVi 107 2 rfl kX4_29 (by first | rfl | exact st_o hb | exact st_1 hb | exact st_2 hb | exact st_3 hb | exact st_4 hb | exact st_5 hb | exact st_o hb2 | exact st_1 hb2 | exact st_2 hb2 | exact st_3 hb2 | exact st_4 hb2 | exact st_5 hb2) dX4_draw_104 ⟨rfl, rfl⟩ (ok_X4_numberOf (n2 _ _) (n3 _ _)) rfl rfl rfl ?_
      rw [num_2 hr5 hr hc]
      refine g_iast 108 rfl dX4_draw_107 (by first | rfl | exact st_o hb | exact st_1 hb | exact st_2 hb | exact st_3 hb | exact st_4 hb | exact st_5 hb | exact st_o hb2 | exact st_1 hb2 | exact st_2 hb2 | exact st_3 hb2 | exact st_4 hb2 | exact st_5 hb2) rfl rfl (by first | assumption | omega) ?_
      try simp only [n2, n3, e3, e4, w3, w4]
      refine g_aload0 109 rfl dX4_draw_108 ?_
      refine g_getR 112 rfl fX4_9 (by first | rfl | exact st_o hb | exact st_1 hb | exact st_2 hb | exact st_3 hb | exact st_4 hb | exact st_5 hb | exact st_o hb2 | exact st_1 hb2 | exact st_2 hb2 | exact st_3 hb2 | exact st_4 hb2 | exact st_5 hb2) rfl dX4_draw_109 ?_
      refine g_iload5 114 rfl dX4_draw_112 ?_
      refine g_iconst 115 rfl (v := 4) dX4_draw_114 (by decide) ?_
      refine g_imul 116 rfl dX4_draw_115 ?_
      refine g_iconst 117 rfl (v := 3) dX4_draw_116 (by decide) ?_
      refine g_iadd 118 rfl dX4_draw_117 ?_
      rw [four, pk_mul, Nat.mul_comm (r * W + c) 4, show (3 : Int32) = nI 3 from rfl, nI_add]
      refine g_aload0 119 rfl dX4_draw_118 ?_
      refine g_iload3 120 rfl dX4_draw_119 ?_
      refine g_iload4 122 rfl dX4_draw_120 ?_
      refine g_iconst 123 rfl (v := 1) dX4_draw_122 (by decide) ?_
      refine g_isub 124 rfl dX4_draw_123 ?_
      refine g_callVi 127 2 rfl kX4_29 (by first | rfl | exact st_o hb | exact st_1 hb | exact st_2 hb | exact st_3 hb | exact st_4 hb | exact st_5 hb | exact st_o hb2 | exact st_1 hb2 | exact st_2 hb2 | exact st_3 hb2 | exact st_4 hb2 | exact st_5 hb2) dX4_draw_124 ⟨rfl, rfl⟩ (ok_X4_numberOf (n2 _ _) (n3 _ _)) rfl rfl rfl ?_
      rw [num_3 hr5 hr hc]
      refine g_iast 128 rfl dX4_draw_127 (by first | rfl | exact st_o hb | exact st_1 hb | exact st_2 hb | exact st_3 hb | exact st_4 hb | exact st_5 hb | exact st_o hb2 | exact st_1 hb2 | exact st_2 hb2 | exact st_3 hb2 | exact st_4 hb2 | exact st_5 hb2) rfl rfl (by first | assumption | omega) ?_
      try simp only [n2, n3, e3, e4, w3, w4]
      refine g_aload0 129 rfl dX4_draw_128 ?_
      refine g_getR 132 rfl fX4_15 (by first | rfl | exact st_o hb | exact st_1 hb | exact st_2 hb | exact st_3 hb | exact st_4 hb | exact st_5 hb | exact st_o hb2 | exact st_1 hb2 | exact st_2 hb2 | exact st_3 hb2 | exact st_4 hb2 | exact st_5 hb2) rfl dX4_draw_129 ?_
      refine g_iload5 134 rfl dX4_draw_132 ?_
      have hm := mod_rc (r := r) hc
      have i1 : ∀ k, k < 1000 → nI k - 1 = nI (k - 1) ∨ k = 0 := fun k hk => by
        cases k with
        | zero => exact Or.inr rfl
        | succ k => exact Or.inl (nI_pred k)
      have iR := (i1 R (by omega)).resolve_right (by omega)
      have iW := (i1 W (by omega)).resolve_right (by omega)
      have q1 : r = 0 → rim R W (r * W + c) := fun z => by subst z; exact Or.inl (by omega)
      have q2 : r = R - 1 → rim R W (r * W + c) := fun z => Or.inr (Or.inl (by rw [show R = r + 1 by omega, Nat.add_mul, Nat.one_mul]; omega))
      have q3 : c = 0 → rim R W (r * W + c) := fun z => Or.inr (Or.inr (Or.inl (by rw [hm]; exact z)))
      have q4 : c = W - 1 → rim R W (r * W + c) := fun z => Or.inr (Or.inr (Or.inr (by rw [hm]; omega)))
      have q5 : ¬ r = 0 → ¬ r = R - 1 → ¬ c = 0 → ¬ c = W - 1 → ¬ rim R W (r * W + c) := fun a1 a2 a3 a4 z => by
        rcases z with z | z | z | z
        · have : 1 * W ≤ r * W := Nat.mul_le_mul_right W (by omega)
          omega
        · have : (r + 2) * W ≤ R * W := Nat.mul_le_mul_right W (by omega)
          rw [Nat.add_mul] at this
          omega
        · rw [hm] at z; exact a3 z
        · rw [hm] at z; omega
      refine g_iload3 135 rfl dX4_draw_134 ?_
      refine g_ifeq 164 138 rfl dX4_draw_135 (by decide) (fun h135 => ?_) (fun h135 => ?_)
      · refine g_iconst 165 rfl (v := 1) dX4_draw_164 (by decide) ?_
        refine g_goto 169 dX4_draw_165 (by decide) ?_
        refine g_zast 170 rfl dX4_draw_169 (by first | rfl | exact st_o hb | exact st_1 hb | exact st_2 hb | exact st_3 hb | exact st_4 hb | exact st_5 hb | exact st_o hb2 | exact st_1 hb2 | exact st_2 hb2 | exact st_3 hb2 | exact st_4 hb2 | exact st_5 hb2) rfl rfl (by first | assumption | omega) (by first | exact Or.inl rfl | exact Or.inr rfl | assumption) ?_
        try simp only [n2, n3, e3, e4, w3, w4, iR, iW]
        refine g_iinc4 173 rfl dX4_draw_170 rfl rfl _ (by first | exact iinc1 _ | exact iincx _ | rfl) ?_
        refine g_goto 30 dX4_draw_173 (by decide) ?_
        refine g_fg 5 ?_
        refine ih2 _ _ (pla_up hP rfl rfl rfl rfl (Or.inl ⟨rfl, ?_⟩))
        first | exact q1 ((nI_eq (by omega) (by decide)).mp h135) | exact q2 ((nI_eq (by omega) (by omega)).mp (by rw [← iR]; exact h145)) | exact q3 ((nI_eq (by omega) (by decide)).mp h150) | exact q4 ((nI_eq (by omega) (by omega)).mp (by rw [← iW]; exact h161))
      · refine g_iload3 139 rfl dX4_draw_138 ?_
        refine g_aload0 140 rfl dX4_draw_139 ?_
        refine g_getI 143 rfl fX4_19 (by first | rfl | exact st_o hb | exact st_1 hb | exact st_2 hb | exact st_3 hb | exact st_4 hb | exact st_5 hb | exact st_o hb2 | exact st_1 hb2 | exact st_2 hb2 | exact st_3 hb2 | exact st_4 hb2 | exact st_5 hb2) rfl dX4_draw_140 ?_
        try simp only [n2, n3, e3, e4, w3, w4, iR, iW]
        refine g_iconst 144 rfl (v := 1) dX4_draw_143 (by decide) ?_
        refine g_isub 145 rfl dX4_draw_144 ?_
        refine g_cmpeq 164 148 rfl dX4_draw_145 (by decide) (fun h145 => ?_) (fun h145 => ?_)
        · refine g_iconst 165 rfl (v := 1) dX4_draw_164 (by decide) ?_
          refine g_goto 169 dX4_draw_165 (by decide) ?_
          refine g_zast 170 rfl dX4_draw_169 (by first | rfl | exact st_o hb | exact st_1 hb | exact st_2 hb | exact st_3 hb | exact st_4 hb | exact st_5 hb | exact st_o hb2 | exact st_1 hb2 | exact st_2 hb2 | exact st_3 hb2 | exact st_4 hb2 | exact st_5 hb2) rfl rfl (by first | assumption | omega) (by first | exact Or.inl rfl | exact Or.inr rfl | assumption) ?_
          try simp only [n2, n3, e3, e4, w3, w4, iR, iW]
          refine g_iinc4 173 rfl dX4_draw_170 rfl rfl _ (by first | exact iinc1 _ | exact iincx _ | rfl) ?_
          refine g_goto 30 dX4_draw_173 (by decide) ?_
          refine g_fg 5 ?_
          refine ih2 _ _ (pla_up hP rfl rfl rfl rfl (Or.inl ⟨rfl, ?_⟩))
          first | exact q1 ((nI_eq (by omega) (by decide)).mp h135) | exact q2 ((nI_eq (by omega) (by omega)).mp (by rw [← iR]; exact h145)) | exact q3 ((nI_eq (by omega) (by decide)).mp h150) | exact q4 ((nI_eq (by omega) (by omega)).mp (by rw [← iW]; exact h161))
        · refine g_iload4 150 rfl dX4_draw_148 ?_
          refine g_ifeq 164 153 rfl dX4_draw_150 (by decide) (fun h150 => ?_) (fun h150 => ?_)
          · refine g_iconst 165 rfl (v := 1) dX4_draw_164 (by decide) ?_
            refine g_goto 169 dX4_draw_165 (by decide) ?_
            refine g_zast 170 rfl dX4_draw_169 (by first | rfl | exact st_o hb | exact st_1 hb | exact st_2 hb | exact st_3 hb | exact st_4 hb | exact st_5 hb | exact st_o hb2 | exact st_1 hb2 | exact st_2 hb2 | exact st_3 hb2 | exact st_4 hb2 | exact st_5 hb2) rfl rfl (by first | assumption | omega) (by first | exact Or.inl rfl | exact Or.inr rfl | assumption) ?_
            try simp only [n2, n3, e3, e4, w3, w4, iR, iW]
            refine g_iinc4 173 rfl dX4_draw_170 rfl rfl _ (by first | exact iinc1 _ | exact iincx _ | rfl) ?_
            refine g_goto 30 dX4_draw_173 (by decide) ?_
            refine g_fg 5 ?_
            refine ih2 _ _ (pla_up hP rfl rfl rfl rfl (Or.inl ⟨rfl, ?_⟩))
            first | exact q1 ((nI_eq (by omega) (by decide)).mp h135) | exact q2 ((nI_eq (by omega) (by omega)).mp (by rw [← iR]; exact h145)) | exact q3 ((nI_eq (by omega) (by decide)).mp h150) | exact q4 ((nI_eq (by omega) (by omega)).mp (by rw [← iW]; exact h161))
          · refine g_iload4 155 rfl dX4_draw_153 ?_
            refine g_aload0 156 rfl dX4_draw_155 ?_
            refine g_getI 159 rfl fX4_23 (by first | rfl | exact st_o hb | exact st_1 hb | exact st_2 hb | exact st_3 hb | exact st_4 hb | exact st_5 hb | exact st_o hb2 | exact st_1 hb2 | exact st_2 hb2 | exact st_3 hb2 | exact st_4 hb2 | exact st_5 hb2) rfl dX4_draw_156 ?_
            try simp only [n2, n3, e3, e4, w3, w4, iR, iW]
            refine g_iconst 160 rfl (v := 1) dX4_draw_159 (by decide) ?_
            refine g_isub 161 rfl dX4_draw_160 ?_
            refine g_cmpne 168 164 rfl dX4_draw_161 (by decide) (fun h161 => ?_) (fun h161 => ?_)
            · refine g_iconst 169 rfl (v := 0) dX4_draw_168 (by decide) ?_
              refine g_zast 170 rfl dX4_draw_169 (by first | rfl | exact st_o hb | exact st_1 hb | exact st_2 hb | exact st_3 hb | exact st_4 hb | exact st_5 hb | exact st_o hb2 | exact st_1 hb2 | exact st_2 hb2 | exact st_3 hb2 | exact st_4 hb2 | exact st_5 hb2) rfl rfl (by first | assumption | omega) (by first | exact Or.inl rfl | exact Or.inr rfl | assumption) ?_
              try simp only [n2, n3, e3, e4, w3, w4, iR, iW]
              refine g_iinc4 173 rfl dX4_draw_170 rfl rfl _ (by first | exact iinc1 _ | exact iincx _ | rfl) ?_
              refine g_goto 30 dX4_draw_173 (by decide) ?_
              refine g_fg 5 ?_
              refine ih2 _ _ (pla_up hP rfl rfl rfl rfl (Or.inr ⟨rfl, ?_⟩))
              exact q5 (fun z => h135 (by rw [z]; rfl)) (fun z => h145 (by rw [iR, z])) (fun z => h150 (by rw [z]; rfl)) (fun z => h161 (by rw [iW, z]))
            · refine g_iconst 165 rfl (v := 1) dX4_draw_164 (by decide) ?_
              refine g_goto 169 dX4_draw_165 (by decide) ?_
              refine g_zast 170 rfl dX4_draw_169 (by first | rfl | exact st_o hb | exact st_1 hb | exact st_2 hb | exact st_3 hb | exact st_4 hb | exact st_5 hb | exact st_o hb2 | exact st_1 hb2 | exact st_2 hb2 | exact st_3 hb2 | exact st_4 hb2 | exact st_5 hb2) rfl rfl (by first | assumption | omega) (by first | exact Or.inl rfl | exact Or.inr rfl | assumption) ?_
              try simp only [n2, n3, e3, e4, w3, w4, iR, iW]
              refine g_iinc4 173 rfl dX4_draw_170 rfl rfl _ (by first | exact iinc1 _ | exact iincx _ | rfl) ?_
              refine g_goto 30 dX4_draw_173 (by decide) ?_
              refine g_fg 5 ?_
              refine ih2 _ _ (pla_up hP rfl rfl rfl rfl (Or.inl ⟨rfl, ?_⟩))
              first | exact q1 ((nI_eq (by omega) (by decide)).mp h135) | exact q2 ((nI_eq (by omega) (by omega)).mp (by rw [← iR]; exact h145)) | exact q3 ((nI_eq (by omega) (by decide)).mp h150) | exact q4 ((nI_eq (by omega) (by omega)).mp (by rw [← iW]; exact h161))
