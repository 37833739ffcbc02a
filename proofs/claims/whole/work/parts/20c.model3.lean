/-! the reference: blows, rounds -/
/-- what stones' numbers keep to -/
def SIc (x : Sx) (c : Nat) : Prop := (sK x c = -1 ∨ sK x c = 0 ∨ sK x c = 1 ∨ sK x c = 2 ∨ sK x c = 3 ∨ sK x c = 4) ∧ (∃ s, s ≤ 99 ∧ sS x c = nI s ∧ (sK x c = 3 → s ≤ 1) ∧ (sK x c = 2 → s ≤ 3)) ∧ ∃ j, j ≤ 9 ∧ sJ x c = nI j ∧ (sK x c = -1 → j = 0)
def SI (n : Nat) (x : Sx) : Prop := ∀ c, c < n → SIc x c
theorem gO_nn {K : Nat → Int32} (o : Option Nat) : ∃ g, g ≤ 3 ∧ gO K o = nI g := by
  cases o with
  | none => exact ⟨0, by omega, rfl⟩
  | some k =>
    simp only [gO, gripK]
    repeat' split
    · exact ⟨2, by omega, rfl⟩
    · exact ⟨1, by omega, rfl⟩
    · exact ⟨3, by omega, rfl⟩
    · exact ⟨0, by omega, rfl⟩
theorem hold_nn {R W c : Nat} {x : Sx} (h : SIc x c) : ∃ j, j ≤ 21 ∧ holdS R W x c = nI j := by
  obtain ⟨j, hj, e, -⟩ := h.2.2
  obtain ⟨a0, b0, e0⟩ := gO_nn (K := sK x) (nb R W c 0)
  obtain ⟨a1, b1, e1⟩ := gO_nn (K := sK x) (nb R W c 1)
  obtain ⟨a2, b2, e2⟩ := gO_nn (K := sK x) (nb R W c 2)
  obtain ⟨a3, b3, e3⟩ := gO_nn (K := sK x) (nb R W c 3)
  refine ⟨j + a0 + a1 + a2 + a3, by omega, ?_⟩
  unfold holdS
  rw [holdN, holdN, holdN, holdN, holdN, e, e0, e1, e2, e3, nI_add, nI_add, nI_add, nI_add]
theorem den_nn {R W c : Nat} {x : Sx} (h : SIc x c) : ∃ d, 4 ≤ d ∧ d ≤ 124 ∧ 4 + holdS R W x c + sS x c = nI d := by
  obtain ⟨j, hj, e⟩ := hold_nn (R := R) (W := W) h
  obtain ⟨s, hs, e2, -⟩ := h.2.1
  exact ⟨4 + j + s, by omega, by omega, by rw [e, e2, show (4 : Int32) = nI 4 from rfl, nI_add, nI_add]⟩
theorem om_sinks {l : Launch} {M : Mm} {R W c : Nat} {x : Sx} {w : Int32} (hm : Mod M R W) (hc : c < R * W) (hs : SIc x c) (hk : ¬ sK x c = -1) : Oi GM l mX12_sinks [.ref 0, .int (nI c), .int w] (pM M x) (sinkS R W x c w) (pM M x) := by
  have h30 := hm.le
  obtain ⟨d, hd4, hd, ed⟩ := den_nn (R := R) (W := W) hs
  have hne : ¬ 4 + holdS R W x c + sS x c = 0 := by rw [ed]; exact nI_ne0 (by omega) (by omega)
  have eq : quo w (4 + holdS R W x c + sS x c) = w / (4 + holdS R W x c + sS x c) := by rw [quo, if_pos]; rw [ed, show (1 : Int32) = nI 1 from rfl]; exact nI_le (by omega) (by omega)
  refine ok_of (by decide +kernel) rfl rfl ?_
  refine g_iload2 1 rfl dX12_sinks_0 ?_
  refine g_iconst 2 rfl (v := 4) dX12_sinks_1 (by decide) ?_
  refine g_aload0 3 rfl dX12_sinks_2 ?_
  refine g_iload1 4 rfl dX12_sinks_3 ?_
  refine g_callVi 7 1 rfl kX12_153 (by first | rfl | exact st_o hb | exact st_1 hb | exact st_2 hb | exact st_3 hb | exact st_4 hb | exact st_5 hb | exact st_o hb2 | exact st_1 hb2 | exact st_2 hb2 | exact st_3 hb2 | exact st_4 hb2 | exact st_5 hb2) dX12_sinks_4 ⟨rfl, rfl⟩ (om_hold hm hc) rfl rfl rfl ?_
  refine g_iadd 8 rfl dX12_sinks_7 ?_
  refine g_aload0 9 rfl dX12_sinks_8 ?_
  refine g_getR 12 rfl fX12_19 (by first | rfl | exact st_o hb | exact st_1 hb | exact st_2 hb | exact st_3 hb | exact st_4 hb | exact st_5 hb | exact st_o hb2 | exact st_1 hb2 | exact st_2 hb2 | exact st_3 hb2 | exact st_4 hb2 | exact st_5 hb2) rfl dX12_sinks_9 ?_
  refine g_iload1 13 rfl dX12_sinks_12 ?_
  refine g_iald 14 rfl dX12_sinks_13 (by first | rfl | exact st_o hb | exact st_1 hb | exact st_2 hb | exact st_3 hb | exact st_4 hb | exact st_5 hb | exact st_o hb2 | exact st_1 hb2 | exact st_2 hb2 | exact st_3 hb2 | exact st_4 hb2 | exact st_5 hb2) rfl rfl (by first | assumption | omega) ?_
  try simp only [pM_1, pM_2, pM_3, pM_4, pM_5, pM_w1, pM_w2, pM_w3, pM_w4, pM_w5]
  refine g_iadd 15 rfl dX12_sinks_14 ?_
  refine g_idiv 16 rfl dX12_sinks_15 hne ?_
  refine g_istore3 17 rfl dX12_sinks_16 rfl rfl ?_
  refine g_aload0 18 rfl dX12_sinks_17 ?_
  refine g_getR 21 rfl fX12_7 (by first | rfl | exact st_o hb | exact st_1 hb | exact st_2 hb | exact st_3 hb | exact st_4 hb | exact st_5 hb | exact st_o hb2 | exact st_1 hb2 | exact st_2 hb2 | exact st_3 hb2 | exact st_4 hb2 | exact st_5 hb2) rfl dX12_sinks_18 ?_
  refine g_iload1 22 rfl dX12_sinks_21 ?_
  refine g_iald 23 rfl dX12_sinks_22 (by first | rfl | exact st_o hb | exact st_1 hb | exact st_2 hb | exact st_3 hb | exact st_4 hb | exact st_5 hb | exact st_o hb2 | exact st_1 hb2 | exact st_2 hb2 | exact st_3 hb2 | exact st_4 hb2 | exact st_5 hb2) rfl rfl (by first | assumption | omega) ?_
  try simp only [pM_1, pM_2, pM_3, pM_4, pM_5, pM_w1, pM_w2, pM_w3, pM_w4, pM_w5]
  refine g_tab3 2 3 4 60 48 52 58 dX12_sinks_23 (by decide) (by decide) (by decide) (by decide) (by decide) (by decide) (by decide) (by decide) (fun h23 => ?_) (fun h23 => ?_) (fun h23 => ?_) (fun h23 => ?_)
  · refine g_iload3 61 rfl dX12_sinks_60 ?_
    refine g_iret rfl dX12_sinks_61 ?_
    refine ⟨?_, rfl⟩
    unfold sinkS
    rw [if_neg hk, eq]
    first | (rw [h23]; rfl) | (rw [if_neg (fun z => by rw [z] at h23; exact absurd h23 (by decide)), if_neg (fun z => by rw [z] at h23; exact absurd h23 (by decide)), if_neg (fun z => by rw [z] at h23; exact absurd h23 (by decide))])
  · refine g_iload3 49 rfl dX12_sinks_48 ?_
    refine g_iconst 50 rfl (v := 1) dX12_sinks_49 (by decide) ?_
    refine g_iadd 51 rfl dX12_sinks_50 ?_
    refine g_iret rfl dX12_sinks_51 ?_
    refine ⟨?_, rfl⟩
    unfold sinkS
    rw [if_neg hk, eq]
    first | (rw [h23]; rfl) | (rw [if_neg (fun z => by rw [z] at h23; exact absurd h23 (by decide)), if_neg (fun z => by rw [z] at h23; exact absurd h23 (by decide)), if_neg (fun z => by rw [z] at h23; exact absurd h23 (by decide))])
  · refine g_iconst 53 rfl (v := 2) dX12_sinks_52 (by decide) ?_
    refine g_iload3 54 rfl dX12_sinks_53 ?_
    refine g_iconst 55 rfl (v := 1) dX12_sinks_54 (by decide) ?_
    refine g_iadd 56 rfl dX12_sinks_55 ?_
    refine g_imul 57 rfl dX12_sinks_56 ?_
    refine g_iret rfl dX12_sinks_57 ?_
    refine ⟨?_, rfl⟩
    unfold sinkS
    rw [if_neg hk, eq]
    first | (rw [h23]; rfl) | (rw [if_neg (fun z => by rw [z] at h23; exact absurd h23 (by decide)), if_neg (fun z => by rw [z] at h23; exact absurd h23 (by decide)), if_neg (fun z => by rw [z] at h23; exact absurd h23 (by decide))])
  · refine g_iconst 59 rfl (v := 0) dX12_sinks_58 (by decide) ?_
    refine g_iret rfl dX12_sinks_59 ?_
    refine ⟨?_, rfl⟩
    unfold sinkS
    rw [if_neg hk, eq]
    first | (rw [h23]; rfl) | (rw [if_neg (fun z => by rw [z] at h23; exact absurd h23 (by decide)), if_neg (fun z => by rw [z] at h23; exact absurd h23 (by decide)), if_neg (fun z => by rw [z] at h23; exact absurd h23 (by decide))])
theorem seat_up {s : Nat} (hs : s ≤ 99) : (if nI s + 1 < 99 then nI s + 1 else 99) = nI (if s < 99 then s + 1 else 99) := by
  rw [nI_1, show (99 : Int32) = nI 99 from rfl]
  by_cases h : s + 1 < 99
  · rw [if_pos (nI_lt h (by decide)), if_pos (by omega)]
  · rw [if_neg (nI_nlt (a := s + 1) (b := 99) (by omega) (by omega))]
    by_cases h2 : s < 99
    · rw [if_pos h2, show s + 1 = 99 by omega]
    · rw [if_neg h2]
/-- a stone behind a blow: its height, its seat, its kind -/
theorem str_is {R W c s : Nat} {x : Sx} {w : Int32} (hk : ¬ sK x c = -1) (h4 : ¬ sK x c = 4) (hs : s ≤ 99) (es : sS x c = nI s) : strS R W c w x = (if sK x c = 3 ∧ nI (if s < 99 then s + 1 else 99) = 2 then wK (wS (wH x (upd (sH x) c (sH x c - sinkS R W x c w))) (upd (sS x) c (nI (if s < 99 then s + 1 else 99)))) (upd (sK x) c 2) else if sK x c = 2 ∧ nI (if s < 99 then s + 1 else 99) = 4 then wK (wS (wH x (upd (sH x) c (sH x c - sinkS R W x c w))) (upd (sS x) c (nI (if s < 99 then s + 1 else 99)))) (upd (sK x) c 0) else wS (wH x (upd (sH x) c (sH x c - sinkS R W x c w))) (upd (sS x) c (nI (if s < 99 then s + 1 else 99)))) := by
  have eK : ∀ (y : Sx) f, sK (wH y f) = sK y := fun _ _ => rfl
  have eS : ∀ (y : Sx) f, sS (wH y f) = sS y := fun _ _ => rfl
  unfold strS firmS
  rw [eK, eS, if_neg (fun z => z.elim hk h4), es, seat_up hs]
theorem str_no {R W c : Nat} {x : Sx} {w : Int32} (hk : sK x c = -1 ∨ sK x c = 4) : strS R W c w x = wH x (upd (sH x) c (sH x c - sinkS R W x c w)) := by
  have eK : ∀ (y : Sx) f, sK (wH y f) = sK y := fun _ _ => rfl
  unfold strS firmS
  rw [eK, if_pos hk]
theorem om_goBlow {l : Launch} {M : Mm} {R W c : Nat} {x : Sx} {w : Int32} (hm : Mod M R W) (hc : c < R * W) (hs : SIc x c) (hk : ¬ sK x c = -1) : Oi GM l mX12_goBlow [.ref 0, .int (nI c), .int w] (pM M x) (sinkS R W x c w) (pM M (strS R W c w x)) := by
  have h30 := hm.le
  obtain ⟨s, hs99, es, h3, h2⟩ := hs.2.1
  refine ok_of (by decide +kernel) rfl rfl ?_
  refine g_aload0 1 rfl dX12_goBlow_0 ?_
  refine g_iload1 2 rfl dX12_goBlow_1 ?_
  refine g_iload2 3 rfl dX12_goBlow_2 ?_
  refine g_callVi 6 2 rfl kX12_162 (by first | rfl | exact st_o hb | exact st_1 hb | exact st_2 hb | exact st_3 hb | exact st_4 hb | exact st_5 hb | exact st_o hb2 | exact st_1 hb2 | exact st_2 hb2 | exact st_3 hb2 | exact st_4 hb2 | exact st_5 hb2) dX12_goBlow_3 ⟨rfl, rfl⟩ (om_sinks hm hc hs hk) rfl rfl rfl ?_
  refine g_istore3 7 rfl dX12_goBlow_6 rfl rfl ?_
  refine g_aload0 8 rfl dX12_goBlow_7 ?_
  refine g_getR 11 rfl fX12_16 (by first | rfl | exact st_o hb | exact st_1 hb | exact st_2 hb | exact st_3 hb | exact st_4 hb | exact st_5 hb | exact st_o hb2 | exact st_1 hb2 | exact st_2 hb2 | exact st_3 hb2 | exact st_4 hb2 | exact st_5 hb2) rfl dX12_goBlow_8 ?_
  refine g_iload1 12 rfl dX12_goBlow_11 ?_
  refine g_dup2 13 rfl dX12_goBlow_12 rfl rfl ?_
  refine g_iald 14 rfl dX12_goBlow_13 (by first | rfl | exact st_o hb | exact st_1 hb | exact st_2 hb | exact st_3 hb | exact st_4 hb | exact st_5 hb | exact st_o hb2 | exact st_1 hb2 | exact st_2 hb2 | exact st_3 hb2 | exact st_4 hb2 | exact st_5 hb2) rfl rfl (by first | assumption | omega) ?_
  try simp only [pM_1, pM_2, pM_3, pM_4, pM_5, pM_w1, pM_w2, pM_w3, pM_w4, pM_w5]
  refine g_iload3 15 rfl dX12_goBlow_14 ?_
  refine g_isub 16 rfl dX12_goBlow_15 ?_
  refine g_iast 17 rfl dX12_goBlow_16 (by first | rfl | exact st_o hb | exact st_1 hb | exact st_2 hb | exact st_3 hb | exact st_4 hb | exact st_5 hb | exact st_o hb2 | exact st_1 hb2 | exact st_2 hb2 | exact st_3 hb2 | exact st_4 hb2 | exact st_5 hb2) rfl rfl (by first | assumption | omega) ?_
  try simp only [pM_1, pM_2, pM_3, pM_4, pM_5, pM_w1, pM_w2, pM_w3, pM_w4, pM_w5]
  obtain ⟨x1, hx1⟩ : ∃ x1, x1 = wH x (upd (sH x) c (sH x c - sinkS R W x c w)) := ⟨_, rfl⟩
  have k1 : sK x1 = sK x := by rw [hx1]; rfl
  have s1 : sS x1 = sS x := by rw [hx1]; rfl
  rw [← hx1]
  refine g_aload0 18 rfl dX12_goBlow_17 ?_
  refine g_getR 21 rfl fX12_7 (by first | rfl | exact st_o hb | exact st_1 hb | exact st_2 hb | exact st_3 hb | exact st_4 hb | exact st_5 hb | exact st_o hb2 | exact st_1 hb2 | exact st_2 hb2 | exact st_3 hb2 | exact st_4 hb2 | exact st_5 hb2) rfl dX12_goBlow_18 ?_
  refine g_iload1 22 rfl dX12_goBlow_21 ?_
  refine g_iald 23 rfl dX12_goBlow_22 (by first | rfl | exact st_o hb | exact st_1 hb | exact st_2 hb | exact st_3 hb | exact st_4 hb | exact st_5 hb | exact st_o hb2 | exact st_1 hb2 | exact st_2 hb2 | exact st_3 hb2 | exact st_4 hb2 | exact st_5 hb2) rfl rfl (by first | assumption | omega) ?_
  try simp only [pM_1, pM_2, pM_3, pM_4, pM_5, pM_w1, pM_w2, pM_w3, pM_w4, pM_w5, k1, s1]
  refine g_iconst 24 rfl (v := 4) dX12_goBlow_23 (by decide) ?_
  refine g_cmpeq 52 27 rfl dX12_goBlow_24 (by decide) (fun h24 => ?_) (fun h24 => ?_)
  · have es' : x1 = strS R W c w x := by rw [hx1, str_no (Or.inr h24)]
    refine g_aload0 53 rfl dX12_goBlow_52 ?_
    refine g_getR 56 rfl fX12_7 (by first | rfl | exact st_o hb | exact st_1 hb | exact st_2 hb | exact st_3 hb | exact st_4 hb | exact st_5 hb | exact st_o hb2 | exact st_1 hb2 | exact st_2 hb2 | exact st_3 hb2 | exact st_4 hb2 | exact st_5 hb2) rfl dX12_goBlow_53 ?_
    refine g_iload1 57 rfl dX12_goBlow_56 ?_
    refine g_iald 58 rfl dX12_goBlow_57 (by first | rfl | exact st_o hb | exact st_1 hb | exact st_2 hb | exact st_3 hb | exact st_4 hb | exact st_5 hb | exact st_o hb2 | exact st_1 hb2 | exact st_2 hb2 | exact st_3 hb2 | exact st_4 hb2 | exact st_5 hb2) rfl rfl (by first | assumption | omega) ?_
    try simp only [pM_1, pM_2, pM_3, pM_4, pM_5, pM_w1, pM_w2, pM_w3, pM_w4, pM_w5, k1, s1]
    refine g_iconst 59 rfl (v := 3) dX12_goBlow_58 (by decide) ?_
    rw [h24]
    refine g_cmpne 82 62 rfl dX12_goBlow_59 (by decide) (fun _ => ?_) (fun z => absurd z (by decide))
    refine g_aload0 83 rfl dX12_goBlow_82 ?_
    refine g_getR 86 rfl fX12_7 (by first | rfl | exact st_o hb | exact st_1 hb | exact st_2 hb | exact st_3 hb | exact st_4 hb | exact st_5 hb | exact st_o hb2 | exact st_1 hb2 | exact st_2 hb2 | exact st_3 hb2 | exact st_4 hb2 | exact st_5 hb2) rfl dX12_goBlow_83 ?_
    refine g_iload1 87 rfl dX12_goBlow_86 ?_
    refine g_iald 88 rfl dX12_goBlow_87 (by first | rfl | exact st_o hb | exact st_1 hb | exact st_2 hb | exact st_3 hb | exact st_4 hb | exact st_5 hb | exact st_o hb2 | exact st_1 hb2 | exact st_2 hb2 | exact st_3 hb2 | exact st_4 hb2 | exact st_5 hb2) rfl rfl (by first | assumption | omega) ?_
    try simp only [pM_1, pM_2, pM_3, pM_4, pM_5, pM_w1, pM_w2, pM_w3, pM_w4, pM_w5, k1, s1]
    refine g_iconst 89 rfl (v := 2) dX12_goBlow_88 (by decide) ?_
    rw [h24]
    refine g_cmpne 109 92 rfl dX12_goBlow_89 (by decide) (fun _ => ?_) (fun z => absurd z (by decide))
    refine g_iload3 110 rfl dX12_goBlow_109 ?_
    refine g_iret rfl dX12_goBlow_110 ?_
    exact ⟨rfl, by rw [es']⟩
  · have est := str_is (R := R) (W := W) (w := w) hk h24 hs99 es
    rw [← hx1] at est
    obtain ⟨u, hu⟩ : ∃ u, u = if s < 99 then s + 1 else 99 := ⟨_, rfl⟩
    rw [← hu] at est
    have hu99 : u ≤ 99 := by rw [hu]; split <;> omega
    obtain ⟨x2, hx2⟩ : ∃ x2, x2 = wS x1 (upd (sS x) c (nI u)) := ⟨_, rfl⟩
    have k2 : sK x2 = sK x := by rw [hx2]; exact k1
    have s2 : sS x2 c = nI u := by rw [hx2]; exact upd_at _ _ _
    rw [← hx2] at est
    have rest : Go GM l mX12_goBlow 52 [.ref 0, .int (nI c), .int w, .int (sinkS R W x c w)] [] (pM M x2) (fun r M1 => r = some (.inl (sinkS R W x c w)) ∧ M1 = pM M (strS R W c w x)) := by
      refine g_aload0 53 rfl dX12_goBlow_52 ?_
      refine g_getR 56 rfl fX12_7 (by first | rfl | exact st_o hb | exact st_1 hb | exact st_2 hb | exact st_3 hb | exact st_4 hb | exact st_5 hb | exact st_o hb2 | exact st_1 hb2 | exact st_2 hb2 | exact st_3 hb2 | exact st_4 hb2 | exact st_5 hb2) rfl dX12_goBlow_53 ?_
      refine g_iload1 57 rfl dX12_goBlow_56 ?_
      refine g_iald 58 rfl dX12_goBlow_57 (by first | rfl | exact st_o hb | exact st_1 hb | exact st_2 hb | exact st_3 hb | exact st_4 hb | exact st_5 hb | exact st_o hb2 | exact st_1 hb2 | exact st_2 hb2 | exact st_3 hb2 | exact st_4 hb2 | exact st_5 hb2) rfl rfl (by first | assumption | omega) ?_
      try simp only [pM_1, pM_2, pM_3, pM_4, pM_5, pM_w1, pM_w2, pM_w3, pM_w4, pM_w5, k2, s2]
      refine g_iconst 59 rfl (v := 3) dX12_goBlow_58 (by decide) ?_
      refine g_cmpne 82 62 rfl dX12_goBlow_59 (by decide) (fun h59 => ?_) (fun h59 => ?_)
      · rw [if_neg (fun z => h59 z.1)] at est
        refine g_aload0 83 rfl dX12_goBlow_82 ?_
        refine g_getR 86 rfl fX12_7 (by first | rfl | exact st_o hb | exact st_1 hb | exact st_2 hb | exact st_3 hb | exact st_4 hb | exact st_5 hb | exact st_o hb2 | exact st_1 hb2 | exact st_2 hb2 | exact st_3 hb2 | exact st_4 hb2 | exact st_5 hb2) rfl dX12_goBlow_83 ?_
        refine g_iload1 87 rfl dX12_goBlow_86 ?_
        refine g_iald 88 rfl dX12_goBlow_87 (by first | rfl | exact st_o hb | exact st_1 hb | exact st_2 hb | exact st_3 hb | exact st_4 hb | exact st_5 hb | exact st_o hb2 | exact st_1 hb2 | exact st_2 hb2 | exact st_3 hb2 | exact st_4 hb2 | exact st_5 hb2) rfl rfl (by first | assumption | omega) ?_
        try simp only [pM_1, pM_2, pM_3, pM_4, pM_5, pM_w1, pM_w2, pM_w3, pM_w4, pM_w5, k2, s2]
        refine g_iconst 89 rfl (v := 2) dX12_goBlow_88 (by decide) ?_
        refine g_cmpne 109 92 rfl dX12_goBlow_89 (by decide) (fun h89 => ?_) (fun h89 => ?_)
        · rw [if_neg (fun z => h89 z.1)] at est
          refine g_iload3 110 rfl dX12_goBlow_109 ?_
          refine g_iret rfl dX12_goBlow_110 ?_
          exact ⟨rfl, by rw [est]⟩
        · have hs3 := h2 h89
          refine g_aload0 93 rfl dX12_goBlow_92 ?_
          refine g_getR 96 rfl fX12_19 (by first | rfl | exact st_o hb | exact st_1 hb | exact st_2 hb | exact st_3 hb | exact st_4 hb | exact st_5 hb | exact st_o hb2 | exact st_1 hb2 | exact st_2 hb2 | exact st_3 hb2 | exact st_4 hb2 | exact st_5 hb2) rfl dX12_goBlow_93 ?_
          refine g_iload1 97 rfl dX12_goBlow_96 ?_
          refine g_iald 98 rfl dX12_goBlow_97 (by first | rfl | exact st_o hb | exact st_1 hb | exact st_2 hb | exact st_3 hb | exact st_4 hb | exact st_5 hb | exact st_o hb2 | exact st_1 hb2 | exact st_2 hb2 | exact st_3 hb2 | exact st_4 hb2 | exact st_5 hb2) rfl rfl (by first | assumption | omega) ?_
          try simp only [pM_1, pM_2, pM_3, pM_4, pM_5, pM_w1, pM_w2, pM_w3, pM_w4, pM_w5, k2, s2]
          refine g_iconst 99 rfl (v := 4) dX12_goBlow_98 (by decide) ?_
          refine g_cmplt 109 102 rfl dX12_goBlow_99 (by decide) (fun h99 => ?_) (fun h99 => ?_)
          · rw [if_neg (fun z => absurd h99 (by rw [z.2]; decide))] at est
            refine g_iload3 110 rfl dX12_goBlow_109 ?_
            refine g_iret rfl dX12_goBlow_110 ?_
            exact ⟨rfl, by rw [est]⟩
          · have : u = 4 := by
              have := Nat.le_of_not_lt (fun z => h99 (nI_lt (b := 4) z (by decide)))
              have hu2 := hu
              split at hu2 <;> omega
            rw [if_pos ⟨h89, by rw [this]; rfl⟩] at est
            refine g_aload0 103 rfl dX12_goBlow_102 ?_
            refine g_getR 106 rfl fX12_7 (by first | rfl | exact st_o hb | exact st_1 hb | exact st_2 hb | exact st_3 hb | exact st_4 hb | exact st_5 hb | exact st_o hb2 | exact st_1 hb2 | exact st_2 hb2 | exact st_3 hb2 | exact st_4 hb2 | exact st_5 hb2) rfl dX12_goBlow_103 ?_
            refine g_iload1 107 rfl dX12_goBlow_106 ?_
            refine g_iconst 108 rfl (v := 0) dX12_goBlow_107 (by decide) ?_
            refine g_iast 109 rfl dX12_goBlow_108 (by first | rfl | exact st_o hb | exact st_1 hb | exact st_2 hb | exact st_3 hb | exact st_4 hb | exact st_5 hb | exact st_o hb2 | exact st_1 hb2 | exact st_2 hb2 | exact st_3 hb2 | exact st_4 hb2 | exact st_5 hb2) rfl rfl (by first | assumption | omega) ?_
            try simp only [pM_1, pM_2, pM_3, pM_4, pM_5, pM_w1, pM_w2, pM_w3, pM_w4, pM_w5, k2, s2]
            refine g_iload3 110 rfl dX12_goBlow_109 ?_
            refine g_iret rfl dX12_goBlow_110 ?_
            exact ⟨rfl, by rw [est]⟩
      · have hs1 := h3 h59
        refine g_aload0 63 rfl dX12_goBlow_62 ?_
        refine g_getR 66 rfl fX12_19 (by first | rfl | exact st_o hb | exact st_1 hb | exact st_2 hb | exact st_3 hb | exact st_4 hb | exact st_5 hb | exact st_o hb2 | exact st_1 hb2 | exact st_2 hb2 | exact st_3 hb2 | exact st_4 hb2 | exact st_5 hb2) rfl dX12_goBlow_63 ?_
        refine g_iload1 67 rfl dX12_goBlow_66 ?_
        refine g_iald 68 rfl dX12_goBlow_67 (by first | rfl | exact st_o hb | exact st_1 hb | exact st_2 hb | exact st_3 hb | exact st_4 hb | exact st_5 hb | exact st_o hb2 | exact st_1 hb2 | exact st_2 hb2 | exact st_3 hb2 | exact st_4 hb2 | exact st_5 hb2) rfl rfl (by first | assumption | omega) ?_
        try simp only [pM_1, pM_2, pM_3, pM_4, pM_5, pM_w1, pM_w2, pM_w3, pM_w4, pM_w5, k2, s2]
        refine g_iconst 69 rfl (v := 2) dX12_goBlow_68 (by decide) ?_
        refine g_cmplt 82 72 rfl dX12_goBlow_69 (by decide) (fun h69 => ?_) (fun h69 => ?_)
        · rw [if_neg (fun z => absurd h69 (by rw [z.2]; decide)), if_neg (fun z => absurd (h59.symm.trans z.1) (by decide))] at est
          refine g_aload0 83 rfl dX12_goBlow_82 ?_
          refine g_getR 86 rfl fX12_7 (by first | rfl | exact st_o hb | exact st_1 hb | exact st_2 hb | exact st_3 hb | exact st_4 hb | exact st_5 hb | exact st_o hb2 | exact st_1 hb2 | exact st_2 hb2 | exact st_3 hb2 | exact st_4 hb2 | exact st_5 hb2) rfl dX12_goBlow_83 ?_
          refine g_iload1 87 rfl dX12_goBlow_86 ?_
          refine g_iald 88 rfl dX12_goBlow_87 (by first | rfl | exact st_o hb | exact st_1 hb | exact st_2 hb | exact st_3 hb | exact st_4 hb | exact st_5 hb | exact st_o hb2 | exact st_1 hb2 | exact st_2 hb2 | exact st_3 hb2 | exact st_4 hb2 | exact st_5 hb2) rfl rfl (by first | assumption | omega) ?_
          try simp only [pM_1, pM_2, pM_3, pM_4, pM_5, pM_w1, pM_w2, pM_w3, pM_w4, pM_w5, k2, s2]
          refine g_iconst 89 rfl (v := 2) dX12_goBlow_88 (by decide) ?_
          rw [h59]
          refine g_cmpne 109 92 rfl dX12_goBlow_89 (by decide) (fun _ => ?_) (fun z => absurd z (by decide))
          refine g_iload3 110 rfl dX12_goBlow_109 ?_
          refine g_iret rfl dX12_goBlow_110 ?_
          exact ⟨rfl, by rw [est]⟩
        · have : u = 2 := by
            have := Nat.le_of_not_lt (fun z => h69 (nI_lt (b := 2) z (by decide)))
            have hu2 := hu
            split at hu2 <;> omega
          rw [if_pos ⟨h59, by rw [this]; rfl⟩] at est
          refine g_aload0 73 rfl dX12_goBlow_72 ?_
          refine g_getR 76 rfl fX12_7 (by first | rfl | exact st_o hb | exact st_1 hb | exact st_2 hb | exact st_3 hb | exact st_4 hb | exact st_5 hb | exact st_o hb2 | exact st_1 hb2 | exact st_2 hb2 | exact st_3 hb2 | exact st_4 hb2 | exact st_5 hb2) rfl dX12_goBlow_73 ?_
          refine g_iload1 77 rfl dX12_goBlow_76 ?_
          refine g_iconst 78 rfl (v := 2) dX12_goBlow_77 (by decide) ?_
          refine g_iast 79 rfl dX12_goBlow_78 (by first | rfl | exact st_o hb | exact st_1 hb | exact st_2 hb | exact st_3 hb | exact st_4 hb | exact st_5 hb | exact st_o hb2 | exact st_1 hb2 | exact st_2 hb2 | exact st_3 hb2 | exact st_4 hb2 | exact st_5 hb2) rfl rfl (by first | assumption | omega) ?_
          try simp only [pM_1, pM_2, pM_3, pM_4, pM_5, pM_w1, pM_w2, pM_w3, pM_w4, pM_w5, k2, s2]
          refine g_goto 109 dX12_goBlow_79 (by decide) ?_
          refine g_iload3 110 rfl dX12_goBlow_109 ?_
          refine g_iret rfl dX12_goBlow_110 ?_
          exact ⟨rfl, by rw [est]⟩
    refine g_aload0 28 rfl dX12_goBlow_27 ?_
    refine g_getR 31 rfl fX12_19 (by first | rfl | exact st_o hb | exact st_1 hb | exact st_2 hb | exact st_3 hb | exact st_4 hb | exact st_5 hb | exact st_o hb2 | exact st_1 hb2 | exact st_2 hb2 | exact st_3 hb2 | exact st_4 hb2 | exact st_5 hb2) rfl dX12_goBlow_28 ?_
    refine g_iload1 32 rfl dX12_goBlow_31 ?_
    refine g_dup2 33 rfl dX12_goBlow_32 rfl rfl ?_
    refine g_iald 34 rfl dX12_goBlow_33 (by first | rfl | exact st_o hb | exact st_1 hb | exact st_2 hb | exact st_3 hb | exact st_4 hb | exact st_5 hb | exact st_o hb2 | exact st_1 hb2 | exact st_2 hb2 | exact st_3 hb2 | exact st_4 hb2 | exact st_5 hb2) rfl rfl (by first | assumption | omega) ?_
    try simp only [pM_1, pM_2, pM_3, pM_4, pM_5, pM_w1, pM_w2, pM_w3, pM_w4, pM_w5, k1, s1]
    refine g_aload0 35 rfl dX12_goBlow_34 ?_
    refine g_getR 38 rfl fX12_19 (by first | rfl | exact st_o hb | exact st_1 hb | exact st_2 hb | exact st_3 hb | exact st_4 hb | exact st_5 hb | exact st_o hb2 | exact st_1 hb2 | exact st_2 hb2 | exact st_3 hb2 | exact st_4 hb2 | exact st_5 hb2) rfl dX12_goBlow_35 ?_
    refine g_iload1 39 rfl dX12_goBlow_38 ?_
    refine g_iald 40 rfl dX12_goBlow_39 (by first | rfl | exact st_o hb | exact st_1 hb | exact st_2 hb | exact st_3 hb | exact st_4 hb | exact st_5 hb | exact st_o hb2 | exact st_1 hb2 | exact st_2 hb2 | exact st_3 hb2 | exact st_4 hb2 | exact st_5 hb2) rfl rfl (by first | assumption | omega) ?_
    try simp only [pM_1, pM_2, pM_3, pM_4, pM_5, pM_w1, pM_w2, pM_w3, pM_w4, pM_w5, k1, s1]
    refine g_bipush 42 rfl (v := 99) dX12_goBlow_40 (by decide) ?_
    rw [es]
    refine g_cmpge 49 45 rfl dX12_goBlow_42 (by decide) (fun h42 => ?_) (fun h42 => ?_)
    · have : u = s := by
        have := (nI_leI (a := 99) (by decide) (by omega)).mp h42
        rw [hu, if_neg (by omega)]; omega
      refine g_iconst 50 rfl (v := 0) dX12_goBlow_49 (by decide) ?_
      refine g_iadd 51 rfl dX12_goBlow_50 ?_
      rw [Int32.add_zero, ← this]
      refine g_iast 52 rfl dX12_goBlow_51 (by first | rfl | exact st_o hb | exact st_1 hb | exact st_2 hb | exact st_3 hb | exact st_4 hb | exact st_5 hb | exact st_o hb2 | exact st_1 hb2 | exact st_2 hb2 | exact st_3 hb2 | exact st_4 hb2 | exact st_5 hb2) rfl rfl (by first | assumption | omega) ?_
      try simp only [pM_1, pM_2, pM_3, pM_4, pM_5, pM_w1, pM_w2, pM_w3, pM_w4, pM_w5, k1, s1]
      rw [← hx2]
      exact rest
    · have : u = s + 1 := by
        have := Nat.lt_of_not_le (fun z => h42 (nI_le (a := 99) z (by omega)))
        rw [hu, if_pos this]
      refine g_iconst 46 rfl (v := 1) dX12_goBlow_45 (by decide) ?_
      refine g_goto 50 dX12_goBlow_46 (by decide) ?_
      refine g_iadd 51 rfl dX12_goBlow_50 ?_
      rw [nI_1, ← this]
      refine g_iast 52 rfl dX12_goBlow_51 (by first | rfl | exact st_o hb | exact st_1 hb | exact st_2 hb | exact st_3 hb | exact st_4 hb | exact st_5 hb | exact st_o hb2 | exact st_1 hb2 | exact st_2 hb2 | exact st_3 hb2 | exact st_4 hb2 | exact st_5 hb2) rfl rfl (by first | assumption | omega) ?_
      try simp only [pM_1, pM_2, pM_3, pM_4, pM_5, pM_w1, pM_w2, pM_w3, pM_w4, pM_w5, k1, s1]
      rw [← hx2]
      exact rest
theorem SI_str {R W n c : Nat} {x : Sx} {w : Int32} (h : SI n x) (hc : c < n) : SI n (strS R W c w x) := by
  intro d hd
  by_cases hk : sK x c = -1 ∨ sK x c = 4
  · have e := str_no (R := R) (W := W) (w := w) hk
    rw [e]
    exact h d hd
  · have hk1 : ¬ sK x c = -1 := fun z => hk (Or.inl z)
    have hk4 : ¬ sK x c = 4 := fun z => hk (Or.inr z)
    obtain ⟨s, hs99, es, h3, h2⟩ := (h c hc).2.1
    rw [str_is hk1 hk4 hs99 es]
    obtain ⟨u, hu⟩ : ∃ u, u = if s < 99 then s + 1 else 99 := ⟨_, rfl⟩
    rw [← hu]
    have hu99 : u ≤ 99 := by rw [hu]; split <;> omega
    have hus : u ≤ s + 1 := by rw [hu]; split <;> omega
    have hx := h d hd
    have hxc := h c hc
    by_cases hdc : d = c
    · subst hdc
      split
      · rename_i hq
        have hu2 : u = 2 := (nI_eq (by omega) (by decide)).mp hq.2
        refine ⟨Or.inr (Or.inr (Or.inr (Or.inl (upd_at _ _ _)))), ⟨u, hu99, upd_at _ _ _, fun z => ?_, fun _ => by omega⟩, ?_⟩
        · exact absurd ((upd_at (sK x) d 2).symm.trans z) (by decide)
        · obtain ⟨j, a, b, c⟩ := hx.2.2
          exact ⟨j, a, b, fun z => absurd ((upd_at (sK x) d 2).symm.trans z) (by decide)⟩
      · rename_i hq3
        split
        · refine ⟨Or.inr (Or.inl (upd_at _ _ _)), ⟨u, hu99, upd_at _ _ _, fun z => ?_, fun z => ?_⟩, ?_⟩
          · exact absurd ((upd_at (sK x) d 0).symm.trans z) (by decide)
          · exact absurd ((upd_at (sK x) d 0).symm.trans z) (by decide)
          · obtain ⟨j, a, b, c⟩ := hx.2.2
            exact ⟨j, a, b, fun z => absurd ((upd_at (sK x) d 0).symm.trans z) (by decide)⟩
        · rename_i hq2
          refine ⟨hx.1, ⟨u, hu99, upd_at _ _ _, fun z => ?_, fun z => ?_⟩, hx.2.2⟩
          · have z : sK x d = 3 := z
            have := h3 z
            by_cases e2 : u = 2
            · exact absurd ⟨z, by rw [e2]; rfl⟩ hq3
            · omega
          · have z : sK x d = 2 := z
            have := h2 z
            by_cases e4 : u = 4
            · exact absurd ⟨z, by rw [e4]; rfl⟩ hq2
            · omega
    · have kk : ∀ v, upd (sK x) c v d = sK x d := fun v => pk_un hdc
      have ss : ∀ v, upd (sS x) c v d = sS x d := fun v => pk_un hdc
      split
      · unfold SIc
        rw [show sK (wK (wS (wH x (upd (sH x) c (sH x c - sinkS R W x c w))) (upd (sS x) c (nI u))) (upd (sK x) c 2)) d = sK x d from kk 2, show sS (wK (wS (wH x (upd (sH x) c (sH x c - sinkS R W x c w))) (upd (sS x) c (nI u))) (upd (sK x) c 2)) d = sS x d from ss _]
        exact hx
      · split
        · unfold SIc
          rw [show sK (wK (wS (wH x (upd (sH x) c (sH x c - sinkS R W x c w))) (upd (sS x) c (nI u))) (upd (sK x) c 0)) d = sK x d from kk 0, show sS (wK (wS (wH x (upd (sH x) c (sH x c - sinkS R W x c w))) (upd (sS x) c (nI u))) (upd (sK x) c 0)) d = sS x d from ss _]
          exact hx
        · unfold SIc
          rw [show sS (wS (wH x (upd (sH x) c (sH x c - sinkS R W x c w))) (upd (sS x) c (nI u))) d = sS x d from ss _]
          exact hx
theorem om_byOrder {l : Launch} {M : Mm} {R W o i : Nat} (hm : Mod M R W) (ho : o < 4) (hi : i < R * W) : Oi GM l mX12_byOrder [.ref 0, .int (nI o), .int (nI i)] M (nI (trn R W o i)) M := by
  have h30 := hm.le
  have hb := hm.b
  have e0 := hm.2.1
  have e1 := hm.2.2
  have hR : 0 < R := by
    rcases Nat.eq_zero_or_pos R with h | h
    · subst h; simp at hi
    · exact h
  have hne : ¬ nI R = 0 := nI_ne0 hR (by omega)
  have hr : nI i - nI i / nI R * nI R = nI (i % R) := pk_rem (by omega) hR (by omega)
  have hd : nI i / nI R = nI (i / R) := pk_div (by omega) hR (by omega)
  have hev : (nI (R * W) + 1) / 2 = nI ((R * W + 1) / 2) := by rw [nI_1, show (2 : Int32) = nI 2 from rfl, pk_div (by omega) (by omega) (by omega)]
  refine ok_of (by decide +kernel) rfl rfl ?_
  refine g_iload1 1 rfl dX12_byOrder_0 ?_
  rcases (show o = 0 ∨ o = 1 ∨ o = 2 ∨ o = 3 by omega) with rfl | rfl | rfl | rfl
  · refine g_tabIn 28 dX12_byOrder_1 (by decide) (by decide) (by rfl) (by decide) ?_
    refine g_iload2 29 rfl dX12_byOrder_28 ?_
    refine g_iret rfl dX12_byOrder_29 ?_
    exact ⟨rfl, rfl⟩
  · refine g_tabIn 30 dX12_byOrder_1 (by decide) (by decide) (by rfl) (by decide) ?_
    refine g_aload0 31 rfl dX12_byOrder_30 ?_
    refine g_callVi 34 0 rfl kX12_140 (by first | rfl | exact st_o hb | exact st_1 hb | exact st_2 hb | exact st_3 hb | exact st_4 hb | exact st_5 hb | exact st_o hb2 | exact st_1 hb2 | exact st_2 hb2 | exact st_3 hb2 | exact st_4 hb2 | exact st_5 hb2) dX12_byOrder_31 ⟨rfl, rfl⟩ (om_cells hm) rfl rfl rfl ?_
    refine g_iconst 35 rfl (v := 1) dX12_byOrder_34 (by decide) ?_
    refine g_isub 36 rfl dX12_byOrder_35 ?_
    refine g_iload2 37 rfl dX12_byOrder_36 ?_
    refine g_isub 38 rfl dX12_byOrder_37 ?_
    refine g_iret rfl dX12_byOrder_38 ?_
    refine ⟨?_, rfl⟩
    rw [show (1 : Int32) = nI 1 from rfl, pk_sub (by omega), pk_sub (by omega)]
    simp [trn]
  · refine g_tabIn 39 dX12_byOrder_1 (by decide) (by decide) (by rfl) (by decide) ?_
    refine g_iload2 40 rfl dX12_byOrder_39 ?_
    refine g_aload0 41 rfl dX12_byOrder_40 ?_
    refine g_getI 44 rfl fX12_125 (by first | rfl | exact st_o hb | exact st_1 hb | exact st_2 hb | exact st_3 hb | exact st_4 hb | exact st_5 hb | exact st_o hb2 | exact st_1 hb2 | exact st_2 hb2 | exact st_3 hb2 | exact st_4 hb2 | exact st_5 hb2) rfl dX12_byOrder_41 ?_
    try simp only [e0, e1]
    refine g_irem 45 rfl dX12_byOrder_44 hne ?_
    rw [hr]
    refine g_aload0 46 rfl dX12_byOrder_45 ?_
    refine g_getI 49 rfl fX12_128 (by first | rfl | exact st_o hb | exact st_1 hb | exact st_2 hb | exact st_3 hb | exact st_4 hb | exact st_5 hb | exact st_o hb2 | exact st_1 hb2 | exact st_2 hb2 | exact st_3 hb2 | exact st_4 hb2 | exact st_5 hb2) rfl dX12_byOrder_46 ?_
    try simp only [e0, e1]
    refine g_imul 50 rfl dX12_byOrder_49 ?_
    refine g_iload2 51 rfl dX12_byOrder_50 ?_
    refine g_aload0 52 rfl dX12_byOrder_51 ?_
    refine g_getI 55 rfl fX12_125 (by first | rfl | exact st_o hb | exact st_1 hb | exact st_2 hb | exact st_3 hb | exact st_4 hb | exact st_5 hb | exact st_o hb2 | exact st_1 hb2 | exact st_2 hb2 | exact st_3 hb2 | exact st_4 hb2 | exact st_5 hb2) rfl dX12_byOrder_52 ?_
    try simp only [e0, e1]
    refine g_idiv 56 rfl dX12_byOrder_55 hne ?_
    refine g_iadd 57 rfl dX12_byOrder_56 ?_
    refine g_iret rfl dX12_byOrder_57 ?_
    refine ⟨?_, rfl⟩
    rw [hd, pk_mul, nI_add]
    simp [trn]
  · refine g_tabOut 58 dX12_byOrder_1 (by decide) (by decide) ?_
    refine g_aload0 59 rfl dX12_byOrder_58 ?_
    refine g_callVi 62 0 rfl kX12_140 (by first | rfl | exact st_o hb | exact st_1 hb | exact st_2 hb | exact st_3 hb | exact st_4 hb | exact st_5 hb | exact st_o hb2 | exact st_1 hb2 | exact st_2 hb2 | exact st_3 hb2 | exact st_4 hb2 | exact st_5 hb2) dX12_byOrder_59 ⟨rfl, rfl⟩ (om_cells hm) rfl rfl rfl ?_
    refine g_iconst 63 rfl (v := 1) dX12_byOrder_62 (by decide) ?_
    refine g_iadd 64 rfl dX12_byOrder_63 ?_
    refine g_iconst 65 rfl (v := 2) dX12_byOrder_64 (by decide) ?_
    refine g_idiv 66 rfl dX12_byOrder_65 (by decide) ?_
    rw [hev]
    refine g_istore3 67 rfl dX12_byOrder_66 rfl rfl ?_
    refine g_iload2 68 rfl dX12_byOrder_67 ?_
    refine g_iload3 69 rfl dX12_byOrder_68 ?_
    refine g_cmpge 78 72 rfl dX12_byOrder_69 (by decide) (fun h69 => ?_) (fun h69 => ?_)
    · have : ¬ i < (R * W + 1) / 2 := fun z => absurd h69 (nI_ge z (by omega))
      refine g_iconst 79 rfl (v := 2) dX12_byOrder_78 (by decide) ?_
      refine g_iload2 80 rfl dX12_byOrder_79 ?_
      refine g_iload3 81 rfl dX12_byOrder_80 ?_
      refine g_isub 82 rfl dX12_byOrder_81 ?_
      refine g_imul 83 rfl dX12_byOrder_82 ?_
      refine g_iconst 84 rfl (v := 1) dX12_byOrder_83 (by decide) ?_
      refine g_iadd 85 rfl dX12_byOrder_84 ?_
      refine g_iret rfl dX12_byOrder_85 ?_
      refine ⟨?_, rfl⟩
      rw [pk_sub (by omega), show (2 : Int32) = nI 2 from rfl, pk_mul, nI_1]
      simp [trn, this]
    · have : i < (R * W + 1) / 2 := Nat.lt_of_not_le (fun z => h69 (nI_le z (by omega)))
      refine g_iconst 73 rfl (v := 2) dX12_byOrder_72 (by decide) ?_
      refine g_iload2 74 rfl dX12_byOrder_73 ?_
      refine g_imul 75 rfl dX12_byOrder_74 ?_
      refine g_goto 85 dX12_byOrder_75 (by decide) ?_
      refine g_iret rfl dX12_byOrder_85 ?_
      refine ⟨?_, rfl⟩
      rw [show (2 : Int32) = nI 2 from rfl, pk_mul]
      simp [trn, this]
/-- a round, as the reference counts it: on from a sum -/
theorem rnd_from {R W o : Nat} {w : Int32} {x : Sx} (a : Int32) : ∀ i, (itN (rndB R W o w) i (x, a)).1 = (itN (rndB R W o w) i (x, 0)).1 ∧ (itN (rndB R W o w) i (x, a)).2 = a + (itN (rndB R W o w) i (x, 0)).2
  | 0 => ⟨rfl, (Int32.add_zero a).symm⟩
  | i + 1 => by
    obtain ⟨h1, h2⟩ := rnd_from (R := R) (W := W) (o := o) (w := w) (x := x) a i
    rw [it4, it4, rndB, rndB, h1, h2]
    exact ⟨rfl, Int32.add_assoc _ _ _⟩
theorem SI_rnd {R W o : Nat} {w : Int32} {x : Sx} (h : SI (R * W) x) : ∀ i, i ≤ R * W → SI (R * W) (itN (rndB R W o w) i (x, 0)).1
  | 0, _ => h
  | i + 1, hi => SI_str (SI_rnd h i (by omega)) (trn_lt (by omega))
theorem SI_rou {R W o : Nat} {w : Int32} {x : Sx} (h : SI (R * W) x) : ∀ k, SI (R * W) (itN (rouB R W o w) k (x, 0)).1
  | 0 => h
  | k + 1 => by rw [it4, rouB]; exact SI_rnd (SI_rou h k) _ (Nat.le_refl _)
theorem sink_sand {R W c : Nat} {x : Sx} {w : Int32} (h : sK x c = -1) : sinkS R W x c w = 0 := by unfold sinkS; rw [if_pos h]
theorem str_sand {R W c : Nat} {x : Sx} {w : Int32} (h : sK x c = -1) : strS R W c w x = wH x (upd (sH x) c (sH x c)) := by rw [str_no (Or.inl h), sink_sand h, Int32.sub_zero]
theorem wH_same {x : Sx} {c : Nat} : wH x (upd (sH x) c (sH x c)) = x := by
  have : upd (sH x) c (sH x c) = sH x := by
    funext k
    unfold upd
    split
    · subst_vars; rfl
    · rfl
  rw [this]
  rfl
theorem om_goRounds {l : Launch} {M : Mm} {R W o k : Nat} {x : Sx} {w : Int32} (hm : Mod M R W) (ho : o < 4) (hk : k < 100) (hs : SI (R * W) x) : Oi GM l mX12_goRounds [.ref 0, .int w, .int (nI k), .int (nI o)] (pM M x) (itN (rouB R W o w) k (x, 0)).2 (pM M (itN (rouB R W o w) k (x, 0)).1) := by
  have h30 := hm.le
  have hm2 : ∀ y, Mod (pM M y) R W := fun y => pM_mod hm
  refine ok_of (by decide +kernel) rfl rfl ?_
  refine g_iconst 1 rfl (v := 0) dX12_goRounds_0 (by decide) ?_
  refine g_istore4 3 rfl dX12_goRounds_1 rfl rfl ?_
  refine g_iconst 4 rfl (v := 0) dX12_goRounds_3 (by decide) ?_
  refine g_istore5 6 rfl dX12_goRounds_4 rfl rfl ?_
  refine loop_up (P := fun i => Go GM l mX12_goRounds 6 [.ref 0, .int w, .int (nI k), .int (nI o), .int (itN (rouB R W o w) i (x, 0)).2, .int (nI i), .null, .null] [] (pM M (itN (rouB R W o w) i (x, 0)).1) _) k ?_ ?_ 0 (by omega)
  · refine g_iload5 8 rfl dX12_goRounds_6 ?_
    refine g_iload2 9 rfl dX12_goRounds_8 ?_
    refine g_cmpge 72 12 rfl dX12_goRounds_9 (by decide) (fun h9 => ?_) (fun h => absurd (Int32.le_refl _) h)
    refine g_iload4 74 rfl dX12_goRounds_72 ?_
    refine g_iret rfl dX12_goRounds_74 ?_
    exact ⟨rfl, rfl⟩
  · intro i hi ih
    have hsi := SI_rou (o := o) (w := w) hs i
    simp only [it4, rouB] at ih
    generalize (itN (rouB R W o w) i (x, 0)).1 = y at hsi ih ⊢
    generalize (itN (rouB R W o w) i (x, 0)).2 = a at ih ⊢
    refine g_iload5 8 rfl dX12_goRounds_6 ?_
    refine g_iload2 9 rfl dX12_goRounds_8 ?_
    refine g_cmpge 72 12 rfl dX12_goRounds_9 (by decide) (fun h => absurd h (nI_ge hi (by omega))) (fun _ => ?_)
    refine g_iconst 13 rfl (v := 0) dX12_goRounds_12 (by decide) ?_
    refine g_istore6 15 rfl dX12_goRounds_13 rfl rfl ?_
    refine loop_up (P := fun j => Go GM l mX12_goRounds 15 [.ref 0, .int w, .int (nI k), .int (nI o), .int (itN (rndB R W o w) j (y, a)).2, .int (nI i), .int (nI j), .null] [] (pM M (itN (rndB R W o w) j (y, 0)).1) _) (R * W) ?_ ?_ 0 (by omega)
    · rw [(rnd_from a (R * W)).2]
      refine g_iload6 17 rfl dX12_goRounds_15 ?_
      refine g_aload0 18 rfl dX12_goRounds_17 ?_
      refine g_callVi 21 0 rfl kX12_140 (by first | rfl | exact st_o hb | exact st_1 hb | exact st_2 hb | exact st_3 hb | exact st_4 hb | exact st_5 hb | exact st_o hb2 | exact st_1 hb2 | exact st_2 hb2 | exact st_3 hb2 | exact st_4 hb2 | exact st_5 hb2) dX12_goRounds_18 ⟨rfl, rfl⟩ (om_cells (hm2 _)) rfl rfl rfl ?_
      refine g_cmpge 66 24 rfl dX12_goRounds_21 (by decide) (fun _ => ?_) (fun h => absurd (Int32.le_refl _) h)
      refine g_iinc5 69 rfl dX12_goRounds_66 rfl rfl _ (by first | exact iinc1 _ | exact iincx _ | rfl) ?_
      refine g_goto 6 dX12_goRounds_69 (by decide) ?_
      refine g_fg 6 ?_
      exact ih
    · intro j hj ih2
      have ht := trn_lt (o := o) hj
      have hsj := SI_rnd (o := o) (w := w) hsi j (by omega)
      have e1 : (itN (rndB R W o w) (j + 1) (y, a)).2 = (itN (rndB R W o w) j (y, a)).2 + sinkS R W (itN (rndB R W o w) j (y, 0)).1 (trn R W o j) w := by rw [it4, rndB, (rnd_from a j).1]
      have e2 : (itN (rndB R W o w) (j + 1) (y, 0)).1 = strS R W (trn R W o j) w (itN (rndB R W o w) j (y, 0)).1 := by rw [it4, rndB]
      rw [e1, e2] at ih2
      generalize (itN (rndB R W o w) j (y, 0)).1 = z at hsj ih2 ⊢
      generalize (itN (rndB R W o w) j (y, a)).2 = b at ih2 ⊢
      refine g_iload6 17 rfl dX12_goRounds_15 ?_
      refine g_aload0 18 rfl dX12_goRounds_17 ?_
      refine g_callVi 21 0 rfl kX12_140 (by first | rfl | exact st_o hb | exact st_1 hb | exact st_2 hb | exact st_3 hb | exact st_4 hb | exact st_5 hb | exact st_o hb2 | exact st_1 hb2 | exact st_2 hb2 | exact st_3 hb2 | exact st_4 hb2 | exact st_5 hb2) dX12_goRounds_18 ⟨rfl, rfl⟩ (om_cells (hm2 _)) rfl rfl rfl ?_
      refine g_cmpge 66 24 rfl dX12_goRounds_21 (by decide) (fun h => absurd h (nI_ge hj (by omega))) (fun _ => ?_)
      refine g_aload0 25 rfl dX12_goRounds_24 ?_
      refine g_iload3 26 rfl dX12_goRounds_25 ?_
      refine g_iload6 28 rfl dX12_goRounds_26 ?_
      refine g_callVi 31 2 rfl kX12_174 (by first | rfl | exact st_o hb | exact st_1 hb | exact st_2 hb | exact st_3 hb | exact st_4 hb | exact st_5 hb | exact st_o hb2 | exact st_1 hb2 | exact st_2 hb2 | exact st_3 hb2 | exact st_4 hb2 | exact st_5 hb2) dX12_goRounds_28 ⟨rfl, rfl⟩ (om_byOrder (hm2 _) ho hj) rfl rfl rfl ?_
      refine g_istore7 33 rfl dX12_goRounds_31 rfl rfl ?_
      refine g_iload4 35 rfl dX12_goRounds_33 ?_
      refine g_aload0 36 rfl dX12_goRounds_35 ?_
      refine g_getR 39 rfl fX12_7 (by first | rfl | exact st_o hb | exact st_1 hb | exact st_2 hb | exact st_3 hb | exact st_4 hb | exact st_5 hb | exact st_o hb2 | exact st_1 hb2 | exact st_2 hb2 | exact st_3 hb2 | exact st_4 hb2 | exact st_5 hb2) rfl dX12_goRounds_36 ?_
      refine g_iload7 41 rfl dX12_goRounds_39 ?_
      refine g_iald 42 rfl dX12_goRounds_41 (by first | rfl | exact st_o hb | exact st_1 hb | exact st_2 hb | exact st_3 hb | exact st_4 hb | exact st_5 hb | exact st_o hb2 | exact st_1 hb2 | exact st_2 hb2 | exact st_3 hb2 | exact st_4 hb2 | exact st_5 hb2) rfl rfl (by first | assumption | omega) ?_
      try simp only [pM_1]
      refine g_iconst 43 rfl (v := (-1)) dX12_goRounds_42 (by decide) ?_
      refine g_cmpne 50 46 rfl dX12_goRounds_43 (by decide) (fun h43 => ?_) (fun h43 => ?_)
      · refine g_aload0 51 rfl dX12_goRounds_50 ?_
        refine g_iload7 53 rfl dX12_goRounds_51 ?_
        refine g_iload1 54 rfl dX12_goRounds_53 ?_
        refine g_callVi 57 2 rfl kX12_171 (by first | rfl | exact st_o hb | exact st_1 hb | exact st_2 hb | exact st_3 hb | exact st_4 hb | exact st_5 hb | exact st_o hb2 | exact st_1 hb2 | exact st_2 hb2 | exact st_3 hb2 | exact st_4 hb2 | exact st_5 hb2) dX12_goRounds_54 ⟨rfl, rfl⟩ (om_goBlow hm ht (hsj _ ht) h43) rfl rfl rfl ?_
        refine g_iadd 58 rfl dX12_goRounds_57 ?_
        refine g_istore4 60 rfl dX12_goRounds_58 rfl rfl ?_
        refine g_iinc6 63 rfl dX12_goRounds_60 rfl rfl _ (by first | exact iinc1 _ | exact iincx _ | rfl) ?_
        refine g_goto 15 dX12_goRounds_63 (by decide) ?_
        refine g_fg 7 ?_
        exact ih2
      · rw [sink_sand h43, str_sand h43, wH_same] at ih2
        refine g_iconst 47 rfl (v := 0) dX12_goRounds_46 (by decide) ?_
        refine g_goto 57 dX12_goRounds_47 (by decide) ?_
        refine g_iadd 58 rfl dX12_goRounds_57 ?_
        refine g_istore4 60 rfl dX12_goRounds_58 rfl rfl ?_
        refine g_iinc6 63 rfl dX12_goRounds_60 rfl rfl _ (by first | exact iinc1 _ | exact iincx _ | rfl) ?_
        refine g_goto 15 dX12_goRounds_63 (by decide) ?_
        refine g_fg 7 ?_
        exact ih2
