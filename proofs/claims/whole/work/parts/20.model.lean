/-! the reference: its cells, its street -/
def GM : Sh := [
  .inr (11, [0, 0, 0, 3, 4, 5, 6, 7, 1, 0, 8, 9, 0, 10, 0, 0, 11, 0, 0, 1, 12, 1, 13, 0, 0, 0, 0, 0, 0, 14, 15, 0, 16, 17, 18, 19, 20, 0, 21, 1]),
  .inl (0, 30), .inl (0, 30), .inl (0, 30), .inl (0, 30), .inl (0, 30),
  .inl (0, 6), .inl (0, 6), .inl (0, 10), .inl (2, 64), .inl (0, 150), .inl (0, 150),
  .inl (0, 30), .inl (0, 30), .inl (0, 6), .inl (0, 6), .inl (0, 30), .inl (0, 30), .inl (0, 30), .inl (0, 8)]
/-- the reference's street -/
def pM (M : Mm) (x : Sx) : Mm := (fun h => if h = 1 then sK x else if h = 2 then sZ x else if h = 3 then sH x else if h = 4 then sS x else if h = 5 then sJ x else M.1 h, fun h k => if h = 0 ∧ k = 8 then (sD x).toInt64 else M.2 h k)
theorem pM_o {M : Mm} {h : Nat} {x : Sx} (h0 : h = 0 ∨ 5 < h) : (pM M x).1 h = M.1 h := by
  have e1 : h ≠ 1 := by omega
  have e2 : h ≠ 2 := by omega
  have e3 : h ≠ 3 := by omega
  have e4 : h ≠ 4 := by omega
  have e5 : h ≠ 5 := by omega
  simp [pM, e1, e2, e3, e4, e5]
theorem pM_1 {M : Mm} {x : Sx} : (pM M x).1 1 = sK x := by simp [pM]
theorem pM_2 {M : Mm} {x : Sx} : (pM M x).1 2 = sZ x := by simp [pM]
theorem pM_3 {M : Mm} {x : Sx} : (pM M x).1 3 = sH x := by simp [pM]
theorem pM_4 {M : Mm} {x : Sx} : (pM M x).1 4 = sS x := by simp [pM]
theorem pM_5 {M : Mm} {x : Sx} : (pM M x).1 5 = sJ x := by simp [pM]
theorem pM_8 {M : Mm} {x : Sx} : (pM M x).2 0 8 = (sD x).toInt64 := by simp [pM]
theorem pM_w1 {M : Mm} {x : Sx} {f : Nat → Int32} : setA (pM M x) 1 f = pM M (wK x f) := by
  refine Prod.ext ?_ rfl
  funext h
  simp only [setA, pM, wK, sK, sZ, sH, sS, sJ, sD]
  repeat' split
  all_goals (first | rfl | (exfalso; omega))
theorem pM_w2 {M : Mm} {x : Sx} {f : Nat → Int32} : setA (pM M x) 2 f = pM M (wZ x f) := by
  refine Prod.ext ?_ rfl
  funext h
  simp only [setA, pM, wZ, sK, sZ, sH, sS, sJ, sD]
  repeat' split
  all_goals (first | rfl | (exfalso; omega))
theorem pM_w3 {M : Mm} {x : Sx} {f : Nat → Int32} : setA (pM M x) 3 f = pM M (wH x f) := by
  refine Prod.ext ?_ rfl
  funext h
  simp only [setA, pM, wH, sK, sZ, sH, sS, sJ, sD]
  repeat' split
  all_goals (first | rfl | (exfalso; omega))
theorem pM_w4 {M : Mm} {x : Sx} {f : Nat → Int32} : setA (pM M x) 4 f = pM M (wS x f) := by
  refine Prod.ext ?_ rfl
  funext h
  simp only [setA, pM, wS, sK, sZ, sH, sS, sJ, sD]
  repeat' split
  all_goals (first | rfl | (exfalso; omega))
theorem pM_w5 {M : Mm} {x : Sx} {f : Nat → Int32} : setA (pM M x) 5 f = pM M (wJ x f) := by
  refine Prod.ext ?_ rfl
  funext h
  simp only [setA, pM, wJ, sK, sZ, sH, sS, sJ, sD]
  repeat' split
  all_goals (first | rfl | (exfalso; omega))
theorem pM_wo {M : Mm} {x : Sx} {h : Nat} {f : Nat → Int32} (h0 : h = 0 ∨ 5 < h) : setA (pM M x) h f = pM (setA M h f) x := by
  refine Prod.ext ?_ rfl
  funext q
  simp only [setA, pM]
  repeat' split
  all_goals (first | rfl | (exfalso; omega))
theorem pM_wL {M : Mm} {x : Sx} {k : Nat} {v : Int64} (hk : k ≠ 8) : setL (pM M x) 0 k v = pM (setL M 0 k v) x := by
  refine Prod.ext rfl ?_
  funext h q
  simp only [setL, pM]
  repeat' split
  all_goals (first | rfl | (exfalso; omega))
theorem pM_w8 {M : Mm} {x : Sx} {d : Int32} : setL (pM M x) 0 8 d.toInt64 = pM M (wD x d) := by
  refine Prod.ext rfl ?_
  funext h k
  simp only [setL, pM, wD, sD]
  split <;> rfl
theorem pM_pM (M : Mm) (x y : Sx) : pM (pM M x) y = pM M y := by
  refine Prod.ext ?_ ?_
  · funext h
    simp only [pM]
    repeat' split
    all_goals rfl
  · funext h k
    simp only [pM]
    split <;> rfl
/-- the street's sizes in the reference -/
def Mod (M : Mm) (R W : Nat) : Prop := RW R W ∧ M.1 0 0 = nI R ∧ M.1 0 1 = nI W
theorem Mod.le {M : Mm} {R W : Nat} (h : Mod M R W) : R * W ≤ 30 := h.1.le
theorem Mod.b {M : Mm} {R W : Nat} (h : Mod M R W) : R ≤ 5 ∧ W ≤ 6 := by rcases h.1 with ⟨rfl, rfl⟩ | ⟨h1, h2, h3, h4⟩ <;> omega
theorem pM_mod {M : Mm} {R W : Nat} {x : Sx} (h : Mod M R W) : Mod (pM M x) R W := by
  unfold Mod
  rw [pM_o (Or.inl rfl)]
  exact h
theorem mod_sA {M : Mm} {R W h : Nat} {f : Nat → Int32} (hm : Mod M R W) (hh : h ≠ 0) : Mod (setA M h f) R W := by
  unfold Mod
  rw [sA_n (Ne.symm hh)]
  exact hm
theorem mod_sL {M : Mm} {R W k : Nat} {v : Int64} (hm : Mod M R W) : Mod (setL M 0 k v) R W := hm
theorem om_within {l : Launch} {M : Mm} {v a b : Int32} : Ok GM l mX12_within [.int v, .int a, .int b] M (qB M (a ≤ v ∧ v ≤ b)) := by
  refine ok_of (by decide +kernel) rfl rfl ?_
  refine g_iload0 1 rfl dX12_within_0 ?_
  refine g_iload1 2 rfl dX12_within_1 ?_
  refine g_cmplt 14 5 rfl dX12_within_2 (by decide) (fun h2 => ?_) (fun h2 => ?_)
  · refine g_iconst 15 rfl (v := 0) dX12_within_14 (by decide) ?_
    refine g_zret rfl dX12_within_15 (by first | exact Or.inl rfl | exact Or.inr rfl | assumption) ?_
    refine ⟨rfl, ?_⟩
    first | exact Or.inl ⟨rfl, Int32.not_lt.mp h2, Int32.not_lt.mp h7⟩ | exact Or.inr ⟨rfl, fun q => absurd h2 (Int32.not_lt.mpr q.1)⟩ | exact Or.inr ⟨rfl, fun q => absurd h7 (Int32.not_lt.mpr q.2)⟩
  · refine g_iload0 6 rfl dX12_within_5 ?_
    refine g_iload2 7 rfl dX12_within_6 ?_
    refine g_cmpgt 14 10 rfl dX12_within_7 (by decide) (fun h7 => ?_) (fun h7 => ?_)
    · refine g_iconst 15 rfl (v := 0) dX12_within_14 (by decide) ?_
      refine g_zret rfl dX12_within_15 (by first | exact Or.inl rfl | exact Or.inr rfl | assumption) ?_
      refine ⟨rfl, ?_⟩
      first | exact Or.inl ⟨rfl, Int32.not_lt.mp h2, Int32.not_lt.mp h7⟩ | exact Or.inr ⟨rfl, fun q => absurd h2 (Int32.not_lt.mpr q.1)⟩ | exact Or.inr ⟨rfl, fun q => absurd h7 (Int32.not_lt.mpr q.2)⟩
    · refine g_iconst 11 rfl (v := 1) dX12_within_10 (by decide) ?_
      refine g_goto 15 dX12_within_11 (by decide) ?_
      refine g_zret rfl dX12_within_15 (by first | exact Or.inl rfl | exact Or.inr rfl | assumption) ?_
      refine ⟨rfl, ?_⟩
      first | exact Or.inl ⟨rfl, Int32.not_lt.mp h2, Int32.not_lt.mp h7⟩ | exact Or.inr ⟨rfl, fun q => absurd h2 (Int32.not_lt.mpr q.1)⟩ | exact Or.inr ⟨rfl, fun q => absurd h7 (Int32.not_lt.mpr q.2)⟩
theorem om_atLeast {l : Launch} {M : Mm} {v : Int32} : Oi GM l mX12_atLeast [.int v] M (if 0 ≤ v then v else 0) M := by
  refine ok_of (by decide +kernel) rfl rfl ?_
  refine g_iload0 1 rfl dX12_atLeast_0 ?_
  refine g_ifge 8 4 rfl dX12_atLeast_1 (by decide) (fun h1 => ?_) (fun h1 => ?_)
  · refine g_iload0 9 rfl dX12_atLeast_8 ?_
    refine g_iret rfl dX12_atLeast_9 ?_
    exact ⟨by simp [h1], rfl⟩
  · refine g_iconst 5 rfl (v := 0) dX12_atLeast_4 (by decide) ?_
    refine g_goto 9 dX12_atLeast_5 (by decide) ?_
    refine g_iret rfl dX12_atLeast_9 ?_
    exact ⟨by simp [h1], rfl⟩
theorem om_kindBy {l : Launch} {M : Mm} {c : Int32} : Oi GM l mX12_kindBy [.int c] M (kndO c) M := by
  refine ok_of (by decide +kernel) rfl rfl ?_
  refine g_iload0 1 rfl dX12_kindBy_0 ?_
  refine g_bipush 3 rfl (v := 115) dX12_kindBy_1 (by decide) ?_
  refine g_cmpne 10 6 rfl dX12_kindBy_3 (by decide) (fun h3 => ?_) (fun h3 => ?_)
  · refine g_iload0 11 rfl dX12_kindBy_10 ?_
    refine g_bipush 13 rfl (v := 111) dX12_kindBy_11 (by decide) ?_
    refine g_cmpne 20 16 rfl dX12_kindBy_13 (by decide) (fun h13 => ?_) (fun h13 => ?_)
    · refine g_iload0 21 rfl dX12_kindBy_20 ?_
      refine g_bipush 23 rfl (v := 108) dX12_kindBy_21 (by decide) ?_
      refine g_cmpne 30 26 rfl dX12_kindBy_23 (by decide) (fun h23 => ?_) (fun h23 => ?_)
      · refine g_iload0 31 rfl dX12_kindBy_30 ?_
        refine g_bipush 33 rfl (v := 116) dX12_kindBy_31 (by decide) ?_
        refine g_cmpne 40 36 rfl dX12_kindBy_33 (by decide) (fun h33 => ?_) (fun h33 => ?_)
        · refine g_iload0 41 rfl dX12_kindBy_40 ?_
          refine g_bipush 43 rfl (v := 107) dX12_kindBy_41 (by decide) ?_
          refine g_cmpne 50 46 rfl dX12_kindBy_43 (by decide) (fun h43 => ?_) (fun h43 => ?_)
          · refine g_iconst 51 rfl (v := (-1)) dX12_kindBy_50 (by decide) ?_
            refine g_iret rfl dX12_kindBy_51 ?_
            exact ⟨by simp [kndO, *], rfl⟩
          · refine g_iconst 47 rfl (v := 4) dX12_kindBy_46 (by decide) ?_
            refine g_goto 51 dX12_kindBy_47 (by decide) ?_
            refine g_iret rfl dX12_kindBy_51 ?_
            exact ⟨by simp [kndO, *], rfl⟩
        · refine g_iconst 37 rfl (v := 3) dX12_kindBy_36 (by decide) ?_
          refine g_goto 51 dX12_kindBy_37 (by decide) ?_
          refine g_iret rfl dX12_kindBy_51 ?_
          exact ⟨by simp [kndO, *], rfl⟩
      · refine g_iconst 27 rfl (v := 2) dX12_kindBy_26 (by decide) ?_
        refine g_goto 51 dX12_kindBy_27 (by decide) ?_
        refine g_iret rfl dX12_kindBy_51 ?_
        exact ⟨by simp [kndO, *], rfl⟩
    · refine g_iconst 17 rfl (v := 1) dX12_kindBy_16 (by decide) ?_
      refine g_goto 51 dX12_kindBy_17 (by decide) ?_
      refine g_iret rfl dX12_kindBy_51 ?_
      exact ⟨by simp [kndO, *], rfl⟩
  · refine g_iconst 7 rfl (v := 0) dX12_kindBy_6 (by decide) ?_
    refine g_goto 51 dX12_kindBy_7 (by decide) ?_
    refine g_iret rfl dX12_kindBy_51 ?_
    exact ⟨by simp [kndO, *], rfl⟩
theorem om_isDigit {l : Launch} {M : Mm} {c : Int32} : Ok GM l mX12_isDigit [.int c] M (qB M (dig c)) := by
  refine ok_of (by decide +kernel) rfl rfl ?_
  refine g_iload0 1 rfl dX12_isDigit_0 ?_
  refine g_bipush 3 rfl (v := 48) dX12_isDigit_1 (by decide) ?_
  refine g_bipush 5 rfl (v := 57) dX12_isDigit_3 (by decide) ?_
  refine g_callS 8 3 rfl kX12_78 dX12_isDigit_5 ⟨rfl, rfl⟩ om_within rfl rfl rfl (fun r M1 hq => ?_)
  obtain ⟨rfl, ⟨rfl, hq⟩ | ⟨rfl, hq⟩⟩ := hq
  try simp only [rV, Option.toList, List.cons_append, List.nil_append]
  · refine g_zret rfl dX12_isDigit_8 (Or.inr rfl) ?_
    exact ⟨rfl, Or.inl ⟨rfl, hq⟩⟩
  · refine g_zret rfl dX12_isDigit_8 (Or.inl rfl) ?_
    exact ⟨rfl, Or.inr ⟨rfl, hq⟩⟩
theorem om_cells {l : Launch} {M : Mm} {R W : Nat} (hm : Mod M R W) : Oi GM l mX12_cells [.ref 0] M (nI (R * W)) M := by
  have e0 := hm.2.1
  have e1 := hm.2.2
  refine ok_of (by decide +kernel) rfl rfl ?_
  refine g_aload0 1 rfl dX12_cells_0 ?_
  refine g_getI 4 rfl fX12_125 (by first | rfl | exact st_o hb | exact st_1 hb | exact st_2 hb | exact st_3 hb | exact st_4 hb | exact st_5 hb | exact st_o hb2 | exact st_1 hb2 | exact st_2 hb2 | exact st_3 hb2 | exact st_4 hb2 | exact st_5 hb2) rfl dX12_cells_1 ?_
  refine g_aload0 5 rfl dX12_cells_4 ?_
  refine g_getI 8 rfl fX12_128 (by first | rfl | exact st_o hb | exact st_1 hb | exact st_2 hb | exact st_3 hb | exact st_4 hb | exact st_5 hb | exact st_o hb2 | exact st_1 hb2 | exact st_2 hb2 | exact st_3 hb2 | exact st_4 hb2 | exact st_5 hb2) rfl dX12_cells_5 ?_
  refine g_imul 9 rfl dX12_cells_8 ?_
  refine g_iret rfl dX12_cells_9 ?_
  exact ⟨by rw [e0, e1, pk_mul], rfl⟩
theorem wi_in {n : Nat} {a : Int32} (hn : n < 2 ^ 31) : (0 ≤ a ∧ a ≤ nI n - 1) ↔ vp_in a n := by
  rw [vp_in_iff, Int32.le_iff_toInt_le, Int32.le_iff_toInt_le, tI0]
  cases n with
  | zero =>
    have : (nI 0 - 1 : Int32).toInt = -1 := by decide
    omega
  | succ n =>
    rw [nI_pred, nI_toInt (by omega)]
    omega
theorem om_isCell {l : Launch} {M : Mm} {R W : Nat} {a : Int32} (hm : Mod M R W) : Ok GM l mX12_isCell [.ref 0, .int a] M (qB M (vp_in a (R * W))) := by
  have h30 := hm.le
  refine ok_of (by decide +kernel) rfl rfl ?_
  refine g_iload1 1 rfl dX12_isCell_0 ?_
  refine g_iconst 2 rfl (v := 0) dX12_isCell_1 (by decide) ?_
  refine g_aload0 3 rfl dX12_isCell_2 ?_
  refine g_callVi 6 0 rfl kX12_140 (by first | rfl | exact st_o hb | exact st_1 hb | exact st_2 hb | exact st_3 hb | exact st_4 hb | exact st_5 hb | exact st_o hb2 | exact st_1 hb2 | exact st_2 hb2 | exact st_3 hb2 | exact st_4 hb2 | exact st_5 hb2) dX12_isCell_3 ⟨rfl, rfl⟩ (om_cells hm) rfl rfl rfl ?_
  refine g_iconst 7 rfl (v := 1) dX12_isCell_6 (by decide) ?_
  refine g_isub 8 rfl dX12_isCell_7 ?_
  refine g_callS 11 3 rfl kX12_78 dX12_isCell_8 ⟨rfl, rfl⟩ om_within rfl rfl rfl (fun r M1 hq => ?_)
  obtain ⟨rfl, ⟨rfl, hq⟩ | ⟨rfl, hq⟩⟩ := hq
  try simp only [rV, Option.toList, List.cons_append, List.nil_append]
  · refine g_zret rfl dX12_isCell_11 (Or.inr rfl) ?_
    exact ⟨rfl, Or.inl ⟨rfl, (wi_in (by omega)).mp hq⟩⟩
  · refine g_zret rfl dX12_isCell_11 (Or.inl rfl) ?_
    exact ⟨rfl, Or.inr ⟨rfl, fun z => hq ((wi_in (by omega)).mpr z)⟩⟩
theorem om_isRow {l : Launch} {M : Mm} {R W : Nat} {a : Int32} (hm : Mod M R W) : Ok GM l mX12_isRow [.ref 0, .int a] M (qB M (vp_in a R)) := by
  have hb := hm.b
  have e0 := hm.2.1
  refine ok_of (by decide +kernel) rfl rfl ?_
  refine g_iload1 1 rfl dX12_isRow_0 ?_
  refine g_iconst 2 rfl (v := 0) dX12_isRow_1 (by decide) ?_
  refine g_aload0 3 rfl dX12_isRow_2 ?_
  refine g_getI 6 rfl fX12_125 (by first | rfl | exact st_o hb | exact st_1 hb | exact st_2 hb | exact st_3 hb | exact st_4 hb | exact st_5 hb | exact st_o hb2 | exact st_1 hb2 | exact st_2 hb2 | exact st_3 hb2 | exact st_4 hb2 | exact st_5 hb2) rfl dX12_isRow_3 ?_
  try simp only [e0]
  refine g_iconst 7 rfl (v := 1) dX12_isRow_6 (by decide) ?_
  refine g_isub 8 rfl dX12_isRow_7 ?_
  refine g_callS 11 3 rfl kX12_78 dX12_isRow_8 ⟨rfl, rfl⟩ om_within rfl rfl rfl (fun r M1 hq => ?_)
  obtain ⟨rfl, ⟨rfl, hq⟩ | ⟨rfl, hq⟩⟩ := hq
  try simp only [rV, Option.toList, List.cons_append, List.nil_append]
  · refine g_zret rfl dX12_isRow_11 (Or.inr rfl) ?_
    exact ⟨rfl, Or.inl ⟨rfl, (wi_in (by omega)).mp hq⟩⟩
  · refine g_zret rfl dX12_isRow_11 (Or.inl rfl) ?_
    exact ⟨rfl, Or.inr ⟨rfl, fun z => hq ((wi_in (by omega)).mpr z)⟩⟩
theorem om_isStone {l : Launch} {M : Mm} {R W : Nat} {a : Int32} (hm : Mod M R W) : Ok GM l mX12_isStone [.ref 0, .int a] M (qB M (vp_in a (R * W) ∧ ¬ M.1 1 (ce a) = -1)) := by
  have h30 := hm.le
  refine ok_of (by decide +kernel) rfl rfl ?_
  refine g_aload0 1 rfl dX12_isStone_0 ?_
  refine g_iload1 2 rfl dX12_isStone_1 ?_
  refine g_callV 5 1 rfl kX12_144 (by first | rfl | exact st_o hb | exact st_1 hb | exact st_2 hb | exact st_3 hb | exact st_4 hb | exact st_5 hb | exact st_o hb2 | exact st_1 hb2 | exact st_2 hb2 | exact st_3 hb2 | exact st_4 hb2 | exact st_5 hb2) dX12_isStone_2 ⟨rfl, rfl⟩ (om_isCell hm) rfl rfl rfl (fun r M1 hq => ?_)
  obtain ⟨rfl, ⟨rfl, hq⟩ | ⟨rfl, hq⟩⟩ := hq
  try simp only [rV, Option.toList, List.cons_append, List.nil_append]
  · obtain ⟨c, hc, rfl⟩ := vp_in_of hq (by omega)
    have ec : ce (nI c) = c := ce_nI (by omega)
    refine g_ifeq 22 8 rfl dX12_isStone_5 (by decide) (fun h => absurd h (by decide)) (fun _ => ?_)
    refine g_aload0 9 rfl dX12_isStone_8 ?_
    refine g_getR 12 rfl fX12_7 (by first | rfl | exact st_o hb | exact st_1 hb | exact st_2 hb | exact st_3 hb | exact st_4 hb | exact st_5 hb | exact st_o hb2 | exact st_1 hb2 | exact st_2 hb2 | exact st_3 hb2 | exact st_4 hb2 | exact st_5 hb2) rfl dX12_isStone_9 ?_
    refine g_iload1 13 rfl dX12_isStone_12 ?_
    refine g_iald 14 rfl dX12_isStone_13 (by first | rfl | exact st_o hb | exact st_1 hb | exact st_2 hb | exact st_3 hb | exact st_4 hb | exact st_5 hb | exact st_o hb2 | exact st_1 hb2 | exact st_2 hb2 | exact st_3 hb2 | exact st_4 hb2 | exact st_5 hb2) rfl rfl (by first | assumption | omega) ?_
    refine g_iconst 15 rfl (v := (-1)) dX12_isStone_14 (by decide) ?_
    refine g_cmpeq 22 18 rfl dX12_isStone_15 (by decide) (fun h15 => ?_) (fun h15 => ?_)
    · refine g_iconst 23 rfl (v := 0) dX12_isStone_22 (by decide) ?_
      refine g_zret rfl dX12_isStone_23 (by first | exact Or.inl rfl | exact Or.inr rfl | assumption) ?_
      refine ⟨rfl, ?_⟩
      rw [ec]
      first | exact Or.inl ⟨rfl, hq, h15⟩ | exact Or.inr ⟨rfl, fun q => q.2 h15⟩
    · refine g_iconst 19 rfl (v := 1) dX12_isStone_18 (by decide) ?_
      refine g_goto 23 dX12_isStone_19 (by decide) ?_
      refine g_zret rfl dX12_isStone_23 (by first | exact Or.inl rfl | exact Or.inr rfl | assumption) ?_
      refine ⟨rfl, ?_⟩
      rw [ec]
      first | exact Or.inl ⟨rfl, hq, h15⟩ | exact Or.inr ⟨rfl, fun q => q.2 h15⟩
  · refine g_ifeq 22 8 rfl dX12_isStone_5 (by decide) (fun _ => ?_) (fun h => absurd rfl h)
    refine g_iconst 23 rfl (v := 0) dX12_isStone_22 (by decide) ?_
    refine g_zret rfl dX12_isStone_23 (by first | exact Or.inl rfl | exact Or.inr rfl | assumption) ?_
    exact ⟨rfl, Or.inr ⟨rfl, fun q => hq q.1⟩⟩
