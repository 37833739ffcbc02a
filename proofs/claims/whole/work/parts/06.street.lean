/-! the class's Street -/
def gripK (k : Int32) : Int32 := if k = 0 then 2 else if k = 1 then 1 else if k = 4 then 3 else 0
theorem gripK_out {k : Int32} (h : k.toInt < 0 ∨ 4 < k.toInt) : gripK k = 0 := by
  unfold gripK
  split
  · subst_vars; exact absurd h (by decide)
  · split
    · subst_vars; exact absurd h (by decide)
    · split
      · subst_vars; exact absurd h (by decide)
      · rfl
theorem ok_X7_grip {l : Launch} {M : Mm} {b c : Nat} {x : Sx} (hb : isSt b) (hc : c < 30) : Oi GC l mX7_grip [.ref b, .int (nI c)] (pC M b x) (gripK (sK x c)) (pC M b x) := by
  refine ok_of (by decide +kernel) rfl rfl ?_
  refine g_aload0 1 rfl dX7_grip_0 ?_
  refine g_getR 4 rfl fX7_9 (by first | rfl | exact st_o hb | exact st_1 hb | exact st_2 hb | exact st_3 hb | exact st_4 hb | exact st_5 hb | exact st_o hb2 | exact st_1 hb2 | exact st_2 hb2 | exact st_3 hb2 | exact st_4 hb2 | exact st_5 hb2) rfl dX7_grip_1 ?_
  refine g_iload1 5 rfl dX7_grip_4 ?_
  refine g_iald 6 rfl dX7_grip_5 (by first | rfl | exact st_o hb | exact st_1 hb | exact st_2 hb | exact st_3 hb | exact st_4 hb | exact st_5 hb | exact st_o hb2 | exact st_1 hb2 | exact st_2 hb2 | exact st_3 hb2 | exact st_4 hb2 | exact st_5 hb2) rfl rfl (by first | assumption | omega) ?_
  try simp only [pC_1, pC_2, pC_3, pC_4, pC_5, pC_6, pC_7, set_1, set_2, set_3, set_4, set_5, set_6, set_7]
  refine g_tab5 0 1 2 3 4 46 40 42 46 46 44 dX7_grip_6 (by decide) (by decide) (by decide) (by decide) (by decide) (by decide) (by decide) (by decide) (by decide) (by decide) (by decide) (by decide) (fun h6 => ?_) (fun h6 => ?_) (fun h6 => ?_) (fun h6 => ?_) (fun h6 => ?_) (fun h6 => ?_)
  · refine g_iconst 47 rfl (v := 0) dX7_grip_46 (by decide) ?_
    refine g_iret rfl dX7_grip_47 ?_
    exact ⟨by first | rw [gripK_out h6] | (rw [h6]; rfl), rfl⟩
  · refine g_iconst 41 rfl (v := 2) dX7_grip_40 (by decide) ?_
    refine g_iret rfl dX7_grip_41 ?_
    exact ⟨by first | rw [gripK_out h6] | (rw [h6]; rfl), rfl⟩
  · refine g_iconst 43 rfl (v := 1) dX7_grip_42 (by decide) ?_
    refine g_iret rfl dX7_grip_43 ?_
    exact ⟨by first | rw [gripK_out h6] | (rw [h6]; rfl), rfl⟩
  · refine g_iconst 47 rfl (v := 0) dX7_grip_46 (by decide) ?_
    refine g_iret rfl dX7_grip_47 ?_
    exact ⟨by first | rw [gripK_out h6] | (rw [h6]; rfl), rfl⟩
  · refine g_iconst 47 rfl (v := 0) dX7_grip_46 (by decide) ?_
    refine g_iret rfl dX7_grip_47 ?_
    exact ⟨by first | rw [gripK_out h6] | (rw [h6]; rfl), rfl⟩
  · refine g_iconst 45 rfl (v := 3) dX7_grip_44 (by decide) ?_
    refine g_iret rfl dX7_grip_45 ?_
    exact ⟨by first | rw [gripK_out h6] | (rw [h6]; rfl), rfl⟩
def gO (K : Nat → Int32) (o : Option Nat) : Int32 := match o with
  | none => 0
  | some k => gripK (K k)
def holdN (K J : Nat → Int32) (R W c : Nat) : Nat → Int32
  | 0 => J c
  | s + 1 => holdN K J R W c s + gO K (nb R W c s)
def holdS (R W : Nat) (x : Sx) (c : Nat) : Int32 := holdN (sK x) (sJ x) R W c 4
theorem nI_ne_m1 {k : Nat} (h : k < 2 ^ 31) : ¬ nI k = -1 := by
  intro e
  have := congrArg Int32.toInt e
  rw [nI_toInt h] at this
  have h2 : (-1 : Int32).toInt = -1 := by decide
  omega
theorem ok_X7_hold {l : Launch} {M : Mm} {R W b c : Nat} {x : Sx} (hb : isSt b) (hp : Plan M R W) (hc : c < R * W) : Oi GC l mX7_hold [.ref b, .int (nI c)] (pC M b x) (holdS R W x c) (pC M b x) := by
  have h30 := hp.1.le
  have hp := pC_plan (x := x) hb hp
  refine ok_of (by decide +kernel) rfl rfl ?_
  refine g_aload0 1 rfl dX7_hold_0 ?_
  refine g_getR 4 rfl fX7_24 (by first | rfl | exact st_o hb | exact st_1 hb | exact st_2 hb | exact st_3 hb | exact st_4 hb | exact st_5 hb | exact st_o hb2 | exact st_1 hb2 | exact st_2 hb2 | exact st_3 hb2 | exact st_4 hb2 | exact st_5 hb2) rfl dX7_hold_1 ?_
  refine g_iload1 5 rfl dX7_hold_4 ?_
  refine g_iald 6 rfl dX7_hold_5 (by first | rfl | exact st_o hb | exact st_1 hb | exact st_2 hb | exact st_3 hb | exact st_4 hb | exact st_5 hb | exact st_o hb2 | exact st_1 hb2 | exact st_2 hb2 | exact st_3 hb2 | exact st_4 hb2 | exact st_5 hb2) rfl rfl (by first | assumption | omega) ?_
  try simp only [pC_1, pC_2, pC_3, pC_4, pC_5, pC_6, pC_7, set_1, set_2, set_3, set_4, set_5, set_6, set_7]
  refine g_istore2 7 rfl dX7_hold_6 rfl rfl ?_
  refine g_iconst 8 rfl (v := 0) dX7_hold_7 (by decide) ?_
  refine g_istore3 9 rfl dX7_hold_8 rfl rfl ?_
  refine loop_up (P := fun i => Go GC l mX7_hold 9 [.ref b, .int (nI c), .int (holdN (sK x) (sJ x) R W c i), .int (nI i), .null] [] (pC M b x) _) 4 ?_ ?_ 0 (by omega)
  · refine g_iload3 10 rfl dX7_hold_9 ?_
    refine g_iconst 11 rfl (v := 4) dX7_hold_10 (by decide) ?_
    refine g_cmpge 46 14 rfl dX7_hold_11 (by decide) (fun h => ?_) (fun h => absurd (by decide) h)
    refine g_iload2 47 rfl dX7_hold_46 ?_
    refine g_iret rfl dX7_hold_47 ?_
    exact ⟨rfl, rfl⟩
  · intro i hi ih
    refine g_iload3 10 rfl dX7_hold_9 ?_
    refine g_iconst 11 rfl (v := 4) dX7_hold_10 (by decide) ?_
    refine g_cmpge 46 14 rfl dX7_hold_11 (by decide) (fun h => absurd h (nI_ge hi (by decide))) (fun _ => ?_)
    refine g_aload0 15 rfl dX7_hold_14 ?_
    refine g_getR 18 rfl fX7_34 (by first | rfl | exact st_o hb | exact st_1 hb | exact st_2 hb | exact st_3 hb | exact st_4 hb | exact st_5 hb | exact st_o hb2 | exact st_1 hb2 | exact st_2 hb2 | exact st_3 hb2 | exact st_4 hb2 | exact st_5 hb2) rfl dX7_hold_15 ?_
    refine g_iload1 19 rfl dX7_hold_18 ?_
    refine g_iload3 20 rfl dX7_hold_19 ?_
    refine g_callVi 23 2 rfl kX7_51 (by first | rfl | exact st_o hb | exact st_1 hb | exact st_2 hb | exact st_3 hb | exact st_4 hb | exact st_5 hb | exact st_o hb2 | exact st_1 hb2 | exact st_2 hb2 | exact st_3 hb2 | exact st_4 hb2 | exact st_5 hb2) dX7_hold_20 ⟨rfl, rfl⟩ (ok_X4_beside hp hc (by assumption)) rfl rfl rfl ?_
    refine g_istore4 25 rfl dX7_hold_23 rfl rfl ?_
    refine g_iload4 27 rfl dX7_hold_25 ?_
    cases hk : nb R W c i with
    | none =>
      refine g_iconst 28 rfl (v := (-1)) dX7_hold_27 (by decide) ?_
      refine g_cmpeq 40 31 rfl dX7_hold_28 (by decide) (fun _ => ?_) (fun h => absurd rfl h)
      refine g_iinc3 43 rfl dX7_hold_40 rfl rfl _ (by first | exact iinc1 _ | exact iincx _ | rfl) ?_
      refine g_goto 9 dX7_hold_43 (by decide) ?_
      refine g_fg 4 ?_
      have e : holdN (sK x) (sJ x) R W c (i + 1) = holdN (sK x) (sJ x) R W c i := by rw [holdN, hk]; exact Int32.add_zero _
      rw [e] at ih
      exact ih
    | some k =>
      have hk2 := nb_lt hc hk
      refine g_iconst 28 rfl (v := (-1)) dX7_hold_27 (by decide) ?_
      refine g_cmpeq 40 31 rfl dX7_hold_28 (by decide) (fun h => absurd h (nI_ne_m1 (by omega))) (fun _ => ?_)
      refine g_iload2 32 rfl dX7_hold_31 ?_
      refine g_aload0 33 rfl dX7_hold_32 ?_
      refine g_iload4 35 rfl dX7_hold_33 ?_
      refine g_callVi 38 1 rfl kX7_55 (by first | rfl | exact st_o hb | exact st_1 hb | exact st_2 hb | exact st_3 hb | exact st_4 hb | exact st_5 hb | exact st_o hb2 | exact st_1 hb2 | exact st_2 hb2 | exact st_3 hb2 | exact st_4 hb2 | exact st_5 hb2) dX7_hold_35 ⟨rfl, rfl⟩ (ok_X7_grip hb (by omega)) rfl rfl rfl ?_
      refine g_iadd 39 rfl dX7_hold_38 ?_
      refine g_istore2 40 rfl dX7_hold_39 rfl rfl ?_
      refine g_iinc3 43 rfl dX7_hold_40 rfl rfl _ (by first | exact iinc1 _ | exact iincx _ | rfl) ?_
      refine g_goto 9 dX7_hold_43 (by decide) ?_
      refine g_fg 4 ?_
      have e : holdN (sK x) (sJ x) R W c (i + 1) = holdN (sK x) (sJ x) R W c i + gripK (sK x k) := by rw [holdN, hk]; rfl
      rw [e] at ih
      exact ih
