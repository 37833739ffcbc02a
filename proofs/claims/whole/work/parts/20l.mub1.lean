/-! the reference's calls: cells, ramming -/
theorem mub_blank {l : Launch} {M : Mm} {g : Sg} (h : MS g M) : Ok GM l mX12_blank [.ref 0] M (qM (fBlank g)) := by
  obtain ⟨N, x, rfl, hx, hr⟩ := h
  refine ok_of (by decide +kernel) rfl rfl ?_
  refine g_aload0 1 rfl dX12_blank_0 ?_
  refine g_getI 4 rfl fX12_74 (by first | rfl | exact st_o hb | exact st_1 hb | exact st_2 hb | exact st_3 hb | exact st_4 hb | exact st_5 hb | exact st_o hb2 | exact st_1 hb2 | exact st_2 hb2 | exact st_3 hb2 | exact st_4 hb2 | exact st_5 hb2) rfl dX12_blank_1 ?_
  try simp only [pM_0, pM_w0]
  refine g_istore1 5 rfl dX12_blank_4 rfl rfl ?_
  refine g_aload0 6 rfl dX12_blank_5 ?_
  refine g_iconst 7 rfl (v := 0) dX12_blank_6 (by decide) ?_
  refine g_putI 10 rfl fX12_74 (by first | rfl | exact st_o hb | exact st_1 hb | exact st_2 hb | exact st_3 hb | exact st_4 hb | exact st_5 hb | exact st_o hb2 | exact st_1 hb2 | exact st_2 hb2 | exact st_3 hb2 | exact st_4 hb2 | exact st_5 hb2) rfl dX12_blank_7 ?_
  try simp only [pM_0, pM_w0]
  refine g_iload1 11 rfl dX12_blank_10 ?_
  refine g_iret rfl dX12_blank_11 ?_
  refine ⟨by rw [hr.2.1.2.1]; rfl, _, x, rfl, hx, hr.pg (by decide) (by rw [sA_s, upd_at]; rfl) (fun i hi => absurd hi (by omega)) (fun k _ h2 => by rw [sA_s, pk_un h2]) (fun q h1 _ _ => sA_n (by omega)) rfl⟩
theorem mub_cart {l : Launch} {M : Mm} {g : Sg} {a q : Int32} (h : MS g M) : Ok GM l mX12_cart [.ref 0, .int a, .int q] M (qM (fCart g a q)) := by
  obtain ⟨N, x, rfl, hx, hr⟩ := h
  have h6 := hr.k.1
  have e9 := hr.k.2.1
  refine ok_of (by decide +kernel) rfl rfl ?_
  refine g_iload1 1 rfl dX12_cart_0 ?_
  refine g_iconst 2 rfl (v := 0) dX12_cart_1 (by decide) ?_
  refine g_aload0 3 rfl dX12_cart_2 ?_
  refine g_getI 6 rfl fX12_134 (by first | rfl | exact st_o hb | exact st_1 hb | exact st_2 hb | exact st_3 hb | exact st_4 hb | exact st_5 hb | exact st_o hb2 | exact st_1 hb2 | exact st_2 hb2 | exact st_3 hb2 | exact st_4 hb2 | exact st_5 hb2) rfl dX12_cart_3 ?_
  try simp only [pM_0, e9]
  refine g_iconst 7 rfl (v := 1) dX12_cart_6 (by decide) ?_
  refine g_isub 8 rfl dX12_cart_7 ?_
  refine g_callS 11 3 rfl kX12_78 dX12_cart_8 ⟨rfl, rfl⟩ om_within rfl rfl rfl (fun r M1 hq => ?_)
  obtain ⟨rfl, ⟨rfl, hq⟩ | ⟨rfl, hq⟩⟩ := hq
  try simp only [rV, Option.toList, List.cons_append, List.nil_append]
  · have hq := (wi_in (by omega)).mp hq
    obtain ⟨c, hc, rfl⟩ := vp_in_of hq (by omega)
    have ec : ce (nI c) = c := ce_nI (by omega)
    refine g_ifne 19 14 rfl dX12_cart_11 (by decide) (fun _ => ?_) (fun h => absurd h (by decide))
    refine g_iload2 20 rfl dX12_cart_19 ?_
    refine g_iconst 21 rfl (v := 0) dX12_cart_20 (by decide) ?_
    refine g_iconst 22 rfl (v := 1) dX12_cart_21 (by decide) ?_
    refine g_callS 25 3 rfl kX12_78 dX12_cart_22 ⟨rfl, rfl⟩ om_within rfl rfl rfl (fun r M1 hq => ?_)
    obtain ⟨rfl, ⟨rfl, hw⟩ | ⟨rfl, hw⟩⟩ := hq
    try simp only [rV, Option.toList, List.cons_append, List.nil_append]
    · refine g_ifeq 37 28 rfl dX12_cart_25 (by decide) (fun h => absurd h (by decide)) (fun _ => ?_)
      refine g_aload0 29 rfl dX12_cart_28 ?_
      refine g_iload1 30 rfl dX12_cart_29 ?_
      refine g_iload2 31 rfl dX12_cart_30 ?_
      refine g_callVi 34 2 rfl kX12_137 (by first | rfl | exact st_o hb | exact st_1 hb | exact st_2 hb | exact st_3 hb | exact st_4 hb | exact st_5 hb | exact st_o hb2 | exact st_1 hb2 | exact st_2 hb2 | exact st_3 hb2 | exact st_4 hb2 | exact st_5 hb2) dX12_cart_31 ⟨rfl, rfl⟩ (om_cartNow hr hc) rfl rfl rfl ?_
      refine g_goto 39 dX12_cart_34 (by decide) ?_
      refine g_iret rfl dX12_cart_39 ?_
      refine ⟨?_, N, x, rfl, hx, hr⟩
      rw [fCart, ifC_t hq, ec]
      rcases q01.mp hw with rfl | rfl
      · rw [ifC_t rfl, if_pos rfl]
      · rw [ifC_f (by decide), ifC_t rfl, if_neg (by decide)]
    · refine g_ifeq 37 28 rfl dX12_cart_25 (by decide) (fun _ => ?_) (fun h => absurd rfl h)
      refine g_bipush 39 rfl (v := (-102)) dX12_cart_37 (by decide) ?_
      refine g_iret rfl dX12_cart_39 ?_
      refine ⟨?_, N, x, rfl, hx, hr⟩
      rw [fCart, ifC_t hq, ifC_f (fun z => hw (q01.mpr (Or.inl z))), ifC_f (fun z => hw (q01.mpr (Or.inr z)))]
  · have hq : ¬ vp_in a (gK g).1 := fun z => hq ((wi_in (by omega)).mpr z)
    refine g_ifne 19 14 rfl dX12_cart_11 (by decide) (fun h => absurd rfl h) (fun _ => ?_)
    refine g_bipush 16 rfl (v := (-101)) dX12_cart_14 (by decide) ?_
    refine g_goto 39 dX12_cart_16 (by decide) ?_
    refine g_iret rfl dX12_cart_39 ?_
    exact ⟨by rw [fCart, ifC_f hq], N, x, rfl, hx, hr⟩
theorem mub_cell {l : Launch} {M : Mm} {g : Sg} {a q : Int32} (h : MS g M) : Ok GM l mX12_cell [.ref 0, .int a, .int q] M (qM (fCell g a q)) := by
  obtain ⟨N, x, rfl, hx, hr⟩ := h
  have h30 := hr.m.le
  refine ok_of (by decide +kernel) rfl rfl ?_
  refine g_aload0 1 rfl dX12_cell_0 ?_
  refine g_iload1 2 rfl dX12_cell_1 ?_
  refine g_callV 5 1 rfl kX12_144 (by first | rfl | exact st_o hb | exact st_1 hb | exact st_2 hb | exact st_3 hb | exact st_4 hb | exact st_5 hb | exact st_o hb2 | exact st_1 hb2 | exact st_2 hb2 | exact st_3 hb2 | exact st_4 hb2 | exact st_5 hb2) dX12_cell_2 ⟨rfl, rfl⟩ (om_isCell (pM_mod hr.m)) rfl rfl rfl (fun r M1 hq => ?_)
  obtain ⟨rfl, ⟨rfl, hq⟩ | ⟨rfl, hq⟩⟩ := hq
  try simp only [rV, Option.toList, List.cons_append, List.nil_append]
  · obtain ⟨c, hc, rfl⟩ := vp_in_of hq (by omega)
    have ec : ce (nI c) = c := ce_nI (by omega)
    refine g_ifne 14 8 rfl dX12_cell_5 (by decide) (fun _ => ?_) (fun h => absurd h (by decide))
    refine g_iload2 15 rfl dX12_cell_14 ?_
    refine g_iconst 16 rfl (v := 0) dX12_cell_15 (by decide) ?_
    refine g_iconst 17 rfl (v := 5) dX12_cell_16 (by decide) ?_
    refine g_callS 20 3 rfl kX12_78 dX12_cell_17 ⟨rfl, rfl⟩ om_within rfl rfl rfl (fun r M1 hq => ?_)
    obtain ⟨rfl, ⟨rfl, hw⟩ | ⟨rfl, hw⟩⟩ := hq
    try simp only [rV, Option.toList, List.cons_append, List.nil_append]
    · refine g_ifeq 32 23 rfl dX12_cell_20 (by decide) (fun h => absurd h (by decide)) (fun _ => ?_)
      refine g_aload0 24 rfl dX12_cell_23 ?_
      refine g_iload1 25 rfl dX12_cell_24 ?_
      refine g_iload2 26 rfl dX12_cell_25 ?_
      refine g_callVi 29 2 rfl kX12_156 (by first | rfl | exact st_o hb | exact st_1 hb | exact st_2 hb | exact st_3 hb | exact st_4 hb | exact st_5 hb | exact st_o hb2 | exact st_1 hb2 | exact st_2 hb2 | exact st_3 hb2 | exact st_4 hb2 | exact st_5 hb2) dX12_cell_26 ⟨rfl, rfl⟩ (om_cellNow hr.m hc (wi6.mp hw)) rfl rfl rfl ?_
      refine g_goto 35 dX12_cell_29 (by decide) ?_
      refine g_iret rfl dX12_cell_35 ?_
      exact ⟨by rw [fCell, ifC_t hq, ec, telS_E hx hc], N, x, rfl, hx, hr⟩
    · refine g_ifeq 32 23 rfl dX12_cell_20 (by decide) (fun _ => ?_) (fun h => absurd rfl h)
      refine g_sipush 35 rfl (v := (-1002)) dX12_cell_32 (by decide) ?_
      refine g_iret rfl dX12_cell_35 ?_
      have hw2 : q.toInt < 0 ∨ 5 < q.toInt := by
        rw [wi6, vp_in_iff] at hw
        omega
      exact ⟨by rw [fCell, ifC_t hq, telS_out hw2], N, x, rfl, hx, hr⟩
  · refine g_ifne 14 8 rfl dX12_cell_5 (by decide) (fun h => absurd rfl h) (fun _ => ?_)
    refine g_sipush 11 rfl (v := (-1001)) dX12_cell_8 (by decide) ?_
    refine g_goto 35 dX12_cell_11 (by decide) ?_
    refine g_iret rfl dX12_cell_35 ?_
    exact ⟨by rw [fCell, ifC_f hq], N, x, rfl, hx, hr⟩
theorem iso0 {x : Sx} {c : Nat} {k : Int32} : isoS x c k = 0 ↔ ¬ (¬ sK x c = -1 ∧ (k = 0 ∨ sK x c = k ∨ (sK x c = 3 ∧ k = 2))) := zB_1
theorem mub_as {l : Launch} {M : Mm} {g : Sg} {a q : Int32} (h : MS g M) : Ok GM l mX12_as [.ref 0, .int a, .int q] M (qM (fAs g a q)) := by
  obtain ⟨N, x, rfl, hx, hr⟩ := h
  have h30 := hr.m.le
  refine ok_of (by decide +kernel) rfl rfl ?_
  refine g_aload0 1 rfl dX12_as_0 ?_
  refine g_iload1 2 rfl dX12_as_1 ?_
  refine g_callV 5 1 rfl kX12_144 (by first | rfl | exact st_o hb | exact st_1 hb | exact st_2 hb | exact st_3 hb | exact st_4 hb | exact st_5 hb | exact st_o hb2 | exact st_1 hb2 | exact st_2 hb2 | exact st_3 hb2 | exact st_4 hb2 | exact st_5 hb2) dX12_as_2 ⟨rfl, rfl⟩ (om_isCell (pM_mod hr.m)) rfl rfl rfl (fun r M1 hq => ?_)
  obtain ⟨rfl, ⟨rfl, hq⟩ | ⟨rfl, hq⟩⟩ := hq
  try simp only [rV, Option.toList, List.cons_append, List.nil_append]
  · obtain ⟨c, hc, rfl⟩ := vp_in_of hq (by omega)
    have ec : ce (nI c) = c := ce_nI (by omega)
    refine g_ifne 11 8 rfl dX12_as_5 (by decide) (fun _ => ?_) (fun h => absurd h (by decide))
    refine g_iload2 12 rfl dX12_as_11 ?_
    refine g_iconst 13 rfl (v := 0) dX12_as_12 (by decide) ?_
    refine g_iconst 14 rfl (v := 4) dX12_as_13 (by decide) ?_
    refine g_callS 17 3 rfl kX12_78 dX12_as_14 ⟨rfl, rfl⟩ om_within rfl rfl rfl (fun r M1 hq => ?_)
    obtain ⟨rfl, ⟨rfl, hw⟩ | ⟨rfl, hw⟩⟩ := hq
    try simp only [rV, Option.toList, List.cons_append, List.nil_append]
    · have hw := wi5.mp hw
      refine g_ifne 23 20 rfl dX12_as_17 (by decide) (fun _ => ?_) (fun h => absurd h (by decide))
      refine g_aload0 24 rfl dX12_as_23 ?_
      refine g_getR 27 rfl fX12_7 (by first | rfl | exact st_o hb | exact st_1 hb | exact st_2 hb | exact st_3 hb | exact st_4 hb | exact st_5 hb | exact st_o hb2 | exact st_1 hb2 | exact st_2 hb2 | exact st_3 hb2 | exact st_4 hb2 | exact st_5 hb2) rfl dX12_as_24 ?_
      refine g_iload1 28 rfl dX12_as_27 ?_
      refine g_iald 29 rfl dX12_as_28 (by first | rfl | exact st_o hb | exact st_1 hb | exact st_2 hb | exact st_3 hb | exact st_4 hb | exact st_5 hb | exact st_o hb2 | exact st_1 hb2 | exact st_2 hb2 | exact st_3 hb2 | exact st_4 hb2 | exact st_5 hb2) rfl rfl (by first | assumption | omega) ?_
      try simp only [pM_1]
      refine g_istore3 30 rfl dX12_as_29 rfl rfl ?_
      refine g_iload3 31 rfl dX12_as_30 ?_
      refine g_iconst 32 rfl (v := (-1)) dX12_as_31 (by decide) ?_
      refine g_cmpeq 58 35 rfl dX12_as_32 (by decide) (fun h32 => ?_) (fun h32 => ?_)
      · refine g_iconst 59 rfl (v := (-1)) dX12_as_58 (by decide) ?_
        refine g_iret rfl dX12_as_59 ?_
        refine ⟨?_, N, x, rfl, hx, hr⟩
        rw [fAs, ifC_t hq, ifC_t hw, ec, ← isoS_E hx hc]
        first | rw [ifC_t (iso0.mpr (fun z => z.1 h32))] | rw [ifC_f (fun z => iso0.mp z ⟨h32, Or.inl h36⟩)] | rw [ifC_f (fun z => iso0.mp z ⟨h32, Or.inr (Or.inl h41)⟩)] | rw [ifC_f (fun z => iso0.mp z ⟨h32, Or.inr (Or.inr ⟨h51, h46⟩)⟩)] | rw [ifC_t (iso0.mpr (fun z => z.2.elim h36 (fun z => z.elim h41 (fun z => h46 z.2))))] | rw [ifC_t (iso0.mpr (fun z => z.2.elim h36 (fun z => z.elim h41 (fun z => h51 z.1))))]
      · refine g_iload2 36 rfl dX12_as_35 ?_
        refine g_ifeq 54 39 rfl dX12_as_36 (by decide) (fun h36 => ?_) (fun h36 => ?_)
        · refine g_iload1 55 rfl dX12_as_54 ?_
          refine g_goto 59 dX12_as_55 (by decide) ?_
          refine g_iret rfl dX12_as_59 ?_
          refine ⟨?_, N, x, rfl, hx, hr⟩
          rw [fAs, ifC_t hq, ifC_t hw, ec, ← isoS_E hx hc]
          first | rw [ifC_t (iso0.mpr (fun z => z.1 h32))] | rw [ifC_f (fun z => iso0.mp z ⟨h32, Or.inl h36⟩)] | rw [ifC_f (fun z => iso0.mp z ⟨h32, Or.inr (Or.inl h41)⟩)] | rw [ifC_f (fun z => iso0.mp z ⟨h32, Or.inr (Or.inr ⟨h51, h46⟩)⟩)] | rw [ifC_t (iso0.mpr (fun z => z.2.elim h36 (fun z => z.elim h41 (fun z => h46 z.2))))] | rw [ifC_t (iso0.mpr (fun z => z.2.elim h36 (fun z => z.elim h41 (fun z => h51 z.1))))]
        · refine g_iload3 40 rfl dX12_as_39 ?_
          refine g_iload2 41 rfl dX12_as_40 ?_
          refine g_cmpeq 54 44 rfl dX12_as_41 (by decide) (fun h41 => ?_) (fun h41 => ?_)
          · refine g_iload1 55 rfl dX12_as_54 ?_
            refine g_goto 59 dX12_as_55 (by decide) ?_
            refine g_iret rfl dX12_as_59 ?_
            refine ⟨?_, N, x, rfl, hx, hr⟩
            rw [fAs, ifC_t hq, ifC_t hw, ec, ← isoS_E hx hc]
            first | rw [ifC_t (iso0.mpr (fun z => z.1 h32))] | rw [ifC_f (fun z => iso0.mp z ⟨h32, Or.inl h36⟩)] | rw [ifC_f (fun z => iso0.mp z ⟨h32, Or.inr (Or.inl h41)⟩)] | rw [ifC_f (fun z => iso0.mp z ⟨h32, Or.inr (Or.inr ⟨h51, h46⟩)⟩)] | rw [ifC_t (iso0.mpr (fun z => z.2.elim h36 (fun z => z.elim h41 (fun z => h46 z.2))))] | rw [ifC_t (iso0.mpr (fun z => z.2.elim h36 (fun z => z.elim h41 (fun z => h51 z.1))))]
          · refine g_iload2 45 rfl dX12_as_44 ?_
            refine g_iconst 46 rfl (v := 2) dX12_as_45 (by decide) ?_
            refine g_cmpne 58 49 rfl dX12_as_46 (by decide) (fun h46 => ?_) (fun h46 => ?_)
            · refine g_iconst 59 rfl (v := (-1)) dX12_as_58 (by decide) ?_
              refine g_iret rfl dX12_as_59 ?_
              refine ⟨?_, N, x, rfl, hx, hr⟩
              rw [fAs, ifC_t hq, ifC_t hw, ec, ← isoS_E hx hc]
              first | rw [ifC_t (iso0.mpr (fun z => z.1 h32))] | rw [ifC_f (fun z => iso0.mp z ⟨h32, Or.inl h36⟩)] | rw [ifC_f (fun z => iso0.mp z ⟨h32, Or.inr (Or.inl h41)⟩)] | rw [ifC_f (fun z => iso0.mp z ⟨h32, Or.inr (Or.inr ⟨h51, h46⟩)⟩)] | rw [ifC_t (iso0.mpr (fun z => z.2.elim h36 (fun z => z.elim h41 (fun z => h46 z.2))))] | rw [ifC_t (iso0.mpr (fun z => z.2.elim h36 (fun z => z.elim h41 (fun z => h51 z.1))))]
            · refine g_iload3 50 rfl dX12_as_49 ?_
              refine g_iconst 51 rfl (v := 3) dX12_as_50 (by decide) ?_
              refine g_cmpne 58 54 rfl dX12_as_51 (by decide) (fun h51 => ?_) (fun h51 => ?_)
              · refine g_iconst 59 rfl (v := (-1)) dX12_as_58 (by decide) ?_
                refine g_iret rfl dX12_as_59 ?_
                refine ⟨?_, N, x, rfl, hx, hr⟩
                rw [fAs, ifC_t hq, ifC_t hw, ec, ← isoS_E hx hc]
                first | rw [ifC_t (iso0.mpr (fun z => z.1 h32))] | rw [ifC_f (fun z => iso0.mp z ⟨h32, Or.inl h36⟩)] | rw [ifC_f (fun z => iso0.mp z ⟨h32, Or.inr (Or.inl h41)⟩)] | rw [ifC_f (fun z => iso0.mp z ⟨h32, Or.inr (Or.inr ⟨h51, h46⟩)⟩)] | rw [ifC_t (iso0.mpr (fun z => z.2.elim h36 (fun z => z.elim h41 (fun z => h46 z.2))))] | rw [ifC_t (iso0.mpr (fun z => z.2.elim h36 (fun z => z.elim h41 (fun z => h51 z.1))))]
              · refine g_iload1 55 rfl dX12_as_54 ?_
                refine g_goto 59 dX12_as_55 (by decide) ?_
                refine g_iret rfl dX12_as_59 ?_
                refine ⟨?_, N, x, rfl, hx, hr⟩
                rw [fAs, ifC_t hq, ifC_t hw, ec, ← isoS_E hx hc]
                first | rw [ifC_t (iso0.mpr (fun z => z.1 h32))] | rw [ifC_f (fun z => iso0.mp z ⟨h32, Or.inl h36⟩)] | rw [ifC_f (fun z => iso0.mp z ⟨h32, Or.inr (Or.inl h41)⟩)] | rw [ifC_f (fun z => iso0.mp z ⟨h32, Or.inr (Or.inr ⟨h51, h46⟩)⟩)] | rw [ifC_t (iso0.mpr (fun z => z.2.elim h36 (fun z => z.elim h41 (fun z => h46 z.2))))] | rw [ifC_t (iso0.mpr (fun z => z.2.elim h36 (fun z => z.elim h41 (fun z => h51 z.1))))]
    · refine g_ifne 23 20 rfl dX12_as_17 (by decide) (fun h => absurd rfl h) (fun _ => ?_)
      refine g_bipush 22 rfl (v := (-102)) dX12_as_20 (by decide) ?_
      refine g_iret rfl dX12_as_22 ?_
      exact ⟨by rw [fAs, ifC_t hq, ifC_f (fun z => hw (wi5.mpr z))], N, x, rfl, hx, hr⟩
  · refine g_ifne 11 8 rfl dX12_as_5 (by decide) (fun h => absurd rfl h) (fun _ => ?_)
    refine g_bipush 10 rfl (v := (-101)) dX12_as_8 (by decide) ?_
    refine g_iret rfl dX12_as_10 ?_
    exact ⟨by rw [fAs, ifC_f hq], N, x, rfl, hx, hr⟩
theorem le_nlt {v : Int32} {a : Int32} : (0 ≤ v ∧ v ≤ a) ↔ (¬ v < 0 ∧ v ≤ a) := by rw [Int32.not_lt]
theorem mub_set {l : Launch} {M : Mm} {g : Sg} {v : Int32} (h : MS g M) : Ok GM l mX12_set [.ref 0, .int v] M (qM (fSet g v)) := by
  obtain ⟨N, x, rfl, hx, hr⟩ := h
  have h30 := hr.m.le
  have hs := hr.s0
  refine ok_of (by decide +kernel) rfl rfl ?_
  refine g_aload0 1 rfl dX12_set_0 ?_
  refine g_getI 4 rfl fX12_131 (by first | rfl | exact st_o hb | exact st_1 hb | exact st_2 hb | exact st_3 hb | exact st_4 hb | exact st_5 hb | exact st_o hb2 | exact st_1 hb2 | exact st_2 hb2 | exact st_3 hb2 | exact st_4 hb2 | exact st_5 hb2) rfl dX12_set_1 ?_
  try simp only [pM_0]
  refine g_ifne 10 7 rfl dX12_set_4 (by decide) (fun h4 => ?_) (fun h4 => ?_)
  · have hq : 0 < gN g := Classical.byContradiction (fun z => h4 (hs.mpr z))
    refine g_iload1 11 rfl dX12_set_10 ?_
    refine g_iconst 12 rfl (v := 0) dX12_set_11 (by decide) ?_
    refine g_bipush 14 rfl (v := 40) dX12_set_12 (by decide) ?_
    refine g_callS 17 3 rfl kX12_78 dX12_set_14 ⟨rfl, rfl⟩ om_within rfl rfl rfl (fun r M1 hq => ?_)
    obtain ⟨rfl, ⟨rfl, hw⟩ | ⟨rfl, hw⟩⟩ := hq
    try simp only [rV, Option.toList, List.cons_append, List.nil_append]
    · refine g_ifne 23 20 rfl dX12_set_17 (by decide) (fun _ => ?_) (fun h => absurd h (by decide))
      refine g_iconst 24 rfl (v := 0) dX12_set_23 (by decide) ?_
      refine g_istore2 25 rfl dX12_set_24 rfl rfl ?_
      refine loop_up (P := fun i => Go GM l mX12_set 25 [.ref 0, .int v, .int (nI i)] [] (pM N (itN (levB v) i x)) (qM (fSet g v))) (gN g) ?_ ?_ 0 (by omega)
      · refine g_iload2 26 rfl dX12_set_25 ?_
        refine g_aload0 27 rfl dX12_set_26 ?_
        refine g_callVi 30 0 rfl kX12_140 (by first | rfl | exact st_o hb | exact st_1 hb | exact st_2 hb | exact st_3 hb | exact st_4 hb | exact st_5 hb | exact st_o hb2 | exact st_1 hb2 | exact st_2 hb2 | exact st_3 hb2 | exact st_4 hb2 | exact st_5 hb2) dX12_set_27 ⟨rfl, rfl⟩ (om_cells (pM_mod hr.m)) rfl rfl rfl ?_
        refine g_cmpge 63 33 rfl dX12_set_30 (by decide) (fun _ => ?_) (fun h => absurd (Int32.le_refl _) h)
        refine g_aload0 64 rfl dX12_set_63 ?_
        refine g_callVi 67 0 rfl kX12_159 (by first | rfl | exact st_o hb | exact st_1 hb | exact st_2 hb | exact st_3 hb | exact st_4 hb | exact st_5 hb | exact st_o hb2 | exact st_1 hb2 | exact st_2 hb2 | exact st_3 hb2 | exact st_4 hb2 | exact st_5 hb2) dX12_set_64 ⟨rfl, rfl⟩ (om_stoneMany hr.m) rfl rfl rfl ?_
        refine g_iret rfl dX12_set_67 ?_
        rw [fSet, ifC_t hq, ifC_t (le_nlt.mp hw)]
        exact ⟨by rw [stoN_E (levN_E hx) _ (Nat.le_refl _)], N, _, rfl, levN_E hx, hr.x⟩
      · intro i hi ih
        simp only [it4] at ih
        generalize itN (levB v) i x = y at ih ⊢
        unfold levB at ih
        refine g_iload2 26 rfl dX12_set_25 ?_
        refine g_aload0 27 rfl dX12_set_26 ?_
        refine g_callVi 30 0 rfl kX12_140 (by first | rfl | exact st_o hb | exact st_1 hb | exact st_2 hb | exact st_3 hb | exact st_4 hb | exact st_5 hb | exact st_o hb2 | exact st_1 hb2 | exact st_2 hb2 | exact st_3 hb2 | exact st_4 hb2 | exact st_5 hb2) dX12_set_27 ⟨rfl, rfl⟩ (om_cells (pM_mod hr.m)) rfl rfl rfl ?_
        refine g_cmpge 63 33 rfl dX12_set_30 (by decide) (fun h => absurd h (nI_ge hi (by omega))) (fun _ => ?_)
        refine g_aload0 34 rfl dX12_set_33 ?_
        refine g_getR 37 rfl fX12_7 (by first | rfl | exact st_o hb | exact st_1 hb | exact st_2 hb | exact st_3 hb | exact st_4 hb | exact st_5 hb | exact st_o hb2 | exact st_1 hb2 | exact st_2 hb2 | exact st_3 hb2 | exact st_4 hb2 | exact st_5 hb2) rfl dX12_set_34 ?_
        refine g_iload2 38 rfl dX12_set_37 ?_
        refine g_iald 39 rfl dX12_set_38 (by first | rfl | exact st_o hb | exact st_1 hb | exact st_2 hb | exact st_3 hb | exact st_4 hb | exact st_5 hb | exact st_o hb2 | exact st_1 hb2 | exact st_2 hb2 | exact st_3 hb2 | exact st_4 hb2 | exact st_5 hb2) rfl rfl (by have hi : i < gR g * gW g := hi; omega) ?_
        try simp only [pM_1, pM_3, pM_4, pM_w3, pM_w4]
        refine g_iconst 40 rfl (v := (-1)) dX12_set_39 (by decide) ?_
        refine g_cmpeq 57 43 rfl dX12_set_40 (by decide) (fun h40 => ?_) (fun h40 => ?_)
        · refine g_iinc2 60 rfl dX12_set_57 rfl rfl _ (by first | exact iinc1 _ | exact iincx _ | rfl) ?_
          refine g_goto 25 dX12_set_60 (by decide) ?_
          (first | (rw [if_pos h40] at ih; exact ih) | (rw [if_neg h40] at ih; exact ih))
        · refine g_aload0 44 rfl dX12_set_43 ?_
          refine g_getR 47 rfl fX12_16 (by first | rfl | exact st_o hb | exact st_1 hb | exact st_2 hb | exact st_3 hb | exact st_4 hb | exact st_5 hb | exact st_o hb2 | exact st_1 hb2 | exact st_2 hb2 | exact st_3 hb2 | exact st_4 hb2 | exact st_5 hb2) rfl dX12_set_44 ?_
          refine g_iload2 48 rfl dX12_set_47 ?_
          refine g_iload1 49 rfl dX12_set_48 ?_
          refine g_iast 50 rfl dX12_set_49 (by first | rfl | exact st_o hb | exact st_1 hb | exact st_2 hb | exact st_3 hb | exact st_4 hb | exact st_5 hb | exact st_o hb2 | exact st_1 hb2 | exact st_2 hb2 | exact st_3 hb2 | exact st_4 hb2 | exact st_5 hb2) rfl rfl (by have hi : i < gR g * gW g := hi; omega) ?_
          try simp only [pM_1, pM_3, pM_4, pM_w3, pM_w4]
          refine g_aload0 51 rfl dX12_set_50 ?_
          refine g_getR 54 rfl fX12_19 (by first | rfl | exact st_o hb | exact st_1 hb | exact st_2 hb | exact st_3 hb | exact st_4 hb | exact st_5 hb | exact st_o hb2 | exact st_1 hb2 | exact st_2 hb2 | exact st_3 hb2 | exact st_4 hb2 | exact st_5 hb2) rfl dX12_set_51 ?_
          refine g_iload2 55 rfl dX12_set_54 ?_
          refine g_iconst 56 rfl (v := 0) dX12_set_55 (by decide) ?_
          refine g_iast 57 rfl dX12_set_56 (by first | rfl | exact st_o hb | exact st_1 hb | exact st_2 hb | exact st_3 hb | exact st_4 hb | exact st_5 hb | exact st_o hb2 | exact st_1 hb2 | exact st_2 hb2 | exact st_3 hb2 | exact st_4 hb2 | exact st_5 hb2) rfl rfl (by have hi : i < gR g * gW g := hi; omega) ?_
          try simp only [pM_1, pM_3, pM_4, pM_w3, pM_w4]
          refine g_iinc2 60 rfl dX12_set_57 rfl rfl _ (by first | exact iinc1 _ | exact iincx _ | rfl) ?_
          refine g_goto 25 dX12_set_60 (by decide) ?_
          (first | (rw [if_pos h40] at ih; exact ih) | (rw [if_neg h40] at ih; exact ih))
    · refine g_ifne 23 20 rfl dX12_set_17 (by decide) (fun h => absurd rfl h) (fun _ => ?_)
      refine g_bipush 22 rfl (v := (-102)) dX12_set_20 (by decide) ?_
      refine g_iret rfl dX12_set_22 ?_
      rw [fSet, ifC_t hq, ifC_f (fun z => hw (le_nlt.mpr z))]
      exact ⟨rfl, N, x, rfl, hx, hr⟩
  · refine g_bipush 9 rfl (v := (-103)) dX12_set_7 (by decide) ?_
    refine g_iret rfl dX12_set_9 ?_
    rw [fSet, ifC_f (hs.mp h4)]
    exact ⟨rfl, N, x, rfl, hx, hr⟩
theorem mub_grit {l : Launch} {M : Mm} {g : Sg} {v : Int32} (h : MS g M) : Ok GM l mX12_grit [.ref 0, .int v] M (qM (fGrit g v)) := by
  obtain ⟨N, x, rfl, hx, hr⟩ := h
  have h30 := hr.m.le
  have hs := hr.s0
  refine ok_of (by decide +kernel) rfl rfl ?_
  refine g_aload0 1 rfl dX12_grit_0 ?_
  refine g_getI 4 rfl fX12_131 (by first | rfl | exact st_o hb | exact st_1 hb | exact st_2 hb | exact st_3 hb | exact st_4 hb | exact st_5 hb | exact st_o hb2 | exact st_1 hb2 | exact st_2 hb2 | exact st_3 hb2 | exact st_4 hb2 | exact st_5 hb2) rfl dX12_grit_1 ?_
  try simp only [pM_0]
  refine g_ifne 10 7 rfl dX12_grit_4 (by decide) (fun h4 => ?_) (fun h4 => ?_)
  · have hq : 0 < gN g := Classical.byContradiction (fun z => h4 (hs.mpr z))
    refine g_iload1 11 rfl dX12_grit_10 ?_
    refine g_iconst 12 rfl (v := 0) dX12_grit_11 (by decide) ?_
    refine g_bipush 14 rfl (v := 9) dX12_grit_12 (by decide) ?_
    refine g_callS 17 3 rfl kX12_78 dX12_grit_14 ⟨rfl, rfl⟩ om_within rfl rfl rfl (fun r M1 hq => ?_)
    obtain ⟨rfl, ⟨rfl, hw⟩ | ⟨rfl, hw⟩⟩ := hq
    try simp only [rV, Option.toList, List.cons_append, List.nil_append]
    · refine g_ifne 23 20 rfl dX12_grit_17 (by decide) (fun _ => ?_) (fun h => absurd h (by decide))
      refine g_iconst 24 rfl (v := 0) dX12_grit_23 (by decide) ?_
      refine g_istore2 25 rfl dX12_grit_24 rfl rfl ?_
      refine loop_up (P := fun i => Go GM l mX12_grit 25 [.ref 0, .int v, .int (nI i)] [] (pM N (itN (griB v) i x)) (qM (fGrit g v))) (gN g) ?_ ?_ 0 (by omega)
      · refine g_iload2 26 rfl dX12_grit_25 ?_
        refine g_aload0 27 rfl dX12_grit_26 ?_
        refine g_callVi 30 0 rfl kX12_140 (by first | rfl | exact st_o hb | exact st_1 hb | exact st_2 hb | exact st_3 hb | exact st_4 hb | exact st_5 hb | exact st_o hb2 | exact st_1 hb2 | exact st_2 hb2 | exact st_3 hb2 | exact st_4 hb2 | exact st_5 hb2) dX12_grit_27 ⟨rfl, rfl⟩ (om_cells (pM_mod hr.m)) rfl rfl rfl ?_
        refine g_cmpge 65 33 rfl dX12_grit_30 (by decide) (fun _ => ?_) (fun h => absurd (Int32.le_refl _) h)
        refine g_aload0 66 rfl dX12_grit_65 ?_
        refine g_callVi 69 0 rfl kX12_159 (by first | rfl | exact st_o hb | exact st_1 hb | exact st_2 hb | exact st_3 hb | exact st_4 hb | exact st_5 hb | exact st_o hb2 | exact st_1 hb2 | exact st_2 hb2 | exact st_3 hb2 | exact st_4 hb2 | exact st_5 hb2) dX12_grit_66 ⟨rfl, rfl⟩ (om_stoneMany hr.m) rfl rfl rfl ?_
        refine g_iret rfl dX12_grit_69 ?_
        rw [fGrit, ifC_t hq, ifC_t (le_nlt.mp hw)]
        exact ⟨by rw [stoN_E (griN_E hx) _ (Nat.le_refl _)], N, _, rfl, griN_E hx, hr.x⟩
      · intro i hi ih
        simp only [it4] at ih
        generalize itN (griB v) i x = y at ih ⊢
        unfold griB at ih
        refine g_iload2 26 rfl dX12_grit_25 ?_
        refine g_aload0 27 rfl dX12_grit_26 ?_
        refine g_callVi 30 0 rfl kX12_140 (by first | rfl | exact st_o hb | exact st_1 hb | exact st_2 hb | exact st_3 hb | exact st_4 hb | exact st_5 hb | exact st_o hb2 | exact st_1 hb2 | exact st_2 hb2 | exact st_3 hb2 | exact st_4 hb2 | exact st_5 hb2) dX12_grit_27 ⟨rfl, rfl⟩ (om_cells (pM_mod hr.m)) rfl rfl rfl ?_
        refine g_cmpge 65 33 rfl dX12_grit_30 (by decide) (fun h => absurd h (nI_ge hi (by omega))) (fun _ => ?_)
        refine g_aload0 34 rfl dX12_grit_33 ?_
        refine g_getR 37 rfl fX12_22 (by first | rfl | exact st_o hb | exact st_1 hb | exact st_2 hb | exact st_3 hb | exact st_4 hb | exact st_5 hb | exact st_o hb2 | exact st_1 hb2 | exact st_2 hb2 | exact st_3 hb2 | exact st_4 hb2 | exact st_5 hb2) rfl dX12_grit_34 ?_
        refine g_iload2 38 rfl dX12_grit_37 ?_
        refine g_aload0 39 rfl dX12_grit_38 ?_
        refine g_getR 42 rfl fX12_7 (by first | rfl | exact st_o hb | exact st_1 hb | exact st_2 hb | exact st_3 hb | exact st_4 hb | exact st_5 hb | exact st_o hb2 | exact st_1 hb2 | exact st_2 hb2 | exact st_3 hb2 | exact st_4 hb2 | exact st_5 hb2) rfl dX12_grit_39 ?_
        refine g_iload2 43 rfl dX12_grit_42 ?_
        refine g_iald 44 rfl dX12_grit_43 (by first | rfl | exact st_o hb | exact st_1 hb | exact st_2 hb | exact st_3 hb | exact st_4 hb | exact st_5 hb | exact st_o hb2 | exact st_1 hb2 | exact st_2 hb2 | exact st_3 hb2 | exact st_4 hb2 | exact st_5 hb2) rfl rfl (by have hi : i < gR g * gW g := hi; omega) ?_
        try simp only [pM_1, pM_5, pM_w5]
        refine g_iconst 45 rfl (v := (-1)) dX12_grit_44 (by decide) ?_
        refine g_cmpne 57 48 rfl dX12_grit_45 (by decide) (fun h45 => ?_) (fun h45 => ?_)
        · refine g_iload1 58 rfl dX12_grit_57 ?_
          refine g_iast 59 rfl dX12_grit_58 (by first | rfl | exact st_o hb | exact st_1 hb | exact st_2 hb | exact st_3 hb | exact st_4 hb | exact st_5 hb | exact st_o hb2 | exact st_1 hb2 | exact st_2 hb2 | exact st_3 hb2 | exact st_4 hb2 | exact st_5 hb2) rfl rfl (by have hi : i < gR g * gW g := hi; omega) ?_
          try simp only [pM_1, pM_5, pM_w5]
          refine g_iinc2 62 rfl dX12_grit_59 rfl rfl _ (by first | exact iinc1 _ | exact iincx _ | rfl) ?_
          refine g_goto 25 dX12_grit_62 (by decide) ?_
          (first | (rw [if_pos h45] at ih; rw [upd_sm]; exact ih) | (rw [if_neg h45] at ih; exact ih))
        · refine g_aload0 49 rfl dX12_grit_48 ?_
          refine g_getR 52 rfl fX12_22 (by first | rfl | exact st_o hb | exact st_1 hb | exact st_2 hb | exact st_3 hb | exact st_4 hb | exact st_5 hb | exact st_o hb2 | exact st_1 hb2 | exact st_2 hb2 | exact st_3 hb2 | exact st_4 hb2 | exact st_5 hb2) rfl dX12_grit_49 ?_
          refine g_iload2 53 rfl dX12_grit_52 ?_
          refine g_iald 54 rfl dX12_grit_53 (by first | rfl | exact st_o hb | exact st_1 hb | exact st_2 hb | exact st_3 hb | exact st_4 hb | exact st_5 hb | exact st_o hb2 | exact st_1 hb2 | exact st_2 hb2 | exact st_3 hb2 | exact st_4 hb2 | exact st_5 hb2) rfl rfl (by have hi : i < gR g * gW g := hi; omega) ?_
          try simp only [pM_1, pM_5, pM_w5]
          refine g_goto 58 dX12_grit_54 (by decide) ?_
          refine g_iast 59 rfl dX12_grit_58 (by first | rfl | exact st_o hb | exact st_1 hb | exact st_2 hb | exact st_3 hb | exact st_4 hb | exact st_5 hb | exact st_o hb2 | exact st_1 hb2 | exact st_2 hb2 | exact st_3 hb2 | exact st_4 hb2 | exact st_5 hb2) rfl rfl (by have hi : i < gR g * gW g := hi; omega) ?_
          try simp only [pM_1, pM_5, pM_w5]
          refine g_iinc2 62 rfl dX12_grit_59 rfl rfl _ (by first | exact iinc1 _ | exact iincx _ | rfl) ?_
          refine g_goto 25 dX12_grit_62 (by decide) ?_
          (first | (rw [if_pos h45] at ih; rw [upd_sm]; exact ih) | (rw [if_neg h45] at ih; exact ih))
    · refine g_ifne 23 20 rfl dX12_grit_17 (by decide) (fun h => absurd rfl h) (fun _ => ?_)
      refine g_bipush 22 rfl (v := (-102)) dX12_grit_20 (by decide) ?_
      refine g_iret rfl dX12_grit_22 ?_
      rw [fGrit, ifC_t hq, ifC_f (fun z => hw (le_nlt.mpr z))]
      exact ⟨rfl, N, x, rfl, hx, hr⟩
  · refine g_bipush 9 rfl (v := (-103)) dX12_grit_7 (by decide) ?_
    refine g_iret rfl dX12_grit_9 ?_
    rw [fGrit, ifC_f (hs.mp h4)]
    exact ⟨rfl, N, x, rfl, hx, hr⟩
theorem mub_blow {l : Launch} {M : Mm} {g : Sg} {b : Nat} {a w : Int32} (h : MS g M) (hI : IV b g) : Ok GM l mX12_blow [.ref 0, .int a, .int w] M (qM (fBlow g a w)) := by
  obtain ⟨N, x, rfl, hx, hr⟩ := h
  have h30 := hr.m.le
  have hs := SI_E hI.1 hx
  refine ok_of (by decide +kernel) rfl rfl ?_
  refine g_aload0 1 rfl dX12_blow_0 ?_
  refine g_iload1 2 rfl dX12_blow_1 ?_
  refine g_callV 5 1 rfl kX12_165 (by first | rfl | exact st_o hb | exact st_1 hb | exact st_2 hb | exact st_3 hb | exact st_4 hb | exact st_5 hb | exact st_o hb2 | exact st_1 hb2 | exact st_2 hb2 | exact st_3 hb2 | exact st_4 hb2 | exact st_5 hb2) dX12_blow_2 ⟨rfl, rfl⟩ (om_isStn hx hr) rfl rfl rfl (fun r M1 hq => ?_)
  obtain ⟨rfl, ⟨rfl, hq⟩ | ⟨rfl, hq⟩⟩ := hq
  try simp only [rV, Option.toList, List.cons_append, List.nil_append]
  · obtain ⟨c, hc, rfl⟩ := vp_in_of hq.1 (Nat.lt_of_le_of_lt h30 (by decide))
    have hc : c < gR g * gW g := hc
    have ec : ce (nI c) = c := ce_nI (by omega)
    have hk : ¬ sK x c = -1 := by
      have := hq.2
      rw [ec, ← hx.K hc] at this
      exact this
    refine g_ifne 11 8 rfl dX12_blow_5 (by decide) (fun _ => ?_) (fun h => absurd h (by decide))
    refine g_iload2 12 rfl dX12_blow_11 ?_
    refine g_callS 15 1 rfl kX12_168 dX12_blow_12 ⟨rfl, rfl⟩ om_isWeight rfl rfl rfl (fun r M1 hq => ?_)
    obtain ⟨rfl, ⟨rfl, hw⟩ | ⟨rfl, hw⟩⟩ := hq
    try simp only [rV, Option.toList, List.cons_append, List.nil_append]
    · refine g_ifeq 27 18 rfl dX12_blow_15 (by decide) (fun h => absurd h (by decide)) (fun _ => ?_)
      refine g_aload0 19 rfl dX12_blow_18 ?_
      refine g_iload1 20 rfl dX12_blow_19 ?_
      refine g_iload2 21 rfl dX12_blow_20 ?_
      refine g_callVi 24 2 rfl kX12_171 (by first | rfl | exact st_o hb | exact st_1 hb | exact st_2 hb | exact st_3 hb | exact st_4 hb | exact st_5 hb | exact st_o hb2 | exact st_1 hb2 | exact st_2 hb2 | exact st_3 hb2 | exact st_4 hb2 | exact st_5 hb2) dX12_blow_21 ⟨rfl, rfl⟩ (om_goBlow hr.m hc (hs c hc) hk) rfl rfl rfl ?_
      refine g_goto 29 dX12_blow_24 (by decide) ?_
      refine g_iret rfl dX12_blow_29 ?_
      rw [fBlow, ifC_t hq, ifC_t hw, ec]
      exact ⟨by rw [sinkS_E hx hc], N, _, rfl, strS_E hx hc, hr.x⟩
    · refine g_ifeq 27 18 rfl dX12_blow_15 (by decide) (fun _ => ?_) (fun h => absurd rfl h)
      refine g_bipush 29 rfl (v := (-102)) dX12_blow_27 (by decide) ?_
      refine g_iret rfl dX12_blow_29 ?_
      rw [fBlow, ifC_t hq, ifC_f hw]
      exact ⟨rfl, N, x, rfl, hx, hr⟩
  · refine g_ifne 11 8 rfl dX12_blow_5 (by decide) (fun h => absurd rfl h) (fun _ => ?_)
    refine g_bipush 10 rfl (v := (-101)) dX12_blow_8 (by decide) ?_
    refine g_iret rfl dX12_blow_10 ?_
    rw [fBlow, ifC_f hq]
    exact ⟨rfl, N, x, rfl, hx, hr⟩
theorem mub_ram {l : Launch} {M : Mm} {g : Sg} {b : Nat} {w r o : Int32} (h : MS g M) (hI : IV b g) : Ok GM l mX12_ram [.ref 0, .int w, .int r, .int o] M (qM (fRam g w r o)) := by
  obtain ⟨N, x, rfl, hx, hr⟩ := h
  have hs := SI_E hI.1 hx
  have h0 := hr.s0
  refine ok_of (by decide +kernel) rfl rfl ?_
  refine g_aload0 1 rfl dX12_ram_0 ?_
  refine g_getI 4 rfl fX12_131 (by first | rfl | exact st_o hb | exact st_1 hb | exact st_2 hb | exact st_3 hb | exact st_4 hb | exact st_5 hb | exact st_o hb2 | exact st_1 hb2 | exact st_2 hb2 | exact st_3 hb2 | exact st_4 hb2 | exact st_5 hb2) rfl dX12_ram_1 ?_
  try simp only [pM_0]
  refine g_ifne 10 7 rfl dX12_ram_4 (by decide) (fun h4 => ?_) (fun h4 => ?_)
  · have hq : 0 < gN g := Classical.byContradiction (fun z => h4 (h0.mpr z))
    have bad : ¬ (okW w ∧ okR 1 r ∧ vp_in o 4) → Go GM l mX12_ram 44 [.ref 0, .int w, .int r, .int o] [] (pM N x) (qM (fRam g w r o)) := by
      intro hn
      refine g_bipush 46 rfl (v := (-102)) dX12_ram_44 (by decide) ?_
      refine g_iret rfl dX12_ram_46 ?_
      rw [fRam, ifC_t hq, ifC_f hn]
      exact ⟨rfl, N, x, rfl, hx, hr⟩
    refine g_iload1 11 rfl dX12_ram_10 ?_
    refine g_callS 14 1 rfl kX12_168 dX12_ram_11 ⟨rfl, rfl⟩ om_isWeight rfl rfl rfl (fun r M1 hq => ?_)
    obtain ⟨rfl, ⟨rfl, hw⟩ | ⟨rfl, hw⟩⟩ := hq
    try simp only [rV, Option.toList, List.cons_append, List.nil_append]
    · refine g_ifeq 44 17 rfl dX12_ram_14 (by decide) (fun h => absurd h (by decide)) (fun _ => ?_)
      refine g_iload2 18 rfl dX12_ram_17 ?_
      refine g_iconst 19 rfl (v := 1) dX12_ram_18 (by decide) ?_
      refine g_bipush 21 rfl (v := 40) dX12_ram_19 (by decide) ?_
      refine g_callS 24 3 rfl kX12_78 dX12_ram_21 ⟨rfl, rfl⟩ om_within rfl rfl rfl (fun r M1 hq => ?_)
      obtain ⟨rfl, ⟨rfl, hR⟩ | ⟨rfl, hR⟩⟩ := hq
      try simp only [rV, Option.toList, List.cons_append, List.nil_append]
      · have hR : okR 1 r := hR
        refine g_ifeq 44 27 rfl dX12_ram_24 (by decide) (fun h => absurd h (by decide)) (fun _ => ?_)
        refine g_iload3 28 rfl dX12_ram_27 ?_
        refine g_callS 31 1 rfl kX12_177 dX12_ram_28 ⟨rfl, rfl⟩ om_isOrder rfl rfl rfl (fun r M1 hq => ?_)
        obtain ⟨rfl, ⟨rfl, ho⟩ | ⟨rfl, ho⟩⟩ := hq
        try simp only [rV, Option.toList, List.cons_append, List.nil_append]
        · obtain ⟨k, hk, rfl⟩ := okR_nI hR (by decide)
          obtain ⟨j, hj, rfl⟩ := vp_in_of ho (by decide)
          refine g_ifeq 44 34 rfl dX12_ram_31 (by decide) (fun h => absurd h (by decide)) (fun _ => ?_)
          refine g_aload0 35 rfl dX12_ram_34 ?_
          refine g_iload1 36 rfl dX12_ram_35 ?_
          refine g_iload2 37 rfl dX12_ram_36 ?_
          refine g_iload3 38 rfl dX12_ram_37 ?_
          refine g_callVi 41 3 rfl kX12_180 (by first | rfl | exact st_o hb | exact st_1 hb | exact st_2 hb | exact st_3 hb | exact st_4 hb | exact st_5 hb | exact st_o hb2 | exact st_1 hb2 | exact st_2 hb2 | exact st_3 hb2 | exact st_4 hb2 | exact st_5 hb2) dX12_ram_38 ⟨rfl, rfl⟩ (om_goRounds hr.m hj (by omega) hs) rfl rfl rfl ?_
          refine g_goto 46 dX12_ram_41 (by decide) ?_
          refine g_iret rfl dX12_ram_46 ?_
          have e := rouN_E (o := j) (k := k) (w := w) (s := 0) (t := 0) hx rfl
          rw [fRam, ifC_t hq, ifC_t ⟨hw, hR, ho⟩, rouS, ce_nI (by omega), ce_nI (by omega)]
          exact ⟨by rw [e.2], N, _, rfl, e.1, hr.x⟩
        · refine g_ifeq 44 34 rfl dX12_ram_31 (by decide) (fun _ => ?_) (fun h => absurd rfl h)
          exact bad (fun z => ho z.2.2)
      · refine g_ifeq 44 27 rfl dX12_ram_24 (by decide) (fun _ => ?_) (fun h => absurd rfl h)
        exact bad (fun z => hR z.2.1)
    · refine g_ifeq 44 17 rfl dX12_ram_14 (by decide) (fun _ => ?_) (fun h => absurd rfl h)
      exact bad (fun z => hw z.1)
  · refine g_bipush 9 rfl (v := (-103)) dX12_ram_7 (by decide) ?_
    refine g_iret rfl dX12_ram_9 ?_
    rw [fRam, ifC_f (h0.mp h4)]
    exact ⟨rfl, N, x, rfl, hx, hr⟩
theorem mub_rings {l : Launch} {M : Mm} {g : Sg} {b : Nat} {w : Int32} (h : MS g M) (hI : IV b g) : Ok GM l mX12_rings [.ref 0, .int w] M (qM (fRings g w)) := by
  obtain ⟨N, x, rfl, hx, hr⟩ := h
  have hs := SI_E hI.1 hx
  have h0 := hr.s0
  refine ok_of (by decide +kernel) rfl rfl ?_
  refine g_aload0 1 rfl dX12_rings_0 ?_
  refine g_getI 4 rfl fX12_131 (by first | rfl | exact st_o hb | exact st_1 hb | exact st_2 hb | exact st_3 hb | exact st_4 hb | exact st_5 hb | exact st_o hb2 | exact st_1 hb2 | exact st_2 hb2 | exact st_3 hb2 | exact st_4 hb2 | exact st_5 hb2) rfl dX12_rings_1 ?_
  try simp only [pM_0]
  refine g_ifne 10 7 rfl dX12_rings_4 (by decide) (fun h4 => ?_) (fun h4 => ?_)
  · have hq : 0 < gN g := Classical.byContradiction (fun z => h4 (h0.mpr z))
    refine g_iload1 11 rfl dX12_rings_10 ?_
    refine g_callS 14 1 rfl kX12_168 dX12_rings_11 ⟨rfl, rfl⟩ om_isWeight rfl rfl rfl (fun r M1 hq => ?_)
    obtain ⟨rfl, ⟨rfl, hw⟩ | ⟨rfl, hw⟩⟩ := hq
    try simp only [rV, Option.toList, List.cons_append, List.nil_append]
    · refine g_ifeq 25 17 rfl dX12_rings_14 (by decide) (fun h => absurd h (by decide)) (fun _ => ?_)
      refine g_aload0 18 rfl dX12_rings_17 ?_
      refine g_iload1 19 rfl dX12_rings_18 ?_
      refine g_callVi 22 1 rfl kX12_184 (by first | rfl | exact st_o hb | exact st_1 hb | exact st_2 hb | exact st_3 hb | exact st_4 hb | exact st_5 hb | exact st_o hb2 | exact st_1 hb2 | exact st_2 hb2 | exact st_3 hb2 | exact st_4 hb2 | exact st_5 hb2) dX12_rings_19 ⟨rfl, rfl⟩ (om_ringing hr.m hs) rfl rfl rfl ?_
      refine g_goto 27 dX12_rings_22 (by decide) ?_
      refine g_iret rfl dX12_rings_27 ?_
      exact ⟨by rw [fRings, ifC_t hq, ifC_t hw, ringN_E hx _ (Nat.le_refl _)], N, x, rfl, hx, hr⟩
    · refine g_ifeq 25 17 rfl dX12_rings_14 (by decide) (fun _ => ?_) (fun h => absurd rfl h)
      refine g_bipush 27 rfl (v := (-102)) dX12_rings_25 (by decide) ?_
      refine g_iret rfl dX12_rings_27 ?_
      exact ⟨by rw [fRings, ifC_t hq, ifC_f hw], N, x, rfl, hx, hr⟩
  · refine g_bipush 9 rfl (v := (-103)) dX12_rings_7 (by decide) ?_
    refine g_iret rfl dX12_rings_9 ?_
    exact ⟨by rw [fRings, ifC_f (h0.mp h4)], N, x, rfl, hx, hr⟩
theorem mub_uneven {l : Launch} {M : Mm} {g : Sg} {b : Nat} (h : MS g M) (hI : IV b g) (hb : b < 100000000) : Ok GM l mX12_uneven [.ref 0] M (qM (fUneven g)) := by
  obtain ⟨N, x, rfl, hx, hr⟩ := h
  have hB := HB_E hI.2.1 hx
  have h0 := hr.s0
  refine ok_of (by decide +kernel) rfl rfl ?_
  refine g_aload0 1 rfl dX12_uneven_0 ?_
  refine g_getI 4 rfl fX12_131 (by first | rfl | exact st_o hb | exact st_1 hb | exact st_2 hb | exact st_3 hb | exact st_4 hb | exact st_5 hb | exact st_o hb2 | exact st_1 hb2 | exact st_2 hb2 | exact st_3 hb2 | exact st_4 hb2 | exact st_5 hb2) rfl dX12_uneven_1 ?_
  try simp only [pM_0]
  refine g_ifne 12 7 rfl dX12_uneven_4 (by decide) (fun h4 => ?_) (fun h4 => ?_)
  · have hq : 0 < gN g := Classical.byContradiction (fun z => h4 (h0.mpr z))
    refine g_aload0 13 rfl dX12_uneven_12 ?_
    refine g_callVi 16 0 rfl kX12_198 (by first | rfl | exact st_o hb | exact st_1 hb | exact st_2 hb | exact st_3 hb | exact st_4 hb | exact st_5 hb | exact st_o hb2 | exact st_1 hb2 | exact st_2 hb2 | exact st_3 hb2 | exact st_4 hb2 | exact st_5 hb2) dX12_uneven_13 ⟨rfl, rfl⟩ (om_unevenNow hr.m hB (by omega)) rfl rfl rfl ?_
    refine g_iret rfl dX12_uneven_16 ?_
    exact ⟨by rw [fUneven, ifC_t hq, sprS_E hx], N, x, rfl, hx, hr⟩
  · refine g_bipush 9 rfl (v := (-103)) dX12_uneven_7 (by decide) ?_
    refine g_goto 16 dX12_uneven_9 (by decide) ?_
    refine g_iret rfl dX12_uneven_16 ?_
    exact ⟨by rw [fUneven, ifC_f (h0.mp h4)], N, x, rfl, hx, hr⟩
