/-! the class's Street, on -/
def sinkS (R W : Nat) (x : Sx) (c : Nat) (w : Int32) : Int32 :=
  if sK x c = -1 then 0 else if sK x c = 4 then 0 else if sK x c = 2 then quo w (4 + holdS R W x c + sS x c) + 1 else if sK x c = 3 then 2 * (quo w (4 + holdS R W x c + sS x c) + 1) else quo w (4 + holdS R W x c + sS x c)
theorem ok_X7_sinkBy {l : Launch} {M : Mm} {R W b c : Nat} {x : Sx} {w : Int32} (hb : isSt b) (hp : Plan M R W) (hc : c < R * W) : Oi GC l mX7_sinkBy [.ref b, .int (nI c), .int w] (pC M b x) (sinkS R W x c w) (pC M b x) := by
  have h30 := hp.1.le
  have hN : ∀ y, (pC M b y).1 12 4 = nI (R * W) := fun y => (pC_plan (x := y) hb hp).2.2.2.1
  refine ok_of (by decide +kernel) rfl rfl ?_
  refine g_aload0 1 rfl dX7_sinkBy_0 ?_
  refine g_getR 4 rfl fX7_9 (by first | rfl | exact st_o hb | exact st_1 hb | exact st_2 hb | exact st_3 hb | exact st_4 hb | exact st_5 hb | exact st_o hb2 | exact st_1 hb2 | exact st_2 hb2 | exact st_3 hb2 | exact st_4 hb2 | exact st_5 hb2) rfl dX7_sinkBy_1 ?_
  refine g_iload1 5 rfl dX7_sinkBy_4 ?_
  refine g_iald 6 rfl dX7_sinkBy_5 (by first | rfl | exact st_o hb | exact st_1 hb | exact st_2 hb | exact st_3 hb | exact st_4 hb | exact st_5 hb | exact st_o hb2 | exact st_1 hb2 | exact st_2 hb2 | exact st_3 hb2 | exact st_4 hb2 | exact st_5 hb2) rfl rfl (by first | assumption | omega) ?_
  try simp only [hN, pC_1, pC_2, pC_3, pC_4, pC_5, pC_6, pC_7, set_1, set_2, set_3, set_4, set_5, set_6, set_7]
  refine g_istore3 7 rfl dX7_sinkBy_6 rfl rfl ?_
  refine g_iload3 8 rfl dX7_sinkBy_7 ?_
  refine g_iconst 9 rfl (v := (-1)) dX7_sinkBy_8 (by decide) ?_
  refine g_cmpeq 17 12 rfl dX7_sinkBy_9 (by decide) (fun h9 => ?_) (fun h9 => ?_)
  · refine g_iconst 18 rfl (v := 0) dX7_sinkBy_17 (by decide) ?_
    refine g_iret rfl dX7_sinkBy_18 ?_
    exact ⟨by simp [sinkS, *], rfl⟩
  · refine g_iload3 13 rfl dX7_sinkBy_12 ?_
    refine g_iconst 14 rfl (v := 4) dX7_sinkBy_13 (by decide) ?_
    refine g_cmpne 19 17 rfl dX7_sinkBy_14 (by decide) (fun h14 => ?_) (fun h14 => ?_)
    · refine g_iload2 20 rfl dX7_sinkBy_19 ?_
      refine g_iconst 21 rfl (v := 4) dX7_sinkBy_20 (by decide) ?_
      refine g_aload0 22 rfl dX7_sinkBy_21 ?_
      refine g_iload1 23 rfl dX7_sinkBy_22 ?_
      refine g_callVi 26 1 rfl kX7_47 (by first | rfl | exact st_o hb | exact st_1 hb | exact st_2 hb | exact st_3 hb | exact st_4 hb | exact st_5 hb | exact st_o hb2 | exact st_1 hb2 | exact st_2 hb2 | exact st_3 hb2 | exact st_4 hb2 | exact st_5 hb2) dX7_sinkBy_23 ⟨rfl, rfl⟩ (ok_X7_hold hb hp hc) rfl rfl rfl ?_
      refine g_iadd 27 rfl dX7_sinkBy_26 ?_
      refine g_aload0 28 rfl dX7_sinkBy_27 ?_
      refine g_getR 31 rfl fX7_21 (by first | rfl | exact st_o hb | exact st_1 hb | exact st_2 hb | exact st_3 hb | exact st_4 hb | exact st_5 hb | exact st_o hb2 | exact st_1 hb2 | exact st_2 hb2 | exact st_3 hb2 | exact st_4 hb2 | exact st_5 hb2) rfl dX7_sinkBy_28 ?_
      refine g_iload1 32 rfl dX7_sinkBy_31 ?_
      refine g_iald 33 rfl dX7_sinkBy_32 (by first | rfl | exact st_o hb | exact st_1 hb | exact st_2 hb | exact st_3 hb | exact st_4 hb | exact st_5 hb | exact st_o hb2 | exact st_1 hb2 | exact st_2 hb2 | exact st_3 hb2 | exact st_4 hb2 | exact st_5 hb2) rfl rfl (by first | assumption | omega) ?_
      try simp only [hN, pC_1, pC_2, pC_3, pC_4, pC_5, pC_6, pC_7, set_1, set_2, set_3, set_4, set_5, set_6, set_7]
      refine g_iadd 34 rfl dX7_sinkBy_33 ?_
      refine g_callNi 37 2 rfl kX7_58 dX7_sinkBy_34 ⟨rfl, rfl⟩ ok_X11_quotient rfl rfl rfl ?_
      refine g_istore4 39 rfl dX7_sinkBy_37 rfl rfl ?_
      refine g_iload3 40 rfl dX7_sinkBy_39 ?_
      refine g_iconst 41 rfl (v := 2) dX7_sinkBy_40 (by decide) ?_
      refine g_cmpne 49 44 rfl dX7_sinkBy_41 (by decide) (fun h41 => ?_) (fun h41 => ?_)
      · refine g_iload3 50 rfl dX7_sinkBy_49 ?_
        refine g_iconst 51 rfl (v := 3) dX7_sinkBy_50 (by decide) ?_
        refine g_cmpne 63 54 rfl dX7_sinkBy_51 (by decide) (fun h51 => ?_) (fun h51 => ?_)
        · refine g_iload4 65 rfl dX7_sinkBy_63 ?_
          refine g_iret rfl dX7_sinkBy_65 ?_
          exact ⟨by simp [sinkS, *], rfl⟩
        · refine g_iconst 55 rfl (v := 2) dX7_sinkBy_54 (by decide) ?_
          refine g_iload4 57 rfl dX7_sinkBy_55 ?_
          refine g_iconst 58 rfl (v := 1) dX7_sinkBy_57 (by decide) ?_
          refine g_iadd 59 rfl dX7_sinkBy_58 ?_
          refine g_imul 60 rfl dX7_sinkBy_59 ?_
          refine g_goto 65 dX7_sinkBy_60 (by decide) ?_
          refine g_iret rfl dX7_sinkBy_65 ?_
          exact ⟨by simp [sinkS, *], rfl⟩
      · refine g_iload4 46 rfl dX7_sinkBy_44 ?_
        refine g_iconst 47 rfl (v := 1) dX7_sinkBy_46 (by decide) ?_
        refine g_iadd 48 rfl dX7_sinkBy_47 ?_
        refine g_iret rfl dX7_sinkBy_48 ?_
        exact ⟨by simp [sinkS, *], rfl⟩
    · refine g_iconst 18 rfl (v := 0) dX7_sinkBy_17 (by decide) ?_
      refine g_iret rfl dX7_sinkBy_18 ?_
      exact ⟨by simp [sinkS, *], rfl⟩
def firmS (c : Nat) (x : Sx) : Sx :=
  if sK x c = -1 ∨ sK x c = 4 then x else
    if sK x c = 3 ∧ (if sS x c + 1 < 99 then sS x c + 1 else 99) = 2 then wK (wS x (upd (sS x) c (if sS x c + 1 < 99 then sS x c + 1 else 99))) (upd (sK x) c 2)
    else if sK x c = 2 ∧ (if sS x c + 1 < 99 then sS x c + 1 else 99) = 4 then wK (wS x (upd (sS x) c (if sS x c + 1 < 99 then sS x c + 1 else 99))) (upd (sK x) c 0)
    else wS x (upd (sS x) c (if sS x c + 1 < 99 then sS x c + 1 else 99))
theorem upd_at (f : Nat → Int32) (c : Nat) (v : Int32) : upd f c v c = v := pk_us
theorem sx1 (x : Sx) (f : Nat → Int32) : sK (wS x f) = sK x ∧ sS (wS x f) = f ∧ sK (wH x f) = sK x ∧ sS (wH x f) = sS x ∧ sH (wS x f) = sH x ∧ sJ (wS x f) = sJ x ∧ sZ (wS x f) = sZ x ∧ sJ (wH x f) = sJ x ∧ sH (wH x f) = f ∧ sZ (wH x f) = sZ x := ⟨rfl, rfl, rfl, rfl, rfl, rfl, rfl, rfl, rfl, rfl⟩
theorem ok_X7_seatFirmer {l : Launch} {M : Mm} {R W b c : Nat} {x : Sx} (hb : isSt b) (hp : Plan M R W) (hc : c < R * W) : Ov GC l mX7_seatFirmer [.ref b, .int (nI c)] (pC M b x) (pC M b (firmS c x)) := by
  have h30 := hp.1.le
  have hN : ∀ y, (pC M b y).1 12 4 = nI (R * W) := fun y => (pC_plan (x := y) hb hp).2.2.2.1
  have e1 : ∀ (y : Sx) (f : Nat → Int32), sS (wS y f) = f := fun _ _ => rfl
  have e2 : ∀ (y : Sx) (f : Nat → Int32), sK (wS y f) = sK y := fun _ _ => rfl
  refine ok_of (by decide +kernel) rfl rfl ?_
  refine g_aload0 1 rfl dX7_seatFirmer_0 ?_
  refine g_getR 4 rfl fX7_9 (by first | rfl | exact st_o hb | exact st_1 hb | exact st_2 hb | exact st_3 hb | exact st_4 hb | exact st_5 hb | exact st_o hb2 | exact st_1 hb2 | exact st_2 hb2 | exact st_3 hb2 | exact st_4 hb2 | exact st_5 hb2) rfl dX7_seatFirmer_1 ?_
  refine g_iload1 5 rfl dX7_seatFirmer_4 ?_
  refine g_iald 6 rfl dX7_seatFirmer_5 (by first | rfl | exact st_o hb | exact st_1 hb | exact st_2 hb | exact st_3 hb | exact st_4 hb | exact st_5 hb | exact st_o hb2 | exact st_1 hb2 | exact st_2 hb2 | exact st_3 hb2 | exact st_4 hb2 | exact st_5 hb2) rfl rfl (by first | assumption | omega) ?_
  try simp only [hN, pC_1, pC_2, pC_3, pC_4, pC_5, pC_6, pC_7, set_1, set_2, set_3, set_4, set_5, set_6, set_7]
  refine g_istore2 7 rfl dX7_seatFirmer_6 rfl rfl ?_
  refine g_iload2 8 rfl dX7_seatFirmer_7 ?_
  refine g_iconst 9 rfl (v := (-1)) dX7_seatFirmer_8 (by decide) ?_
  refine g_cmpeq 17 12 rfl dX7_seatFirmer_9 (by decide) (fun h9 => ?_) (fun h9 => ?_)
  · refine g_vret rfl dX7_seatFirmer_17 ?_
    refine ⟨rfl, ?_⟩
    try simp only [e1, e2, upd_at] at h49
    try simp only [e1, e2, upd_at] at h74
    first | (simp [firmS, *]; done) | (rw [h39] at h64; exact absurd h64 (by decide))
  · refine g_iload2 13 rfl dX7_seatFirmer_12 ?_
    refine g_iconst 14 rfl (v := 4) dX7_seatFirmer_13 (by decide) ?_
    refine g_cmpne 18 17 rfl dX7_seatFirmer_14 (by decide) (fun h14 => ?_) (fun h14 => ?_)
    · refine g_aload0 19 rfl dX7_seatFirmer_18 ?_
      refine g_getR 22 rfl fX7_21 (by first | rfl | exact st_o hb | exact st_1 hb | exact st_2 hb | exact st_3 hb | exact st_4 hb | exact st_5 hb | exact st_o hb2 | exact st_1 hb2 | exact st_2 hb2 | exact st_3 hb2 | exact st_4 hb2 | exact st_5 hb2) rfl dX7_seatFirmer_19 ?_
      refine g_iload1 23 rfl dX7_seatFirmer_22 ?_
      refine g_bipush 25 rfl (v := 99) dX7_seatFirmer_23 (by decide) ?_
      refine g_aload0 26 rfl dX7_seatFirmer_25 ?_
      refine g_getR 29 rfl fX7_21 (by first | rfl | exact st_o hb | exact st_1 hb | exact st_2 hb | exact st_3 hb | exact st_4 hb | exact st_5 hb | exact st_o hb2 | exact st_1 hb2 | exact st_2 hb2 | exact st_3 hb2 | exact st_4 hb2 | exact st_5 hb2) rfl dX7_seatFirmer_26 ?_
      refine g_iload1 30 rfl dX7_seatFirmer_29 ?_
      refine g_iald 31 rfl dX7_seatFirmer_30 (by first | rfl | exact st_o hb | exact st_1 hb | exact st_2 hb | exact st_3 hb | exact st_4 hb | exact st_5 hb | exact st_o hb2 | exact st_1 hb2 | exact st_2 hb2 | exact st_3 hb2 | exact st_4 hb2 | exact st_5 hb2) rfl rfl (by first | assumption | omega) ?_
      try simp only [hN, pC_1, pC_2, pC_3, pC_4, pC_5, pC_6, pC_7, set_1, set_2, set_3, set_4, set_5, set_6, set_7]
      refine g_iconst 32 rfl (v := 1) dX7_seatFirmer_31 (by decide) ?_
      refine g_iadd 33 rfl dX7_seatFirmer_32 ?_
      refine g_mmin 36 rfl kX7_68 dX7_seatFirmer_33 mt_min.1 mt_min.2.1 mt_min.2.2 ⟨rfl, rfl⟩ rfl ?_
      refine g_iast 37 rfl dX7_seatFirmer_36 (by first | rfl | exact st_o hb | exact st_1 hb | exact st_2 hb | exact st_3 hb | exact st_4 hb | exact st_5 hb | exact st_o hb2 | exact st_1 hb2 | exact st_2 hb2 | exact st_3 hb2 | exact st_4 hb2 | exact st_5 hb2) rfl rfl (by first | assumption | omega) ?_
      try simp only [hN, pC_1, pC_2, pC_3, pC_4, pC_5, pC_6, pC_7, set_1, set_2, set_3, set_4, set_5, set_6, set_7]
      refine g_iload2 38 rfl dX7_seatFirmer_37 ?_
      refine g_iconst 39 rfl (v := 3) dX7_seatFirmer_38 (by decide) ?_
      refine g_cmpne 62 42 rfl dX7_seatFirmer_39 (by decide) (fun h39 => ?_) (fun h39 => ?_)
      · refine g_iload2 63 rfl dX7_seatFirmer_62 ?_
        refine g_iconst 64 rfl (v := 2) dX7_seatFirmer_63 (by decide) ?_
        refine g_cmpne 84 67 rfl dX7_seatFirmer_64 (by decide) (fun h64 => ?_) (fun h64 => ?_)
        · refine g_vret rfl dX7_seatFirmer_84 ?_
          refine ⟨rfl, ?_⟩
          try simp only [e1, e2, upd_at] at h49
          try simp only [e1, e2, upd_at] at h74
          first | (simp [firmS, *]; done) | (rw [h39] at h64; exact absurd h64 (by decide))
        · refine g_aload0 68 rfl dX7_seatFirmer_67 ?_
          refine g_getR 71 rfl fX7_21 (by first | rfl | exact st_o hb | exact st_1 hb | exact st_2 hb | exact st_3 hb | exact st_4 hb | exact st_5 hb | exact st_o hb2 | exact st_1 hb2 | exact st_2 hb2 | exact st_3 hb2 | exact st_4 hb2 | exact st_5 hb2) rfl dX7_seatFirmer_68 ?_
          refine g_iload1 72 rfl dX7_seatFirmer_71 ?_
          refine g_iald 73 rfl dX7_seatFirmer_72 (by first | rfl | exact st_o hb | exact st_1 hb | exact st_2 hb | exact st_3 hb | exact st_4 hb | exact st_5 hb | exact st_o hb2 | exact st_1 hb2 | exact st_2 hb2 | exact st_3 hb2 | exact st_4 hb2 | exact st_5 hb2) rfl rfl (by first | assumption | omega) ?_
          try simp only [hN, pC_1, pC_2, pC_3, pC_4, pC_5, pC_6, pC_7, set_1, set_2, set_3, set_4, set_5, set_6, set_7]
          refine g_iconst 74 rfl (v := 4) dX7_seatFirmer_73 (by decide) ?_
          refine g_cmpne 84 77 rfl dX7_seatFirmer_74 (by decide) (fun h74 => ?_) (fun h74 => ?_)
          · refine g_vret rfl dX7_seatFirmer_84 ?_
            refine ⟨rfl, ?_⟩
            try simp only [e1, e2, upd_at] at h49
            try simp only [e1, e2, upd_at] at h74
            first | (simp [firmS, *]; done) | (rw [h39] at h64; exact absurd h64 (by decide))
          · refine g_aload0 78 rfl dX7_seatFirmer_77 ?_
            refine g_getR 81 rfl fX7_9 (by first | rfl | exact st_o hb | exact st_1 hb | exact st_2 hb | exact st_3 hb | exact st_4 hb | exact st_5 hb | exact st_o hb2 | exact st_1 hb2 | exact st_2 hb2 | exact st_3 hb2 | exact st_4 hb2 | exact st_5 hb2) rfl dX7_seatFirmer_78 ?_
            refine g_iload1 82 rfl dX7_seatFirmer_81 ?_
            refine g_iconst 83 rfl (v := 0) dX7_seatFirmer_82 (by decide) ?_
            refine g_iast 84 rfl dX7_seatFirmer_83 (by first | rfl | exact st_o hb | exact st_1 hb | exact st_2 hb | exact st_3 hb | exact st_4 hb | exact st_5 hb | exact st_o hb2 | exact st_1 hb2 | exact st_2 hb2 | exact st_3 hb2 | exact st_4 hb2 | exact st_5 hb2) rfl rfl (by first | assumption | omega) ?_
            try simp only [hN, pC_1, pC_2, pC_3, pC_4, pC_5, pC_6, pC_7, set_1, set_2, set_3, set_4, set_5, set_6, set_7]
            refine g_vret rfl dX7_seatFirmer_84 ?_
            refine ⟨rfl, ?_⟩
            try simp only [e1, e2, upd_at] at h49
            try simp only [e1, e2, upd_at] at h74
            first | (simp [firmS, *]; done) | (rw [h39] at h64; exact absurd h64 (by decide))
      · refine g_aload0 43 rfl dX7_seatFirmer_42 ?_
        refine g_getR 46 rfl fX7_21 (by first | rfl | exact st_o hb | exact st_1 hb | exact st_2 hb | exact st_3 hb | exact st_4 hb | exact st_5 hb | exact st_o hb2 | exact st_1 hb2 | exact st_2 hb2 | exact st_3 hb2 | exact st_4 hb2 | exact st_5 hb2) rfl dX7_seatFirmer_43 ?_
        refine g_iload1 47 rfl dX7_seatFirmer_46 ?_
        refine g_iald 48 rfl dX7_seatFirmer_47 (by first | rfl | exact st_o hb | exact st_1 hb | exact st_2 hb | exact st_3 hb | exact st_4 hb | exact st_5 hb | exact st_o hb2 | exact st_1 hb2 | exact st_2 hb2 | exact st_3 hb2 | exact st_4 hb2 | exact st_5 hb2) rfl rfl (by first | assumption | omega) ?_
        try simp only [hN, pC_1, pC_2, pC_3, pC_4, pC_5, pC_6, pC_7, set_1, set_2, set_3, set_4, set_5, set_6, set_7]
        refine g_iconst 49 rfl (v := 2) dX7_seatFirmer_48 (by decide) ?_
        refine g_cmpne 62 52 rfl dX7_seatFirmer_49 (by decide) (fun h49 => ?_) (fun h49 => ?_)
        · refine g_iload2 63 rfl dX7_seatFirmer_62 ?_
          refine g_iconst 64 rfl (v := 2) dX7_seatFirmer_63 (by decide) ?_
          refine g_cmpne 84 67 rfl dX7_seatFirmer_64 (by decide) (fun h64 => ?_) (fun h64 => ?_)
          · refine g_vret rfl dX7_seatFirmer_84 ?_
            refine ⟨rfl, ?_⟩
            try simp only [e1, e2, upd_at] at h49
            try simp only [e1, e2, upd_at] at h74
            first | (simp [firmS, *]; done) | (rw [h39] at h64; exact absurd h64 (by decide))
          · refine g_aload0 68 rfl dX7_seatFirmer_67 ?_
            refine g_getR 71 rfl fX7_21 (by first | rfl | exact st_o hb | exact st_1 hb | exact st_2 hb | exact st_3 hb | exact st_4 hb | exact st_5 hb | exact st_o hb2 | exact st_1 hb2 | exact st_2 hb2 | exact st_3 hb2 | exact st_4 hb2 | exact st_5 hb2) rfl dX7_seatFirmer_68 ?_
            refine g_iload1 72 rfl dX7_seatFirmer_71 ?_
            refine g_iald 73 rfl dX7_seatFirmer_72 (by first | rfl | exact st_o hb | exact st_1 hb | exact st_2 hb | exact st_3 hb | exact st_4 hb | exact st_5 hb | exact st_o hb2 | exact st_1 hb2 | exact st_2 hb2 | exact st_3 hb2 | exact st_4 hb2 | exact st_5 hb2) rfl rfl (by first | assumption | omega) ?_
            try simp only [hN, pC_1, pC_2, pC_3, pC_4, pC_5, pC_6, pC_7, set_1, set_2, set_3, set_4, set_5, set_6, set_7]
            refine g_iconst 74 rfl (v := 4) dX7_seatFirmer_73 (by decide) ?_
            refine g_cmpne 84 77 rfl dX7_seatFirmer_74 (by decide) (fun h74 => ?_) (fun h74 => ?_)
            · refine g_vret rfl dX7_seatFirmer_84 ?_
              refine ⟨rfl, ?_⟩
              try simp only [e1, e2, upd_at] at h49
              try simp only [e1, e2, upd_at] at h74
              first | (simp [firmS, *]; done) | (rw [h39] at h64; exact absurd h64 (by decide))
            · refine g_aload0 78 rfl dX7_seatFirmer_77 ?_
              refine g_getR 81 rfl fX7_9 (by first | rfl | exact st_o hb | exact st_1 hb | exact st_2 hb | exact st_3 hb | exact st_4 hb | exact st_5 hb | exact st_o hb2 | exact st_1 hb2 | exact st_2 hb2 | exact st_3 hb2 | exact st_4 hb2 | exact st_5 hb2) rfl dX7_seatFirmer_78 ?_
              refine g_iload1 82 rfl dX7_seatFirmer_81 ?_
              refine g_iconst 83 rfl (v := 0) dX7_seatFirmer_82 (by decide) ?_
              refine g_iast 84 rfl dX7_seatFirmer_83 (by first | rfl | exact st_o hb | exact st_1 hb | exact st_2 hb | exact st_3 hb | exact st_4 hb | exact st_5 hb | exact st_o hb2 | exact st_1 hb2 | exact st_2 hb2 | exact st_3 hb2 | exact st_4 hb2 | exact st_5 hb2) rfl rfl (by first | assumption | omega) ?_
              try simp only [hN, pC_1, pC_2, pC_3, pC_4, pC_5, pC_6, pC_7, set_1, set_2, set_3, set_4, set_5, set_6, set_7]
              refine g_vret rfl dX7_seatFirmer_84 ?_
              refine ⟨rfl, ?_⟩
              try simp only [e1, e2, upd_at] at h49
              try simp only [e1, e2, upd_at] at h74
              first | (simp [firmS, *]; done) | (rw [h39] at h64; exact absurd h64 (by decide))
        · refine g_aload0 53 rfl dX7_seatFirmer_52 ?_
          refine g_getR 56 rfl fX7_9 (by first | rfl | exact st_o hb | exact st_1 hb | exact st_2 hb | exact st_3 hb | exact st_4 hb | exact st_5 hb | exact st_o hb2 | exact st_1 hb2 | exact st_2 hb2 | exact st_3 hb2 | exact st_4 hb2 | exact st_5 hb2) rfl dX7_seatFirmer_53 ?_
          refine g_iload1 57 rfl dX7_seatFirmer_56 ?_
          refine g_iconst 58 rfl (v := 2) dX7_seatFirmer_57 (by decide) ?_
          refine g_iast 59 rfl dX7_seatFirmer_58 (by first | rfl | exact st_o hb | exact st_1 hb | exact st_2 hb | exact st_3 hb | exact st_4 hb | exact st_5 hb | exact st_o hb2 | exact st_1 hb2 | exact st_2 hb2 | exact st_3 hb2 | exact st_4 hb2 | exact st_5 hb2) rfl rfl (by first | assumption | omega) ?_
          try simp only [hN, pC_1, pC_2, pC_3, pC_4, pC_5, pC_6, pC_7, set_1, set_2, set_3, set_4, set_5, set_6, set_7]
          refine g_goto 84 dX7_seatFirmer_59 (by decide) ?_
          refine g_vret rfl dX7_seatFirmer_84 ?_
          refine ⟨rfl, ?_⟩
          try simp only [e1, e2, upd_at] at h49
          try simp only [e1, e2, upd_at] at h74
          first | (simp [firmS, *]; done) | (rw [h39] at h64; exact absurd h64 (by decide))
    · refine g_vret rfl dX7_seatFirmer_17 ?_
      refine ⟨rfl, ?_⟩
      try simp only [e1, e2, upd_at] at h49
      try simp only [e1, e2, upd_at] at h74
      first | (simp [firmS, *]; done) | (rw [h39] at h64; exact absurd h64 (by decide))
def strS (R W c : Nat) (w : Int32) (x : Sx) : Sx := firmS c (wH x (upd (sH x) c (sH x c - sinkS R W x c w)))
theorem ok_X7_strike {l : Launch} {M : Mm} {R W b c : Nat} {x : Sx} {w : Int32} (hb : isSt b) (hp : Plan M R W) (hc : c < R * W) : Oi GC l mX7_strike [.ref b, .int (nI c), .int w] (pC M b x) (sinkS R W x c w) (pC M b (strS R W c w x)) := by
  have h30 := hp.1.le
  have hN : ∀ y, (pC M b y).1 12 4 = nI (R * W) := fun y => (pC_plan (x := y) hb hp).2.2.2.1
  refine ok_of (by decide +kernel) rfl rfl ?_
  refine g_aload0 1 rfl dX7_strike_0 ?_
  refine g_iload1 2 rfl dX7_strike_1 ?_
  refine g_iload2 3 rfl dX7_strike_2 ?_
  refine g_callVi 6 2 rfl kX7_61 (by first | rfl | exact st_o hb | exact st_1 hb | exact st_2 hb | exact st_3 hb | exact st_4 hb | exact st_5 hb | exact st_o hb2 | exact st_1 hb2 | exact st_2 hb2 | exact st_3 hb2 | exact st_4 hb2 | exact st_5 hb2) dX7_strike_3 ⟨rfl, rfl⟩ (ok_X7_sinkBy hb hp hc) rfl rfl rfl ?_
  refine g_istore3 7 rfl dX7_strike_6 rfl rfl ?_
  refine g_aload0 8 rfl dX7_strike_7 ?_
  refine g_getR 11 rfl fX7_18 (by first | rfl | exact st_o hb | exact st_1 hb | exact st_2 hb | exact st_3 hb | exact st_4 hb | exact st_5 hb | exact st_o hb2 | exact st_1 hb2 | exact st_2 hb2 | exact st_3 hb2 | exact st_4 hb2 | exact st_5 hb2) rfl dX7_strike_8 ?_
  refine g_iload1 12 rfl dX7_strike_11 ?_
  refine g_dup2 13 rfl dX7_strike_12 rfl rfl ?_
  refine g_iald 14 rfl dX7_strike_13 (by first | rfl | exact st_o hb | exact st_1 hb | exact st_2 hb | exact st_3 hb | exact st_4 hb | exact st_5 hb | exact st_o hb2 | exact st_1 hb2 | exact st_2 hb2 | exact st_3 hb2 | exact st_4 hb2 | exact st_5 hb2) rfl rfl (by first | assumption | omega) ?_
  try simp only [hN, pC_1, pC_2, pC_3, pC_4, pC_5, pC_6, pC_7, set_1, set_2, set_3, set_4, set_5, set_6, set_7]
  refine g_iload3 15 rfl dX7_strike_14 ?_
  refine g_isub 16 rfl dX7_strike_15 ?_
  refine g_iast 17 rfl dX7_strike_16 (by first | rfl | exact st_o hb | exact st_1 hb | exact st_2 hb | exact st_3 hb | exact st_4 hb | exact st_5 hb | exact st_o hb2 | exact st_1 hb2 | exact st_2 hb2 | exact st_3 hb2 | exact st_4 hb2 | exact st_5 hb2) rfl rfl (by first | assumption | omega) ?_
  try simp only [hN, pC_1, pC_2, pC_3, pC_4, pC_5, pC_6, pC_7, set_1, set_2, set_3, set_4, set_5, set_6, set_7]
  refine g_aload0 18 rfl dX7_strike_17 ?_
  refine g_iload1 19 rfl dX7_strike_18 ?_
  refine g_callVv 22 1 rfl kX7_64 (by first | rfl | exact st_o hb | exact st_1 hb | exact st_2 hb | exact st_3 hb | exact st_4 hb | exact st_5 hb | exact st_o hb2 | exact st_1 hb2 | exact st_2 hb2 | exact st_3 hb2 | exact st_4 hb2 | exact st_5 hb2) dX7_strike_19 ⟨rfl, rfl⟩ (ok_X7_seatFirmer hb hp hc) rfl rfl rfl ?_
  refine g_iload3 23 rfl dX7_strike_22 ?_
  refine g_iret rfl dX7_strike_23 ?_
  exact ⟨rfl, rfl⟩
def ringN (R W : Nat) (x : Sx) (w : Int32) : Nat → Int32
  | 0 => 0
  | i + 1 => if sK x i = -1 then ringN R W x w i else if sinkS R W x i w = 0 then ringN R W x w i + 1 else ringN R W x w i
theorem ok_X7_ringing {l : Launch} {M : Mm} {R W b : Nat} {x : Sx} {w : Int32} (hb : isSt b) (hp : Plan M R W) : Oi GC l mX7_ringing [.ref b, .int w] (pC M b x) (ringN R W x w (R * W)) (pC M b x) := by
  have h30 := hp.1.le
  have hN : ∀ y, (pC M b y).1 12 4 = nI (R * W) := fun y => (pC_plan (x := y) hb hp).2.2.2.1
  refine ok_of (by decide +kernel) rfl rfl ?_
  refine g_iconst 1 rfl (v := 0) dX7_ringing_0 (by decide) ?_
  refine g_istore2 2 rfl dX7_ringing_1 rfl rfl ?_
  refine g_iconst 3 rfl (v := 0) dX7_ringing_2 (by decide) ?_
  refine g_istore3 4 rfl dX7_ringing_3 rfl rfl ?_
  refine loop_up (P := fun i => Go GC l mX7_ringing 4 [.ref b, .int w, .int (ringN R W x w i), .int (nI i)] [] (pC M b x) _) (R * W) ?_ ?_ 0 (by omega)
  · refine g_iload3 5 rfl dX7_ringing_4 ?_
    refine g_aload0 6 rfl dX7_ringing_5 ?_
    refine g_getR 9 rfl fX7_34 (by first | rfl | exact st_o hb | exact st_1 hb | exact st_2 hb | exact st_3 hb | exact st_4 hb | exact st_5 hb | exact st_o hb2 | exact st_1 hb2 | exact st_2 hb2 | exact st_3 hb2 | exact st_4 hb2 | exact st_5 hb2) rfl dX7_ringing_6 ?_
    refine g_getI 12 rfl fX7_38 (by first | rfl | exact st_o hb | exact st_1 hb | exact st_2 hb | exact st_3 hb | exact st_4 hb | exact st_5 hb | exact st_o hb2 | exact st_1 hb2 | exact st_2 hb2 | exact st_3 hb2 | exact st_4 hb2 | exact st_5 hb2) rfl dX7_ringing_9 ?_
    try simp only [hN, pC_1, pC_2, pC_3, pC_4, pC_5, pC_6, pC_7, set_1, set_2, set_3, set_4, set_5, set_6, set_7]
    refine g_cmpge 43 15 rfl dX7_ringing_12 (by decide) (fun h12 => ?_) (fun h => absurd (Int32.le_refl _) h)
    refine g_iload2 44 rfl dX7_ringing_43 ?_
    refine g_iret rfl dX7_ringing_44 ?_
    exact ⟨rfl, rfl⟩
  · intro i hi ih
    refine g_iload3 5 rfl dX7_ringing_4 ?_
    refine g_aload0 6 rfl dX7_ringing_5 ?_
    refine g_getR 9 rfl fX7_34 (by first | rfl | exact st_o hb | exact st_1 hb | exact st_2 hb | exact st_3 hb | exact st_4 hb | exact st_5 hb | exact st_o hb2 | exact st_1 hb2 | exact st_2 hb2 | exact st_3 hb2 | exact st_4 hb2 | exact st_5 hb2) rfl dX7_ringing_6 ?_
    refine g_getI 12 rfl fX7_38 (by first | rfl | exact st_o hb | exact st_1 hb | exact st_2 hb | exact st_3 hb | exact st_4 hb | exact st_5 hb | exact st_o hb2 | exact st_1 hb2 | exact st_2 hb2 | exact st_3 hb2 | exact st_4 hb2 | exact st_5 hb2) rfl dX7_ringing_9 ?_
    try simp only [hN, pC_1, pC_2, pC_3, pC_4, pC_5, pC_6, pC_7, set_1, set_2, set_3, set_4, set_5, set_6, set_7]
    refine g_cmpge 43 15 rfl dX7_ringing_12 (by decide) (fun h => absurd h (nI_ge hi (by omega))) (fun h12 => ?_)
    refine g_aload0 16 rfl dX7_ringing_15 ?_
    refine g_getR 19 rfl fX7_9 (by first | rfl | exact st_o hb | exact st_1 hb | exact st_2 hb | exact st_3 hb | exact st_4 hb | exact st_5 hb | exact st_o hb2 | exact st_1 hb2 | exact st_2 hb2 | exact st_3 hb2 | exact st_4 hb2 | exact st_5 hb2) rfl dX7_ringing_16 ?_
    refine g_iload3 20 rfl dX7_ringing_19 ?_
    refine g_iald 21 rfl dX7_ringing_20 (by first | rfl | exact st_o hb | exact st_1 hb | exact st_2 hb | exact st_3 hb | exact st_4 hb | exact st_5 hb | exact st_o hb2 | exact st_1 hb2 | exact st_2 hb2 | exact st_3 hb2 | exact st_4 hb2 | exact st_5 hb2) rfl rfl (by first | assumption | omega) ?_
    try simp only [hN, pC_1, pC_2, pC_3, pC_4, pC_5, pC_6, pC_7, set_1, set_2, set_3, set_4, set_5, set_6, set_7]
    refine g_iconst 22 rfl (v := (-1)) dX7_ringing_21 (by decide) ?_
    refine g_cmpeq 37 25 rfl dX7_ringing_22 (by decide) (fun h22 => ?_) (fun h22 => ?_)
    · refine g_iinc3 40 rfl dX7_ringing_37 rfl rfl _ (by first | exact iinc1 _ | exact iincx _ | rfl) ?_
      refine g_goto 4 dX7_ringing_40 (by decide) ?_
      simpa only [ringN, *, if_true, if_false] using ih
    · refine g_aload0 26 rfl dX7_ringing_25 ?_
      refine g_iload3 27 rfl dX7_ringing_26 ?_
      refine g_iload1 28 rfl dX7_ringing_27 ?_
      refine g_callVi 31 2 rfl kX7_61 (by first | rfl | exact st_o hb | exact st_1 hb | exact st_2 hb | exact st_3 hb | exact st_4 hb | exact st_5 hb | exact st_o hb2 | exact st_1 hb2 | exact st_2 hb2 | exact st_3 hb2 | exact st_4 hb2 | exact st_5 hb2) dX7_ringing_28 ⟨rfl, rfl⟩ (ok_X7_sinkBy hb hp hi) rfl rfl rfl ?_
      refine g_ifne 37 34 rfl dX7_ringing_31 (by decide) (fun h31 => ?_) (fun h31 => ?_)
      · refine g_iinc3 40 rfl dX7_ringing_37 rfl rfl _ (by first | exact iinc1 _ | exact iincx _ | rfl) ?_
        refine g_goto 4 dX7_ringing_40 (by decide) ?_
        simpa only [ringN, *, if_true, if_false] using ih
      · refine g_iinc2 37 rfl dX7_ringing_34 rfl rfl _ (by first | exact iinc1 _ | exact iincx _ | rfl) ?_
        refine g_iinc3 40 rfl dX7_ringing_37 rfl rfl _ (by first | exact iinc1 _ | exact iincx _ | rfl) ?_
        refine g_goto 4 dX7_ringing_40 (by decide) ?_
        simpa only [ringN, *, if_true, if_false] using ih
def stoN (x : Sx) : Nat → Int32
  | 0 => 0
  | i + 1 => if sK x i = -1 then stoN x i else stoN x i + 1
theorem ok_X7_stones {l : Launch} {M : Mm} {R W b : Nat} {x : Sx} (hb : isSt b) (hp : Plan M R W) : Oi GC l mX7_stones [.ref b] (pC M b x) (stoN x (R * W)) (pC M b x) := by
  have h30 := hp.1.le
  have hN : ∀ y, (pC M b y).1 12 4 = nI (R * W) := fun y => (pC_plan (x := y) hb hp).2.2.2.1
  refine ok_of (by decide +kernel) rfl rfl ?_
  refine g_iconst 1 rfl (v := 0) dX7_stones_0 (by decide) ?_
  refine g_istore1 2 rfl dX7_stones_1 rfl rfl ?_
  refine g_iconst 3 rfl (v := 0) dX7_stones_2 (by decide) ?_
  refine g_istore2 4 rfl dX7_stones_3 rfl rfl ?_
  refine loop_up (P := fun i => Go GC l mX7_stones 4 [.ref b, .int (stoN x i), .int (nI i)] [] (pC M b x) _) (R * W) ?_ ?_ 0 (by omega)
  · refine g_iload2 5 rfl dX7_stones_4 ?_
    refine g_aload0 6 rfl dX7_stones_5 ?_
    refine g_getR 9 rfl fX7_34 (by first | rfl | exact st_o hb | exact st_1 hb | exact st_2 hb | exact st_3 hb | exact st_4 hb | exact st_5 hb | exact st_o hb2 | exact st_1 hb2 | exact st_2 hb2 | exact st_3 hb2 | exact st_4 hb2 | exact st_5 hb2) rfl dX7_stones_6 ?_
    refine g_getI 12 rfl fX7_38 (by first | rfl | exact st_o hb | exact st_1 hb | exact st_2 hb | exact st_3 hb | exact st_4 hb | exact st_5 hb | exact st_o hb2 | exact st_1 hb2 | exact st_2 hb2 | exact st_3 hb2 | exact st_4 hb2 | exact st_5 hb2) rfl dX7_stones_9 ?_
    try simp only [hN, pC_1, pC_2, pC_3, pC_4, pC_5, pC_6, pC_7, set_1, set_2, set_3, set_4, set_5, set_6, set_7]
    refine g_cmpge 34 15 rfl dX7_stones_12 (by decide) (fun h12 => ?_) (fun h => absurd (Int32.le_refl _) h)
    refine g_iload1 35 rfl dX7_stones_34 ?_
    refine g_iret rfl dX7_stones_35 ?_
    exact ⟨rfl, rfl⟩
  · intro i hi ih
    refine g_iload2 5 rfl dX7_stones_4 ?_
    refine g_aload0 6 rfl dX7_stones_5 ?_
    refine g_getR 9 rfl fX7_34 (by first | rfl | exact st_o hb | exact st_1 hb | exact st_2 hb | exact st_3 hb | exact st_4 hb | exact st_5 hb | exact st_o hb2 | exact st_1 hb2 | exact st_2 hb2 | exact st_3 hb2 | exact st_4 hb2 | exact st_5 hb2) rfl dX7_stones_6 ?_
    refine g_getI 12 rfl fX7_38 (by first | rfl | exact st_o hb | exact st_1 hb | exact st_2 hb | exact st_3 hb | exact st_4 hb | exact st_5 hb | exact st_o hb2 | exact st_1 hb2 | exact st_2 hb2 | exact st_3 hb2 | exact st_4 hb2 | exact st_5 hb2) rfl dX7_stones_9 ?_
    try simp only [hN, pC_1, pC_2, pC_3, pC_4, pC_5, pC_6, pC_7, set_1, set_2, set_3, set_4, set_5, set_6, set_7]
    refine g_cmpge 34 15 rfl dX7_stones_12 (by decide) (fun h => absurd h (nI_ge hi (by omega))) (fun h12 => ?_)
    refine g_aload0 16 rfl dX7_stones_15 ?_
    refine g_getR 19 rfl fX7_9 (by first | rfl | exact st_o hb | exact st_1 hb | exact st_2 hb | exact st_3 hb | exact st_4 hb | exact st_5 hb | exact st_o hb2 | exact st_1 hb2 | exact st_2 hb2 | exact st_3 hb2 | exact st_4 hb2 | exact st_5 hb2) rfl dX7_stones_16 ?_
    refine g_iload2 20 rfl dX7_stones_19 ?_
    refine g_iald 21 rfl dX7_stones_20 (by first | rfl | exact st_o hb | exact st_1 hb | exact st_2 hb | exact st_3 hb | exact st_4 hb | exact st_5 hb | exact st_o hb2 | exact st_1 hb2 | exact st_2 hb2 | exact st_3 hb2 | exact st_4 hb2 | exact st_5 hb2) rfl rfl (by first | assumption | omega) ?_
    try simp only [hN, pC_1, pC_2, pC_3, pC_4, pC_5, pC_6, pC_7, set_1, set_2, set_3, set_4, set_5, set_6, set_7]
    refine g_iconst 22 rfl (v := (-1)) dX7_stones_21 (by decide) ?_
    refine g_cmpeq 28 25 rfl dX7_stones_22 (by decide) (fun h22 => ?_) (fun h22 => ?_)
    · refine g_iinc2 31 rfl dX7_stones_28 rfl rfl _ (by first | exact iinc1 _ | exact iincx _ | rfl) ?_
      refine g_goto 4 dX7_stones_31 (by decide) ?_
      simpa only [stoN, *, if_true, if_false] using ih
    · refine g_iinc1 28 rfl dX7_stones_25 rfl rfl _ (by first | exact iinc1 _ | exact iincx _ | rfl) ?_
      refine g_iinc2 31 rfl dX7_stones_28 rfl rfl _ (by first | exact iinc1 _ | exact iincx _ | rfl) ?_
      refine g_goto 4 dX7_stones_31 (by decide) ?_
      simpa only [stoN, *, if_true, if_false] using ih
def lowN (x : Sx) : Nat → Int32
  | 0 => 2147483647
  | i + 1 => if sK x i = -1 then lowN x i else if sH x i < lowN x i then sH x i else lowN x i
def higN (x : Sx) : Nat → Int32
  | 0 => -2147483648
  | i + 1 => if sK x i = -1 then higN x i else if higN x i < sH x i then sH x i else higN x i
def sprS (R W : Nat) (x : Sx) : Int32 := if lowN x (R * W) ≤ higN x (R * W) then higN x (R * W) - lowN x (R * W) else 0
theorem ok_X7_spread {l : Launch} {M : Mm} {R W b : Nat} {x : Sx} (hb : isSt b) (hp : Plan M R W) : Oi GC l mX7_spread [.ref b] (pC M b x) (sprS R W x) (pC M b x) := by
  have h30 := hp.1.le
  have hN : ∀ y, (pC M b y).1 12 4 = nI (R * W) := fun y => (pC_plan (x := y) hb hp).2.2.2.1
  refine ok_of (by decide +kernel) rfl rfl ?_
  refine g_ldc 2 rfl dX7_spread_0 cX7_73 ?_
  refine g_istore1 3 rfl dX7_spread_2 rfl rfl ?_
  refine g_ldc 5 rfl dX7_spread_3 cX7_74 ?_
  refine g_istore2 6 rfl dX7_spread_5 rfl rfl ?_
  refine g_iconst 7 rfl (v := 0) dX7_spread_6 (by decide) ?_
  refine g_istore3 8 rfl dX7_spread_7 rfl rfl ?_
  refine loop_up (P := fun i => Go GC l mX7_spread 8 [.ref b, .int (lowN x i), .int (higN x i), .int (nI i)] [] (pC M b x) _) (R * W) ?_ ?_ 0 (by omega)
  · refine g_iload3 9 rfl dX7_spread_8 ?_
    refine g_aload0 10 rfl dX7_spread_9 ?_
    refine g_getR 13 rfl fX7_34 (by first | rfl | exact st_o hb | exact st_1 hb | exact st_2 hb | exact st_3 hb | exact st_4 hb | exact st_5 hb | exact st_o hb2 | exact st_1 hb2 | exact st_2 hb2 | exact st_3 hb2 | exact st_4 hb2 | exact st_5 hb2) rfl dX7_spread_10 ?_
    refine g_getI 16 rfl fX7_38 (by first | rfl | exact st_o hb | exact st_1 hb | exact st_2 hb | exact st_3 hb | exact st_4 hb | exact st_5 hb | exact st_o hb2 | exact st_1 hb2 | exact st_2 hb2 | exact st_3 hb2 | exact st_4 hb2 | exact st_5 hb2) rfl dX7_spread_13 ?_
    try simp only [hN, pC_1, pC_2, pC_3, pC_4, pC_5, pC_6, pC_7, set_1, set_2, set_3, set_4, set_5, set_6, set_7]
    refine g_cmpge 57 19 rfl dX7_spread_16 (by decide) (fun h16 => ?_) (fun h => absurd (Int32.le_refl _) h)
    refine g_iload1 58 rfl dX7_spread_57 ?_
    refine g_iload2 59 rfl dX7_spread_58 ?_
    refine g_cmple 66 62 rfl dX7_spread_59 (by decide) (fun h59 => ?_) (fun h59 => ?_)
    · refine g_iload2 67 rfl dX7_spread_66 ?_
      refine g_iload1 68 rfl dX7_spread_67 ?_
      refine g_isub 69 rfl dX7_spread_68 ?_
      refine g_iret rfl dX7_spread_69 ?_
      exact ⟨by simp [sprS, *], rfl⟩
    · refine g_iconst 63 rfl (v := 0) dX7_spread_62 (by decide) ?_
      refine g_goto 69 dX7_spread_63 (by decide) ?_
      refine g_iret rfl dX7_spread_69 ?_
      exact ⟨by simp [sprS, *], rfl⟩
  · intro i hi ih
    refine g_iload3 9 rfl dX7_spread_8 ?_
    refine g_aload0 10 rfl dX7_spread_9 ?_
    refine g_getR 13 rfl fX7_34 (by first | rfl | exact st_o hb | exact st_1 hb | exact st_2 hb | exact st_3 hb | exact st_4 hb | exact st_5 hb | exact st_o hb2 | exact st_1 hb2 | exact st_2 hb2 | exact st_3 hb2 | exact st_4 hb2 | exact st_5 hb2) rfl dX7_spread_10 ?_
    refine g_getI 16 rfl fX7_38 (by first | rfl | exact st_o hb | exact st_1 hb | exact st_2 hb | exact st_3 hb | exact st_4 hb | exact st_5 hb | exact st_o hb2 | exact st_1 hb2 | exact st_2 hb2 | exact st_3 hb2 | exact st_4 hb2 | exact st_5 hb2) rfl dX7_spread_13 ?_
    try simp only [hN, pC_1, pC_2, pC_3, pC_4, pC_5, pC_6, pC_7, set_1, set_2, set_3, set_4, set_5, set_6, set_7]
    refine g_cmpge 57 19 rfl dX7_spread_16 (by decide) (fun h => absurd h (nI_ge hi (by omega))) (fun h16 => ?_)
    refine g_aload0 20 rfl dX7_spread_19 ?_
    refine g_getR 23 rfl fX7_9 (by first | rfl | exact st_o hb | exact st_1 hb | exact st_2 hb | exact st_3 hb | exact st_4 hb | exact st_5 hb | exact st_o hb2 | exact st_1 hb2 | exact st_2 hb2 | exact st_3 hb2 | exact st_4 hb2 | exact st_5 hb2) rfl dX7_spread_20 ?_
    refine g_iload3 24 rfl dX7_spread_23 ?_
    refine g_iald 25 rfl dX7_spread_24 (by first | rfl | exact st_o hb | exact st_1 hb | exact st_2 hb | exact st_3 hb | exact st_4 hb | exact st_5 hb | exact st_o hb2 | exact st_1 hb2 | exact st_2 hb2 | exact st_3 hb2 | exact st_4 hb2 | exact st_5 hb2) rfl rfl (by first | assumption | omega) ?_
    try simp only [hN, pC_1, pC_2, pC_3, pC_4, pC_5, pC_6, pC_7, set_1, set_2, set_3, set_4, set_5, set_6, set_7]
    refine g_iconst 26 rfl (v := (-1)) dX7_spread_25 (by decide) ?_
    refine g_cmpeq 51 29 rfl dX7_spread_26 (by decide) (fun h26 => ?_) (fun h26 => ?_)
    · refine g_iinc3 54 rfl dX7_spread_51 rfl rfl _ (by first | exact iinc1 _ | exact iincx _ | rfl) ?_
      refine g_goto 8 dX7_spread_54 (by decide) ?_
      simpa only [lowN, higN, *, if_true, if_false] using ih
    · refine g_iload1 30 rfl dX7_spread_29 ?_
      refine g_aload0 31 rfl dX7_spread_30 ?_
      refine g_getR 34 rfl fX7_18 (by first | rfl | exact st_o hb | exact st_1 hb | exact st_2 hb | exact st_3 hb | exact st_4 hb | exact st_5 hb | exact st_o hb2 | exact st_1 hb2 | exact st_2 hb2 | exact st_3 hb2 | exact st_4 hb2 | exact st_5 hb2) rfl dX7_spread_31 ?_
      refine g_iload3 35 rfl dX7_spread_34 ?_
      refine g_iald 36 rfl dX7_spread_35 (by first | rfl | exact st_o hb | exact st_1 hb | exact st_2 hb | exact st_3 hb | exact st_4 hb | exact st_5 hb | exact st_o hb2 | exact st_1 hb2 | exact st_2 hb2 | exact st_3 hb2 | exact st_4 hb2 | exact st_5 hb2) rfl rfl (by first | assumption | omega) ?_
      try simp only [hN, pC_1, pC_2, pC_3, pC_4, pC_5, pC_6, pC_7, set_1, set_2, set_3, set_4, set_5, set_6, set_7]
      refine g_mmin 39 rfl kX7_68 dX7_spread_36 mt_min.1 mt_min.2.1 mt_min.2.2 ⟨rfl, rfl⟩ rfl ?_
      refine g_istore1 40 rfl dX7_spread_39 rfl rfl ?_
      refine g_iload2 41 rfl dX7_spread_40 ?_
      refine g_aload0 42 rfl dX7_spread_41 ?_
      refine g_getR 45 rfl fX7_18 (by first | rfl | exact st_o hb | exact st_1 hb | exact st_2 hb | exact st_3 hb | exact st_4 hb | exact st_5 hb | exact st_o hb2 | exact st_1 hb2 | exact st_2 hb2 | exact st_3 hb2 | exact st_4 hb2 | exact st_5 hb2) rfl dX7_spread_42 ?_
      refine g_iload3 46 rfl dX7_spread_45 ?_
      refine g_iald 47 rfl dX7_spread_46 (by first | rfl | exact st_o hb | exact st_1 hb | exact st_2 hb | exact st_3 hb | exact st_4 hb | exact st_5 hb | exact st_o hb2 | exact st_1 hb2 | exact st_2 hb2 | exact st_3 hb2 | exact st_4 hb2 | exact st_5 hb2) rfl rfl (by first | assumption | omega) ?_
      try simp only [hN, pC_1, pC_2, pC_3, pC_4, pC_5, pC_6, pC_7, set_1, set_2, set_3, set_4, set_5, set_6, set_7]
      refine g_mmax 50 rfl kX7_75 dX7_spread_47 mt_max.1 mt_max.2.1 mt_max.2.2 ⟨rfl, rfl⟩ rfl ?_
      refine g_istore2 51 rfl dX7_spread_50 rfl rfl ?_
      refine g_iinc3 54 rfl dX7_spread_51 rfl rfl _ (by first | exact iinc1 _ | exact iincx _ | rfl) ?_
      refine g_goto 8 dX7_spread_54 (by decide) ?_
      simpa only [lowN, higN, *, if_true, if_false] using ih
/-- a body for each number in turn -/
def itN {α : Type} (f : Nat → α → α) : Nat → α → α
  | 0, x => x
  | n + 1, x => f n (itN f n x)
def levB (h : Int32) (i : Nat) (x : Sx) : Sx := if sK x i = -1 then x else wS (wH x (upd (sH x) i h)) (upd (sS x) i 0)
theorem ok_X7_level {l : Launch} {M : Mm} {R W b : Nat} {x : Sx} {h : Int32} (hb : isSt b) (hp : Plan M R W) : Ov GC l mX7_level [.ref b, .int h] (pC M b x) (pC M b (itN (levB h) (R * W) x)) := by
  have h30 := hp.1.le
  have hN : ∀ y, (pC M b y).1 12 4 = nI (R * W) := fun y => (pC_plan (x := y) hb hp).2.2.2.1
  refine ok_of (by decide +kernel) rfl rfl ?_
  refine g_iconst 1 rfl (v := 0) dX7_level_0 (by decide) ?_
  refine g_istore2 2 rfl dX7_level_1 rfl rfl ?_
  refine loop_up (P := fun i => Go GC l mX7_level 2 [.ref b, .int h, .int (nI i)] [] (pC M b (itN (levB h) i x)) _) (R * W) ?_ ?_ 0 (by omega)
  · refine g_iload2 3 rfl dX7_level_2 ?_
    refine g_aload0 4 rfl dX7_level_3 ?_
    refine g_getR 7 rfl fX7_34 (by first | rfl | exact st_o hb | exact st_1 hb | exact st_2 hb | exact st_3 hb | exact st_4 hb | exact st_5 hb | exact st_o hb2 | exact st_1 hb2 | exact st_2 hb2 | exact st_3 hb2 | exact st_4 hb2 | exact st_5 hb2) rfl dX7_level_4 ?_
    refine g_getI 10 rfl fX7_38 (by first | rfl | exact st_o hb | exact st_1 hb | exact st_2 hb | exact st_3 hb | exact st_4 hb | exact st_5 hb | exact st_o hb2 | exact st_1 hb2 | exact st_2 hb2 | exact st_3 hb2 | exact st_4 hb2 | exact st_5 hb2) rfl dX7_level_7 ?_
    try simp only [hN, pC_1, pC_2, pC_3, pC_4, pC_5, pC_6, pC_7, set_1, set_2, set_3, set_4, set_5, set_6, set_7]
    refine g_cmpge 43 13 rfl dX7_level_10 (by decide) (fun h10 => ?_) (fun h => absurd (Int32.le_refl _) h)
    refine g_vret rfl dX7_level_43 ?_
    exact ⟨rfl, rfl⟩
  · intro i hi ih
    refine g_iload2 3 rfl dX7_level_2 ?_
    refine g_aload0 4 rfl dX7_level_3 ?_
    refine g_getR 7 rfl fX7_34 (by first | rfl | exact st_o hb | exact st_1 hb | exact st_2 hb | exact st_3 hb | exact st_4 hb | exact st_5 hb | exact st_o hb2 | exact st_1 hb2 | exact st_2 hb2 | exact st_3 hb2 | exact st_4 hb2 | exact st_5 hb2) rfl dX7_level_4 ?_
    refine g_getI 10 rfl fX7_38 (by first | rfl | exact st_o hb | exact st_1 hb | exact st_2 hb | exact st_3 hb | exact st_4 hb | exact st_5 hb | exact st_o hb2 | exact st_1 hb2 | exact st_2 hb2 | exact st_3 hb2 | exact st_4 hb2 | exact st_5 hb2) rfl dX7_level_7 ?_
    try simp only [hN, pC_1, pC_2, pC_3, pC_4, pC_5, pC_6, pC_7, set_1, set_2, set_3, set_4, set_5, set_6, set_7]
    refine g_cmpge 43 13 rfl dX7_level_10 (by decide) (fun h => absurd h (nI_ge hi (by omega))) (fun h10 => ?_)
    refine g_aload0 14 rfl dX7_level_13 ?_
    refine g_getR 17 rfl fX7_9 (by first | rfl | exact st_o hb | exact st_1 hb | exact st_2 hb | exact st_3 hb | exact st_4 hb | exact st_5 hb | exact st_o hb2 | exact st_1 hb2 | exact st_2 hb2 | exact st_3 hb2 | exact st_4 hb2 | exact st_5 hb2) rfl dX7_level_14 ?_
    refine g_iload2 18 rfl dX7_level_17 ?_
    refine g_iald 19 rfl dX7_level_18 (by first | rfl | exact st_o hb | exact st_1 hb | exact st_2 hb | exact st_3 hb | exact st_4 hb | exact st_5 hb | exact st_o hb2 | exact st_1 hb2 | exact st_2 hb2 | exact st_3 hb2 | exact st_4 hb2 | exact st_5 hb2) rfl rfl (by first | assumption | omega) ?_
    try simp only [hN, pC_1, pC_2, pC_3, pC_4, pC_5, pC_6, pC_7, set_1, set_2, set_3, set_4, set_5, set_6, set_7]
    refine g_iconst 20 rfl (v := (-1)) dX7_level_19 (by decide) ?_
    refine g_cmpeq 37 23 rfl dX7_level_20 (by decide) (fun h20 => ?_) (fun h20 => ?_)
    · refine g_iinc2 40 rfl dX7_level_37 rfl rfl _ (by first | exact iinc1 _ | exact iincx _ | rfl) ?_
      refine g_goto 2 dX7_level_40 (by decide) ?_
      (simp only [itN, levB, *, if_true, if_false] at ih; exact ih)
    · refine g_aload0 24 rfl dX7_level_23 ?_
      refine g_getR 27 rfl fX7_18 (by first | rfl | exact st_o hb | exact st_1 hb | exact st_2 hb | exact st_3 hb | exact st_4 hb | exact st_5 hb | exact st_o hb2 | exact st_1 hb2 | exact st_2 hb2 | exact st_3 hb2 | exact st_4 hb2 | exact st_5 hb2) rfl dX7_level_24 ?_
      refine g_iload2 28 rfl dX7_level_27 ?_
      refine g_iload1 29 rfl dX7_level_28 ?_
      refine g_iast 30 rfl dX7_level_29 (by first | rfl | exact st_o hb | exact st_1 hb | exact st_2 hb | exact st_3 hb | exact st_4 hb | exact st_5 hb | exact st_o hb2 | exact st_1 hb2 | exact st_2 hb2 | exact st_3 hb2 | exact st_4 hb2 | exact st_5 hb2) rfl rfl (by first | assumption | omega) ?_
      try simp only [hN, pC_1, pC_2, pC_3, pC_4, pC_5, pC_6, pC_7, set_1, set_2, set_3, set_4, set_5, set_6, set_7]
      refine g_aload0 31 rfl dX7_level_30 ?_
      refine g_getR 34 rfl fX7_21 (by first | rfl | exact st_o hb | exact st_1 hb | exact st_2 hb | exact st_3 hb | exact st_4 hb | exact st_5 hb | exact st_o hb2 | exact st_1 hb2 | exact st_2 hb2 | exact st_3 hb2 | exact st_4 hb2 | exact st_5 hb2) rfl dX7_level_31 ?_
      refine g_iload2 35 rfl dX7_level_34 ?_
      refine g_iconst 36 rfl (v := 0) dX7_level_35 (by decide) ?_
      refine g_iast 37 rfl dX7_level_36 (by first | rfl | exact st_o hb | exact st_1 hb | exact st_2 hb | exact st_3 hb | exact st_4 hb | exact st_5 hb | exact st_o hb2 | exact st_1 hb2 | exact st_2 hb2 | exact st_3 hb2 | exact st_4 hb2 | exact st_5 hb2) rfl rfl (by first | assumption | omega) ?_
      try simp only [hN, pC_1, pC_2, pC_3, pC_4, pC_5, pC_6, pC_7, set_1, set_2, set_3, set_4, set_5, set_6, set_7]
      refine g_iinc2 40 rfl dX7_level_37 rfl rfl _ (by first | exact iinc1 _ | exact iincx _ | rfl) ?_
      refine g_goto 2 dX7_level_40 (by decide) ?_
      (simp only [itN, levB, *, if_true, if_false] at ih; exact ih)
def griB (v : Int32) (i : Nat) (x : Sx) : Sx := if sK x i = -1 then x else wJ x (upd (sJ x) i v)
theorem ok_X7_fillJoints {l : Launch} {M : Mm} {R W b : Nat} {x : Sx} {v : Int32} (hb : isSt b) (hp : Plan M R W) : Ov GC l mX7_fillJoints [.ref b, .int v] (pC M b x) (pC M b (itN (griB v) (R * W) x)) := by
  have h30 := hp.1.le
  have hN : ∀ y, (pC M b y).1 12 4 = nI (R * W) := fun y => (pC_plan (x := y) hb hp).2.2.2.1
  refine ok_of (by decide +kernel) rfl rfl ?_
  refine g_iconst 1 rfl (v := 0) dX7_fillJoints_0 (by decide) ?_
  refine g_istore2 2 rfl dX7_fillJoints_1 rfl rfl ?_
  refine loop_up (P := fun i => Go GC l mX7_fillJoints 2 [.ref b, .int v, .int (nI i)] [] (pC M b (itN (griB v) i x)) _) (R * W) ?_ ?_ 0 (by omega)
  · refine g_iload2 3 rfl dX7_fillJoints_2 ?_
    refine g_aload0 4 rfl dX7_fillJoints_3 ?_
    refine g_getR 7 rfl fX7_34 (by first | rfl | exact st_o hb | exact st_1 hb | exact st_2 hb | exact st_3 hb | exact st_4 hb | exact st_5 hb | exact st_o hb2 | exact st_1 hb2 | exact st_2 hb2 | exact st_3 hb2 | exact st_4 hb2 | exact st_5 hb2) rfl dX7_fillJoints_4 ?_
    refine g_getI 10 rfl fX7_38 (by first | rfl | exact st_o hb | exact st_1 hb | exact st_2 hb | exact st_3 hb | exact st_4 hb | exact st_5 hb | exact st_o hb2 | exact st_1 hb2 | exact st_2 hb2 | exact st_3 hb2 | exact st_4 hb2 | exact st_5 hb2) rfl dX7_fillJoints_7 ?_
    try simp only [hN, pC_1, pC_2, pC_3, pC_4, pC_5, pC_6, pC_7, set_1, set_2, set_3, set_4, set_5, set_6, set_7]
    refine g_cmpge 36 13 rfl dX7_fillJoints_10 (by decide) (fun h10 => ?_) (fun h => absurd (Int32.le_refl _) h)
    refine g_vret rfl dX7_fillJoints_36 ?_
    exact ⟨rfl, rfl⟩
  · intro i hi ih
    refine g_iload2 3 rfl dX7_fillJoints_2 ?_
    refine g_aload0 4 rfl dX7_fillJoints_3 ?_
    refine g_getR 7 rfl fX7_34 (by first | rfl | exact st_o hb | exact st_1 hb | exact st_2 hb | exact st_3 hb | exact st_4 hb | exact st_5 hb | exact st_o hb2 | exact st_1 hb2 | exact st_2 hb2 | exact st_3 hb2 | exact st_4 hb2 | exact st_5 hb2) rfl dX7_fillJoints_4 ?_
    refine g_getI 10 rfl fX7_38 (by first | rfl | exact st_o hb | exact st_1 hb | exact st_2 hb | exact st_3 hb | exact st_4 hb | exact st_5 hb | exact st_o hb2 | exact st_1 hb2 | exact st_2 hb2 | exact st_3 hb2 | exact st_4 hb2 | exact st_5 hb2) rfl dX7_fillJoints_7 ?_
    try simp only [hN, pC_1, pC_2, pC_3, pC_4, pC_5, pC_6, pC_7, set_1, set_2, set_3, set_4, set_5, set_6, set_7]
    refine g_cmpge 36 13 rfl dX7_fillJoints_10 (by decide) (fun h => absurd h (nI_ge hi (by omega))) (fun h10 => ?_)
    refine g_aload0 14 rfl dX7_fillJoints_13 ?_
    refine g_getR 17 rfl fX7_9 (by first | rfl | exact st_o hb | exact st_1 hb | exact st_2 hb | exact st_3 hb | exact st_4 hb | exact st_5 hb | exact st_o hb2 | exact st_1 hb2 | exact st_2 hb2 | exact st_3 hb2 | exact st_4 hb2 | exact st_5 hb2) rfl dX7_fillJoints_14 ?_
    refine g_iload2 18 rfl dX7_fillJoints_17 ?_
    refine g_iald 19 rfl dX7_fillJoints_18 (by first | rfl | exact st_o hb | exact st_1 hb | exact st_2 hb | exact st_3 hb | exact st_4 hb | exact st_5 hb | exact st_o hb2 | exact st_1 hb2 | exact st_2 hb2 | exact st_3 hb2 | exact st_4 hb2 | exact st_5 hb2) rfl rfl (by first | assumption | omega) ?_
    try simp only [hN, pC_1, pC_2, pC_3, pC_4, pC_5, pC_6, pC_7, set_1, set_2, set_3, set_4, set_5, set_6, set_7]
    refine g_iconst 20 rfl (v := (-1)) dX7_fillJoints_19 (by decide) ?_
    refine g_cmpeq 30 23 rfl dX7_fillJoints_20 (by decide) (fun h20 => ?_) (fun h20 => ?_)
    · refine g_iinc2 33 rfl dX7_fillJoints_30 rfl rfl _ (by first | exact iinc1 _ | exact iincx _ | rfl) ?_
      refine g_goto 2 dX7_fillJoints_33 (by decide) ?_
      simpa only [itN, griB, *, if_true, if_false] using ih
    · refine g_aload0 24 rfl dX7_fillJoints_23 ?_
      refine g_getR 27 rfl fX7_24 (by first | rfl | exact st_o hb | exact st_1 hb | exact st_2 hb | exact st_3 hb | exact st_4 hb | exact st_5 hb | exact st_o hb2 | exact st_1 hb2 | exact st_2 hb2 | exact st_3 hb2 | exact st_4 hb2 | exact st_5 hb2) rfl dX7_fillJoints_24 ?_
      refine g_iload2 28 rfl dX7_fillJoints_27 ?_
      refine g_iload1 29 rfl dX7_fillJoints_28 ?_
      refine g_iast 30 rfl dX7_fillJoints_29 (by first | rfl | exact st_o hb | exact st_1 hb | exact st_2 hb | exact st_3 hb | exact st_4 hb | exact st_5 hb | exact st_o hb2 | exact st_1 hb2 | exact st_2 hb2 | exact st_3 hb2 | exact st_4 hb2 | exact st_5 hb2) rfl rfl (by first | assumption | omega) ?_
      try simp only [hN, pC_1, pC_2, pC_3, pC_4, pC_5, pC_6, pC_7, set_1, set_2, set_3, set_4, set_5, set_6, set_7]
      refine g_iinc2 33 rfl dX7_fillJoints_30 rfl rfl _ (by first | exact iinc1 _ | exact iincx _ | rfl) ?_
      refine g_goto 2 dX7_fillJoints_33 (by decide) ?_
      simpa only [itN, griB, *, if_true, if_false] using ih
