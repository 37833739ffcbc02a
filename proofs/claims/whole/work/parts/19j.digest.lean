/-! the class's digest() -/
def mx (h : Int64) (v : Int32) : Int64 := 31 * h + v.toInt64
def dg6 (R W : Nat) (x : Sx) (c : Nat) (q : Nat) (h : Int64) : Int64 := mx h (telS R W x c (nI q))
noncomputable def dgB (R W : Nat) (x : Sx) (c : Nat) (h : Int64) : Int64 := mx (itN (dg6 R W x c) 6 h) (watS R W x c)
noncomputable def dgS (R W : Nat) (x : Sx) (h : Int64) : Int64 := itN (dgB R W x) (R * W) h
theorem ok_dgCells {l : Launch} {M : Mm} {g : Sg} {h0 : Int64} (h : CS g M) : Ok GC l mX11_digestOfCells [.ref 0, .long h0] M (fun r M' => r = some (.inr (dgS (gR g) (gW g) (gX g) h0)) ∧ CS g M') := by
  have hb : isSt 15 := Or.inl rfl
  have h30 := h.p.1.le
  have ht := ok_X9_fill (l := l) (M := M) (x := vC M 15) (L := M.1 39) hb h.p
  rw [sA_id, pC_vC] at ht
  generalize hL : filS (gR g) (gW g) (sH (vC M 15)) (M.1 39) = L at ht
  have hp2 : Plan (setA M 39 L) (gR g) (gW g) := pl_set h.p (by decide)
  have hN : (pC (setA M 39 L) 15 (vC M 15)).1 12 4 = nI (gR g * gW g) := (pC_plan hb hp2).2.2.2.1
  refine ok_of (by decide +kernel) rfl rfl ?_
  refine g_lload1 1 rfl dX11_digestOfCells_0 ?_
  refine g_lstore3 2 rfl dX11_digestOfCells_1 rfl rfl ?_
  refine g_aload0 3 rfl dX11_digestOfCells_2 ?_
  refine g_getR 6 rfl fX11_72 (by first | rfl | exact st_o hb | exact st_1 hb | exact st_2 hb | exact st_3 hb | exact st_4 hb | exact st_5 hb | exact st_o hb2 | exact st_1 hb2 | exact st_2 hb2 | exact st_3 hb2 | exact st_4 hb2 | exact st_5 hb2) rfl dX11_digestOfCells_3 ?_
  refine g_aload0 7 rfl dX11_digestOfCells_6 ?_
  refine g_getR 10 rfl fX11_45 (by first | rfl | exact st_o hb | exact st_1 hb | exact st_2 hb | exact st_3 hb | exact st_4 hb | exact st_5 hb | exact st_o hb2 | exact st_1 hb2 | exact st_2 hb2 | exact st_3 hb2 | exact st_4 hb2 | exact st_5 hb2) rfl dX11_digestOfCells_7 ?_
  refine g_callVv 13 1 rfl kX11_234 (by first | rfl | exact st_o hb | exact st_1 hb | exact st_2 hb | exact st_3 hb | exact st_4 hb | exact st_5 hb | exact st_o hb2 | exact st_1 hb2 | exact st_2 hb2 | exact st_3 hb2 | exact st_4 hb2 | exact st_5 hb2) dX11_digestOfCells_10 ⟨rfl, rfl⟩ ht rfl rfl rfl ?_
  refine g_iconst 14 rfl (v := 0) dX11_digestOfCells_13 (by decide) ?_
  refine g_istore5 16 rfl dX11_digestOfCells_14 rfl rfl ?_
  refine loop_up (P := fun c => Go GC l mX11_digestOfCells 16 [.ref 0, .long h0, .null, .long (itN (dgB (gR g) (gW g) (gX g)) c h0), .null, .int (nI c), .null] [] (pC (setA M 39 L) 15 (vC M 15)) (fun r M' => r = some (.inr (dgS (gR g) (gW g) (gX g) h0)) ∧ CS g M')) (gR g * gW g) ?_ ?_ 0 (Nat.zero_le _)
  · refine g_iload5 18 rfl dX11_digestOfCells_16 ?_
    refine g_aload0 19 rfl dX11_digestOfCells_18 ?_
    refine g_getR 22 rfl fX11_36 (by first | rfl | exact st_o hb | exact st_1 hb | exact st_2 hb | exact st_3 hb | exact st_4 hb | exact st_5 hb | exact st_o hb2 | exact st_1 hb2 | exact st_2 hb2 | exact st_3 hb2 | exact st_4 hb2 | exact st_5 hb2) rfl dX11_digestOfCells_19 ?_
    refine g_getI 25 rfl fX11_144 (by first | rfl | exact st_o hb | exact st_1 hb | exact st_2 hb | exact st_3 hb | exact st_4 hb | exact st_5 hb | exact st_o hb2 | exact st_1 hb2 | exact st_2 hb2 | exact st_3 hb2 | exact st_4 hb2 | exact st_5 hb2) rfl dX11_digestOfCells_22 ?_
    try simp only [hN]
    refine g_cmpge 90 28 rfl dX11_digestOfCells_25 (by decide) (fun _ => ?_) (fun h => absurd (Int32.le_refl _) h)
    refine g_lload3 91 rfl dX11_digestOfCells_90 ?_
    refine g_lret rfl dX11_digestOfCells_91 ?_
    exact ⟨rfl, (h.sA nk39).st (by rw [vC_sA (by omega)])⟩
  · intro c hc ih
    simp only [it4] at ih
    rw [dgB] at ih
    generalize itN (dgB (gR g) (gW g) (gX g)) c h0 = h1 at ih ⊢
    refine g_iload5 18 rfl dX11_digestOfCells_16 ?_
    refine g_aload0 19 rfl dX11_digestOfCells_18 ?_
    refine g_getR 22 rfl fX11_36 (by first | rfl | exact st_o hb | exact st_1 hb | exact st_2 hb | exact st_3 hb | exact st_4 hb | exact st_5 hb | exact st_o hb2 | exact st_1 hb2 | exact st_2 hb2 | exact st_3 hb2 | exact st_4 hb2 | exact st_5 hb2) rfl dX11_digestOfCells_19 ?_
    refine g_getI 25 rfl fX11_144 (by first | rfl | exact st_o hb | exact st_1 hb | exact st_2 hb | exact st_3 hb | exact st_4 hb | exact st_5 hb | exact st_o hb2 | exact st_1 hb2 | exact st_2 hb2 | exact st_3 hb2 | exact st_4 hb2 | exact st_5 hb2) rfl dX11_digestOfCells_22 ?_
    try simp only [hN]
    refine g_cmpge 90 28 rfl dX11_digestOfCells_25 (by decide) (fun h => absurd h (nI_ge hc (by omega))) (fun _ => ?_)
    refine g_iconst 29 rfl (v := 0) dX11_digestOfCells_28 (by decide) ?_
    refine g_istore6 31 rfl dX11_digestOfCells_29 rfl rfl ?_
    refine loop_up (P := fun q => Go GC l mX11_digestOfCells 31 [.ref 0, .long h0, .null, .long (itN (dg6 (gR g) (gW g) (gX g) c) q h1), .null, .int (nI c), .int (nI q)] [] (pC (setA M 39 L) 15 (vC M 15)) (fun r M' => r = some (.inr (dgS (gR g) (gW g) (gX g) h0)) ∧ CS g M')) 6 ?_ ?_ 0 (by omega)
    · refine g_iload6 33 rfl dX11_digestOfCells_31 ?_
      refine g_bipush 35 rfl (v := 6) dX11_digestOfCells_33 (by decide) ?_
      refine g_cmpge 63 38 rfl dX11_digestOfCells_35 (by decide) (fun _ => ?_) (fun h => absurd (by decide) h)
      refine g_ldc2 66 rfl dX11_digestOfCells_63 cX11_312 ?_
      refine g_lload3 67 rfl dX11_digestOfCells_66 ?_
      refine g_lmul 68 rfl dX11_digestOfCells_67 ?_
      refine g_aload0 69 rfl dX11_digestOfCells_68 ?_
      refine g_getR 72 rfl fX11_72 (by first | rfl | exact st_o hb | exact st_1 hb | exact st_2 hb | exact st_3 hb | exact st_4 hb | exact st_5 hb | exact st_o hb2 | exact st_1 hb2 | exact st_2 hb2 | exact st_3 hb2 | exact st_4 hb2 | exact st_5 hb2) rfl dX11_digestOfCells_69 ?_
      refine g_aload0 73 rfl dX11_digestOfCells_72 ?_
      refine g_getR 76 rfl fX11_45 (by first | rfl | exact st_o hb | exact st_1 hb | exact st_2 hb | exact st_3 hb | exact st_4 hb | exact st_5 hb | exact st_o hb2 | exact st_1 hb2 | exact st_2 hb2 | exact st_3 hb2 | exact st_4 hb2 | exact st_5 hb2) rfl dX11_digestOfCells_73 ?_
      refine g_iload5 78 rfl dX11_digestOfCells_76 ?_
      refine g_callVi 81 2 rfl kX11_237 (by first | rfl | exact st_o hb | exact st_1 hb | exact st_2 hb | exact st_3 hb | exact st_4 hb | exact st_5 hb | exact st_o hb2 | exact st_1 hb2 | exact st_2 hb2 | exact st_3 hb2 | exact st_4 hb2 | exact st_5 hb2) dX11_digestOfCells_78 ⟨rfl, rfl⟩ (ok_X9_depth hb (by omega)) rfl rfl rfl ?_
      rw [← hL, watS_E h.x hc]
      rw [hL]
      refine g_i2l 82 rfl dX11_digestOfCells_81 ?_
      refine g_ladd 83 rfl dX11_digestOfCells_82 ?_
      refine g_lstore3 84 rfl dX11_digestOfCells_83 rfl rfl ?_
      refine g_iinc5 87 rfl dX11_digestOfCells_84 rfl rfl _ (by first | exact iinc1 _ | exact iincx _ | rfl) ?_
      refine g_goto 16 dX11_digestOfCells_87 (by decide) ?_
      refine g_fg 6 ?_
      exact ih
    · intro q hq ih2
      refine g_iload6 33 rfl dX11_digestOfCells_31 ?_
      refine g_bipush 35 rfl (v := 6) dX11_digestOfCells_33 (by decide) ?_
      refine g_cmpge 63 38 rfl dX11_digestOfCells_35 (by decide) (fun h => absurd h (nI_ge hq (by decide))) (fun _ => ?_)
      refine g_ldc2 41 rfl dX11_digestOfCells_38 cX11_312 ?_
      refine g_lload3 42 rfl dX11_digestOfCells_41 ?_
      refine g_lmul 43 rfl dX11_digestOfCells_42 ?_
      refine g_aload0 44 rfl dX11_digestOfCells_43 ?_
      refine g_getR 47 rfl fX11_45 (by first | rfl | exact st_o hb | exact st_1 hb | exact st_2 hb | exact st_3 hb | exact st_4 hb | exact st_5 hb | exact st_o hb2 | exact st_1 hb2 | exact st_2 hb2 | exact st_3 hb2 | exact st_4 hb2 | exact st_5 hb2) rfl dX11_digestOfCells_44 ?_
      refine g_iload5 49 rfl dX11_digestOfCells_47 ?_
      refine g_iload6 51 rfl dX11_digestOfCells_49 ?_
      refine g_callVi 54 2 rfl kX11_163 (by first | rfl | exact st_o hb | exact st_1 hb | exact st_2 hb | exact st_3 hb | exact st_4 hb | exact st_5 hb | exact st_o hb2 | exact st_1 hb2 | exact st_2 hb2 | exact st_3 hb2 | exact st_4 hb2 | exact st_5 hb2) dX11_digestOfCells_51 ⟨rfl, rfl⟩ (ok_X7_tell hb hp2 hc) rfl rfl rfl ?_
      rw [telS_E h.x hc]
      refine g_i2l 55 rfl dX11_digestOfCells_54 ?_
      refine g_ladd 56 rfl dX11_digestOfCells_55 ?_
      refine g_lstore3 57 rfl dX11_digestOfCells_56 rfl rfl ?_
      refine g_iinc6 60 rfl dX11_digestOfCells_57 rfl rfl _ (by first | exact iinc1 _ | exact iincx _ | rfl) ?_
      refine g_goto 31 dX11_digestOfCells_60 (by decide) ?_
      exact ih2
noncomputable def dgK (k : Ct) (i : Nat) (h : Int64) : Int64 := mx (mx h (nI (k.2.1 i))) (k.2.2 i)
def dgZ (z : Nat → Int32) (i : Nat) (h : Int64) : Int64 := mx h (z i)
noncomputable def dgN (g : Sg) (i : Nat) (h : Int64) : Int64 := mx h (fCount g (nI i)).1
noncomputable def dgU (g : Sg) (h : Int64) : Int64 := ifC (0 < gN g) (mx h (sprS (gR g) (gW g) (gX g))) h
noncomputable def dgY (g : Sg) (h : Int64) : Int64 := ifC (isT g) (mx h (fWould g 3 4).1) h
noncomputable def fDigest (g : Sg) : Int64 := itN (dgN g) 8 (itN (dgZ (gP g)) (gL g) (dgY g (dgU g (itN (dgZ (gZ g)) (gM g) (itN (dgK (gK g)) (gK g).1 (dgS (gR g) (gW g) (gX g) 509))))))
abbrev qL (v : Int64) (g : Sg) : Rr → Mm → Prop := fun r M' => r = some (.inr v) ∧ CS g M'
theorem dg_c {l : Launch} {g : Sg} {d5 : Int64} {v : Value} (hv : v.category = 1) : ∀ N, CS g N → Go GC l mX11_digest 174 [.ref 0, .long d5, .null, v] [] N (qL (itN (dgN g) 8 d5) g) := by
  intro N hN
  refine g_iconst 175 rfl (v := 0) dX11_digest_174 (by decide) ?_
  refine g_istore3 176 rfl dX11_digest_175 rfl rfl ?_
  refine loop_up (P := fun i => ∀ N, CS g N → Go GC l mX11_digest 176 [.ref 0, .long (itN (dgN g) i d5), .null, .int (nI i)] [] N (qL (itN (dgN g) 8 d5) g)) 8 ?_ ?_ 0 (by omega) N hN
  · intro N hN
    refine g_iload3 177 rfl dX11_digest_176 ?_
    refine g_bipush 179 rfl (v := 8) dX11_digest_177 (by decide) ?_
    refine g_cmpge 201 182 rfl dX11_digest_179 (by decide) (fun _ => ?_) (fun h => absurd (by decide) h)
    refine g_lload1 202 rfl dX11_digest_201 ?_
    refine g_lret rfl dX11_digest_202 ?_
    exact ⟨rfl, hN⟩
  · intro i hi ih N hN
    simp only [it4, dgN, mx] at ih
    refine g_iload3 177 rfl dX11_digest_176 ?_
    refine g_bipush 179 rfl (v := 8) dX11_digest_177 (by decide) ?_
    refine g_cmpge 201 182 rfl dX11_digest_179 (by decide) (fun h => absurd h (nI_ge hi (by decide))) (fun _ => ?_)
    refine g_ldc2 185 rfl dX11_digest_182 cX11_312 ?_
    refine g_lload1 186 rfl dX11_digest_185 ?_
    refine g_lmul 187 rfl dX11_digest_186 ?_
    refine g_aload0 188 rfl dX11_digest_187 ?_
    refine g_iload3 189 rfl dX11_digest_188 ?_
    refine g_callV 192 1 rfl kX11_323 (by rfl) dX11_digest_189 ⟨rfl, rfl⟩ (pub_count hN) rfl rfl rfl (fun r M1 hq => ?_)
    obtain ⟨rfl, hN2⟩ := hq
    try simp only [rV, Option.toList, List.cons_append, List.nil_append]
    refine g_i2l 193 rfl dX11_digest_192 ?_
    refine g_ladd 194 rfl dX11_digest_193 ?_
    refine g_lstore1 195 rfl dX11_digest_194 rfl rfl ?_
    refine g_iinc3 198 rfl dX11_digest_195 rfl rfl _ (by first | exact iinc1 _ | exact iincx _ | rfl) ?_
    refine g_goto 176 dX11_digest_198 (by decide) ?_
    exact ih _ hN2
theorem dg_p {l : Launch} {g : Sg} {d4 : Int64} {v : Value} (hv : v.category = 1) : ∀ N, CS g N → Go GC l mX11_digest 138 [.ref 0, .long d4, .null, v] [] N (qL (itN (dgN g) 8 (itN (dgZ (gP g)) (gL g) d4)) g) := by
  intro N hN
  have hl64 := hN.g.1
  refine g_iconst 139 rfl (v := 0) dX11_digest_138 (by decide) ?_
  refine g_istore3 140 rfl dX11_digest_139 rfl rfl ?_
  refine loop_up (P := fun i => Go GC l mX11_digest 140 [.ref 0, .long (itN (dgZ (gP g)) i d4), .null, .int (nI i)] [] N (qL (itN (dgN g) 8 (itN (dgZ (gP g)) (gL g) d4)) g)) (gL g) ?_ ?_ 0 (Nat.zero_le _)
  · refine g_iload3 141 rfl dX11_digest_140 ?_
    refine g_aload0 142 rfl dX11_digest_141 ?_
    refine g_getR 145 rfl fX11_12 (by first | rfl | exact st_o hb | exact st_1 hb | exact st_2 hb | exact st_3 hb | exact st_4 hb | exact st_5 hb | exact st_o hb2 | exact st_1 hb2 | exact st_2 hb2 | exact st_3 hb2 | exact st_4 hb2 | exact st_5 hb2) rfl dX11_digest_142 ?_
    refine g_getI 148 rfl fX11_110 (by first | rfl | exact st_o hb | exact st_1 hb | exact st_2 hb | exact st_3 hb | exact st_4 hb | exact st_5 hb | exact st_o hb2 | exact st_1 hb2 | exact st_2 hb2 | exact st_3 hb2 | exact st_4 hb2 | exact st_5 hb2) rfl dX11_digest_145 ?_
    rw [hN.g.2.1]
    refine g_cmpge 174 151 rfl dX11_digest_148 (by decide) (fun _ => ?_) (fun h => absurd (Int32.le_refl _) h)
    exact dg_c rfl N hN
  · intro i hi ih
    simp only [it4, dgZ, mx] at ih
    refine g_iload3 141 rfl dX11_digest_140 ?_
    refine g_aload0 142 rfl dX11_digest_141 ?_
    refine g_getR 145 rfl fX11_12 (by first | rfl | exact st_o hb | exact st_1 hb | exact st_2 hb | exact st_3 hb | exact st_4 hb | exact st_5 hb | exact st_o hb2 | exact st_1 hb2 | exact st_2 hb2 | exact st_3 hb2 | exact st_4 hb2 | exact st_5 hb2) rfl dX11_digest_142 ?_
    refine g_getI 148 rfl fX11_110 (by first | rfl | exact st_o hb | exact st_1 hb | exact st_2 hb | exact st_3 hb | exact st_4 hb | exact st_5 hb | exact st_o hb2 | exact st_1 hb2 | exact st_2 hb2 | exact st_3 hb2 | exact st_4 hb2 | exact st_5 hb2) rfl dX11_digest_145 ?_
    rw [hN.g.2.1]
    refine g_cmpge 174 151 rfl dX11_digest_148 (by decide) (fun h => absurd h (nI_ge hi (by omega))) (fun _ => ?_)
    refine g_ldc2 154 rfl dX11_digest_151 cX11_312 ?_
    refine g_lload1 155 rfl dX11_digest_154 ?_
    refine g_lmul 156 rfl dX11_digest_155 ?_
    refine g_aload0 157 rfl dX11_digest_156 ?_
    refine g_getR 160 rfl fX11_12 (by first | rfl | exact st_o hb | exact st_1 hb | exact st_2 hb | exact st_3 hb | exact st_4 hb | exact st_5 hb | exact st_o hb2 | exact st_1 hb2 | exact st_2 hb2 | exact st_3 hb2 | exact st_4 hb2 | exact st_5 hb2) rfl dX11_digest_157 ?_
    refine g_getR 163 rfl fX11_320 (by first | rfl | exact st_o hb | exact st_1 hb | exact st_2 hb | exact st_3 hb | exact st_4 hb | exact st_5 hb | exact st_o hb2 | exact st_1 hb2 | exact st_2 hb2 | exact st_3 hb2 | exact st_4 hb2 | exact st_5 hb2) rfl dX11_digest_160 ?_
    refine g_iload3 164 rfl dX11_digest_163 ?_
    refine g_iald 165 rfl dX11_digest_164 (by first | rfl | exact st_o hb | exact st_1 hb | exact st_2 hb | exact st_3 hb | exact st_4 hb | exact st_5 hb | exact st_o hb2 | exact st_1 hb2 | exact st_2 hb2 | exact st_3 hb2 | exact st_4 hb2 | exact st_5 hb2) rfl rfl (by first | assumption | omega) ?_
    rw [hN.g.2.2 i hi]
    refine g_i2l 166 rfl dX11_digest_165 ?_
    refine g_ladd 167 rfl dX11_digest_166 ?_
    refine g_lstore1 168 rfl dX11_digest_167 rfl rfl ?_
    refine g_iinc3 171 rfl dX11_digest_168 rfl rfl _ (by first | exact iinc1 _ | exact iincx _ | rfl) ?_
    refine g_goto 140 dX11_digest_171 (by decide) ?_
    exact ih
theorem dg_t {l : Launch} {g : Sg} {d3 : Int64} {v : Value} (hv : v.category = 1) : ∀ N, CS g N → Go GC l mX11_digest 117 [.ref 0, .long d3, .null, v] [] N (qL (itN (dgN g) 8 (itN (dgZ (gP g)) (gL g) (dgY g d3))) g) := by
  intro N hN
  refine g_aload0 118 rfl dX11_digest_117 ?_
  refine g_callV 121 0 rfl kX11_244 (by first | rfl | exact st_o hb | exact st_1 hb | exact st_2 hb | exact st_3 hb | exact st_4 hb | exact st_5 hb | exact st_o hb2 | exact st_1 hb2 | exact st_2 hb2 | exact st_3 hb2 | exact st_4 hb2 | exact st_5 hb2) dX11_digest_118 ⟨rfl, rfl⟩ (ok_hasTraffic hN.p hN.k) rfl rfl rfl (fun r M1 hq => ?_)
  obtain ⟨rfl, ⟨rfl, hq⟩ | ⟨rfl, hq⟩⟩ := hq
  try simp only [rV, Option.toList, List.cons_append, List.nil_append]
  · rw [dgY, ifC_t hq, mx]
    refine g_ifeq 138 124 rfl dX11_digest_121 (by decide) (fun h => absurd h (by decide)) (fun _ => ?_)
    refine g_ldc2 127 rfl dX11_digest_124 cX11_312 ?_
    refine g_lload1 128 rfl dX11_digest_127 ?_
    refine g_lmul 129 rfl dX11_digest_128 ?_
    refine g_aload0 130 rfl dX11_digest_129 ?_
    refine g_iconst 131 rfl (v := 3) dX11_digest_130 (by decide) ?_
    refine g_iconst 132 rfl (v := 4) dX11_digest_131 (by decide) ?_
    refine g_callV 135 2 rfl kX11_317 (by first | rfl | exact st_o hb | exact st_1 hb | exact st_2 hb | exact st_3 hb | exact st_4 hb | exact st_5 hb | exact st_o hb2 | exact st_1 hb2 | exact st_2 hb2 | exact st_3 hb2 | exact st_4 hb2 | exact st_5 hb2) dX11_digest_132 ⟨rfl, rfl⟩ (pub_would hN) rfl rfl rfl (fun r M1 hq => ?_)
    obtain ⟨rfl, hN2⟩ := hq
    try simp only [rV, Option.toList, List.cons_append, List.nil_append]
    refine g_i2l 136 rfl dX11_digest_135 ?_
    refine g_ladd 137 rfl dX11_digest_136 ?_
    refine g_lstore1 138 rfl dX11_digest_137 rfl rfl ?_
    generalize (fWould g 3 4).1 = e at *
    exact dg_p hv _ hN2
  · rw [dgY, ifC_f hq]
    refine g_ifeq 138 124 rfl dX11_digest_121 (by decide) (fun _ => ?_) (fun h => absurd rfl h)
    exact dg_p hv _ hN
theorem dg_u {l : Launch} {g : Sg} {d2 : Int64} {v : Value} (hv : v.category = 1) : ∀ N, CS g N → Go GC l mX11_digest 95 [.ref 0, .long d2, .null, v] [] N (qL (itN (dgN g) 8 (itN (dgZ (gP g)) (gL g) (dgY g (dgU g d2)))) g) := by
  intro N hN
  have hb : isSt 15 := Or.inl rfl
  refine g_aload0 96 rfl dX11_digest_95 ?_
  refine g_callV 99 0 rfl kX11_171 (by first | rfl | exact st_o hb | exact st_1 hb | exact st_2 hb | exact st_3 hb | exact st_4 hb | exact st_5 hb | exact st_o hb2 | exact st_1 hb2 | exact st_2 hb2 | exact st_3 hb2 | exact st_4 hb2 | exact st_5 hb2) dX11_digest_96 ⟨rfl, rfl⟩ (ok_hasStreet hN.p) rfl rfl rfl (fun r M1 hq => ?_)
  obtain ⟨rfl, ⟨rfl, hq⟩ | ⟨rfl, hq⟩⟩ := hq
  try simp only [rV, Option.toList, List.cons_append, List.nil_append]
  · have ht := ok_X7_spread (l := l) (M := M1) (x := vC M1 15) hb hN.p
    rw [pC_vC, sprS_E hN.x] at ht
    rw [dgU, ifC_t hq, mx]
    refine g_ifeq 117 102 rfl dX11_digest_99 (by decide) (fun h => absurd h (by decide)) (fun _ => ?_)
    refine g_ldc2 105 rfl dX11_digest_102 cX11_312 ?_
    refine g_lload1 106 rfl dX11_digest_105 ?_
    refine g_lmul 107 rfl dX11_digest_106 ?_
    refine g_aload0 108 rfl dX11_digest_107 ?_
    refine g_getR 111 rfl fX11_45 (by first | rfl | exact st_o hb | exact st_1 hb | exact st_2 hb | exact st_3 hb | exact st_4 hb | exact st_5 hb | exact st_o hb2 | exact st_1 hb2 | exact st_2 hb2 | exact st_3 hb2 | exact st_4 hb2 | exact st_5 hb2) rfl dX11_digest_108 ?_
    refine g_callVi 114 0 rfl kX11_215 (by first | rfl | exact st_o hb | exact st_1 hb | exact st_2 hb | exact st_3 hb | exact st_4 hb | exact st_5 hb | exact st_o hb2 | exact st_1 hb2 | exact st_2 hb2 | exact st_3 hb2 | exact st_4 hb2 | exact st_5 hb2) dX11_digest_111 ⟨rfl, rfl⟩ ht rfl rfl rfl ?_
    refine g_i2l 115 rfl dX11_digest_114 ?_
    refine g_ladd 116 rfl dX11_digest_115 ?_
    refine g_lstore1 117 rfl dX11_digest_116 rfl rfl ?_
    exact dg_t hv _ hN
  · rw [dgU, ifC_f hq]
    refine g_ifeq 117 102 rfl dX11_digest_99 (by decide) (fun _ => ?_) (fun h => absurd rfl h)
    exact dg_t hv _ hN
theorem dg_k {l : Launch} {g : Sg} {d0 : Int64} : ∀ N, CS g N → Go GC l mX11_digest 10 [.ref 0, .long d0, .null, .int (nI 0)] [] N (qL (itN (dgN g) 8 (itN (dgZ (gP g)) (gL g) (dgY g (dgU g (itN (dgZ (gZ g)) (gM g) (itN (dgK (gK g)) (gK g).1 d0)))))) g) := by
  intro N0 hN0
  have hk6 := hN0.k.1
  have hm10 := hN0.hp.1
  refine loop_up (P := fun i => ∀ N, CS g N → Go GC l mX11_digest 10 [.ref 0, .long (itN (dgK (gK g)) i d0), .null, .int (nI i)] [] N (qL (itN (dgN g) 8 (itN (dgZ (gP g)) (gL g) (dgY g (dgU g (itN (dgZ (gZ g)) (gM g) (itN (dgK (gK g)) (gK g).1 d0)))))) g)) (gK g).1 ?_ ?_ 0 (Nat.zero_le _) N0 hN0
  · intro N hN
    refine g_iload3 11 rfl dX11_digest_10 ?_
    refine g_aload0 12 rfl dX11_digest_11 ?_
    refine g_getR 15 rfl fX11_30 (by first | rfl | exact st_o hb | exact st_1 hb | exact st_2 hb | exact st_3 hb | exact st_4 hb | exact st_5 hb | exact st_o hb2 | exact st_1 hb2 | exact st_2 hb2 | exact st_3 hb2 | exact st_4 hb2 | exact st_5 hb2) rfl dX11_digest_12 ?_
    refine g_getI 18 rfl fX11_152 (by first | rfl | exact st_o hb | exact st_1 hb | exact st_2 hb | exact st_3 hb | exact st_4 hb | exact st_5 hb | exact st_o hb2 | exact st_1 hb2 | exact st_2 hb2 | exact st_3 hb2 | exact st_4 hb2 | exact st_5 hb2) rfl dX11_digest_15 ?_
    rw [hN.k.2.1]
    refine g_cmpge 59 21 rfl dX11_digest_18 (by decide) (fun _ => ?_) (fun h => absurd (Int32.le_refl _) h)
    refine g_iconst 60 rfl (v := 0) dX11_digest_59 (by decide) ?_
    refine g_istore3 61 rfl dX11_digest_60 rfl rfl ?_
    generalize itN (dgK (gK g)) (gK g).1 d0 = d1
    refine loop_up (P := fun i => Go GC l mX11_digest 61 [.ref 0, .long (itN (dgZ (gZ g)) i d1), .null, .int (nI i)] [] N (qL (itN (dgN g) 8 (itN (dgZ (gP g)) (gL g) (dgY g (dgU g (itN (dgZ (gZ g)) (gM g) d1))))) g)) (gM g) ?_ ?_ 0 (Nat.zero_le _)
    · refine g_iload3 62 rfl dX11_digest_61 ?_
      refine g_aload0 63 rfl dX11_digest_62 ?_
      refine g_getR 66 rfl fX11_88 (by first | rfl | exact st_o hb | exact st_1 hb | exact st_2 hb | exact st_3 hb | exact st_4 hb | exact st_5 hb | exact st_o hb2 | exact st_1 hb2 | exact st_2 hb2 | exact st_3 hb2 | exact st_4 hb2 | exact st_5 hb2) rfl dX11_digest_63 ?_
      refine g_getI 69 rfl fX11_281 (by first | rfl | exact st_o hb | exact st_1 hb | exact st_2 hb | exact st_3 hb | exact st_4 hb | exact st_5 hb | exact st_o hb2 | exact st_1 hb2 | exact st_2 hb2 | exact st_3 hb2 | exact st_4 hb2 | exact st_5 hb2) rfl dX11_digest_66 ?_
      rw [hN.hp.2.1]
      refine g_cmpge 95 72 rfl dX11_digest_69 (by decide) (fun _ => ?_) (fun h => absurd (Int32.le_refl _) h)
      exact dg_u rfl N hN
    · intro i hi ih
      simp only [it4, dgZ, mx] at ih
      refine g_iload3 62 rfl dX11_digest_61 ?_
      refine g_aload0 63 rfl dX11_digest_62 ?_
      refine g_getR 66 rfl fX11_88 (by first | rfl | exact st_o hb | exact st_1 hb | exact st_2 hb | exact st_3 hb | exact st_4 hb | exact st_5 hb | exact st_o hb2 | exact st_1 hb2 | exact st_2 hb2 | exact st_3 hb2 | exact st_4 hb2 | exact st_5 hb2) rfl dX11_digest_63 ?_
      refine g_getI 69 rfl fX11_281 (by first | rfl | exact st_o hb | exact st_1 hb | exact st_2 hb | exact st_3 hb | exact st_4 hb | exact st_5 hb | exact st_o hb2 | exact st_1 hb2 | exact st_2 hb2 | exact st_3 hb2 | exact st_4 hb2 | exact st_5 hb2) rfl dX11_digest_66 ?_
      rw [hN.hp.2.1]
      refine g_cmpge 95 72 rfl dX11_digest_69 (by decide) (fun h => absurd h (nI_ge hi (by omega))) (fun _ => ?_)
      refine g_ldc2 75 rfl dX11_digest_72 cX11_312 ?_
      refine g_lload1 76 rfl dX11_digest_75 ?_
      refine g_lmul 77 rfl dX11_digest_76 ?_
      refine g_aload0 78 rfl dX11_digest_77 ?_
      refine g_getR 81 rfl fX11_88 (by first | rfl | exact st_o hb | exact st_1 hb | exact st_2 hb | exact st_3 hb | exact st_4 hb | exact st_5 hb | exact st_o hb2 | exact st_1 hb2 | exact st_2 hb2 | exact st_3 hb2 | exact st_4 hb2 | exact st_5 hb2) rfl dX11_digest_78 ?_
      refine g_getR 84 rfl fX11_314 (by first | rfl | exact st_o hb | exact st_1 hb | exact st_2 hb | exact st_3 hb | exact st_4 hb | exact st_5 hb | exact st_o hb2 | exact st_1 hb2 | exact st_2 hb2 | exact st_3 hb2 | exact st_4 hb2 | exact st_5 hb2) rfl dX11_digest_81 ?_
      refine g_iload3 85 rfl dX11_digest_84 ?_
      refine g_iald 86 rfl dX11_digest_85 (by first | rfl | exact st_o hb | exact st_1 hb | exact st_2 hb | exact st_3 hb | exact st_4 hb | exact st_5 hb | exact st_o hb2 | exact st_1 hb2 | exact st_2 hb2 | exact st_3 hb2 | exact st_4 hb2 | exact st_5 hb2) rfl rfl (by first | assumption | omega) ?_
      rw [(hN.hp.2.2 i hi).1]
      refine g_i2l 87 rfl dX11_digest_86 ?_
      refine g_ladd 88 rfl dX11_digest_87 ?_
      refine g_lstore1 89 rfl dX11_digest_88 rfl rfl ?_
      refine g_iinc3 92 rfl dX11_digest_89 rfl rfl _ (by first | exact iinc1 _ | exact iincx _ | rfl) ?_
      refine g_goto 61 dX11_digest_92 (by decide) ?_
      exact ih
  · intro i hi ih N hN
    simp only [it4, dgK, mx] at ih
    have hr := hN.k.2.2 i hi
    have r10 : N.1 10 i = nI ((gK g).2.1 i) := hr.1
    have r11 : N.1 11 i = (gK g).2.2 i := hr.2.1
    refine g_iload3 11 rfl dX11_digest_10 ?_
    refine g_aload0 12 rfl dX11_digest_11 ?_
    refine g_getR 15 rfl fX11_30 (by first | rfl | exact st_o hb | exact st_1 hb | exact st_2 hb | exact st_3 hb | exact st_4 hb | exact st_5 hb | exact st_o hb2 | exact st_1 hb2 | exact st_2 hb2 | exact st_3 hb2 | exact st_4 hb2 | exact st_5 hb2) rfl dX11_digest_12 ?_
    refine g_getI 18 rfl fX11_152 (by first | rfl | exact st_o hb | exact st_1 hb | exact st_2 hb | exact st_3 hb | exact st_4 hb | exact st_5 hb | exact st_o hb2 | exact st_1 hb2 | exact st_2 hb2 | exact st_3 hb2 | exact st_4 hb2 | exact st_5 hb2) rfl dX11_digest_15 ?_
    rw [hN.k.2.1]
    refine g_cmpge 59 21 rfl dX11_digest_18 (by decide) (fun h => absurd h (nI_ge hi (by omega))) (fun _ => ?_)
    refine g_ldc2 24 rfl dX11_digest_21 cX11_312 ?_
    refine g_ldc2 27 rfl dX11_digest_24 cX11_312 ?_
    refine g_lload1 28 rfl dX11_digest_27 ?_
    refine g_lmul 29 rfl dX11_digest_28 ?_
    refine g_aload0 30 rfl dX11_digest_29 ?_
    refine g_getR 33 rfl fX11_30 (by first | rfl | exact st_o hb | exact st_1 hb | exact st_2 hb | exact st_3 hb | exact st_4 hb | exact st_5 hb | exact st_o hb2 | exact st_1 hb2 | exact st_2 hb2 | exact st_3 hb2 | exact st_4 hb2 | exact st_5 hb2) rfl dX11_digest_30 ?_
    refine g_getR 36 rfl fX11_155 (by first | rfl | exact st_o hb | exact st_1 hb | exact st_2 hb | exact st_3 hb | exact st_4 hb | exact st_5 hb | exact st_o hb2 | exact st_1 hb2 | exact st_2 hb2 | exact st_3 hb2 | exact st_4 hb2 | exact st_5 hb2) rfl dX11_digest_33 ?_
    refine g_iload3 37 rfl dX11_digest_36 ?_
    refine g_iald 38 rfl dX11_digest_37 (by first | rfl | exact st_o hb | exact st_1 hb | exact st_2 hb | exact st_3 hb | exact st_4 hb | exact st_5 hb | exact st_o hb2 | exact st_1 hb2 | exact st_2 hb2 | exact st_3 hb2 | exact st_4 hb2 | exact st_5 hb2) rfl rfl (by first | assumption | omega) ?_
    rw [r10]
    refine g_i2l 39 rfl dX11_digest_38 ?_
    refine g_ladd 40 rfl dX11_digest_39 ?_
    refine g_lmul 41 rfl dX11_digest_40 ?_
    refine g_aload0 42 rfl dX11_digest_41 ?_
    refine g_getR 45 rfl fX11_30 (by first | rfl | exact st_o hb | exact st_1 hb | exact st_2 hb | exact st_3 hb | exact st_4 hb | exact st_5 hb | exact st_o hb2 | exact st_1 hb2 | exact st_2 hb2 | exact st_3 hb2 | exact st_4 hb2 | exact st_5 hb2) rfl dX11_digest_42 ?_
    refine g_getR 48 rfl fX11_157 (by first | rfl | exact st_o hb | exact st_1 hb | exact st_2 hb | exact st_3 hb | exact st_4 hb | exact st_5 hb | exact st_o hb2 | exact st_1 hb2 | exact st_2 hb2 | exact st_3 hb2 | exact st_4 hb2 | exact st_5 hb2) rfl dX11_digest_45 ?_
    refine g_iload3 49 rfl dX11_digest_48 ?_
    refine g_iald 50 rfl dX11_digest_49 (by first | rfl | exact st_o hb | exact st_1 hb | exact st_2 hb | exact st_3 hb | exact st_4 hb | exact st_5 hb | exact st_o hb2 | exact st_1 hb2 | exact st_2 hb2 | exact st_3 hb2 | exact st_4 hb2 | exact st_5 hb2) rfl rfl (by first | assumption | omega) ?_
    rw [r11]
    refine g_i2l 51 rfl dX11_digest_50 ?_
    refine g_ladd 52 rfl dX11_digest_51 ?_
    refine g_lstore1 53 rfl dX11_digest_52 rfl rfl ?_
    refine g_iinc3 56 rfl dX11_digest_53 rfl rfl _ (by first | exact iinc1 _ | exact iincx _ | rfl) ?_
    refine g_goto 10 dX11_digest_56 (by decide) ?_
    exact ih N hN
theorem pub_digest {l : Launch} {M : Mm} {g : Sg} (h : CS g M) : Ok GC l mX11_digest [.ref 0] M (qL (fDigest g) g) := by
  refine ok_of (by decide +kernel) rfl rfl ?_
  refine g_aload0 1 rfl dX11_digest_0 ?_
  refine g_ldc2 4 rfl dX11_digest_1 cX11_306 ?_
  have e : fDigest g = itN (dgN g) 8 (itN (dgZ (gP g)) (gL g) (dgY g (dgU g (itN (dgZ (gZ g)) (gM g) (itN (dgK (gK g)) (gK g).1 (dgS (gR g) (gW g) (gX g) 509)))))) := rfl
  rw [e]
  generalize (509 : Int64) = n509
  refine g_callV 7 1 rfl kX11_308 (by first | rfl | exact st_o hb | exact st_1 hb | exact st_2 hb | exact st_3 hb | exact st_4 hb | exact st_5 hb | exact st_o hb2 | exact st_1 hb2 | exact st_2 hb2 | exact st_3 hb2 | exact st_4 hb2 | exact st_5 hb2) dX11_digest_4 ⟨rfl, rfl⟩ (ok_dgCells h) rfl rfl rfl (fun r M1 hq => ?_)
  obtain ⟨rfl, hN⟩ := hq
  try simp only [rV, Option.toList, List.cons_append, List.nil_append]
  refine g_lstore1 8 rfl dX11_digest_7 rfl rfl ?_
  refine g_iconst 9 rfl (v := 0) dX11_digest_8 (by decide) ?_
  refine g_istore3 10 rfl dX11_digest_9 rfl rfl ?_
  exact dg_k _ hN
