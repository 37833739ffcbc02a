/-! the reference's years -/
def FrM (M N : Mm) : Prop := (∀ h, h ≠ 16 → h ≠ 17 → h ≠ 18 → N.1 h = M.1 h) ∧ N.2 = M.2
theorem FrM.rf {M : Mm} : FrM M M := ⟨fun _ _ _ _ => rfl, rfl⟩
theorem FrM.tr {M N O : Mm} (h : FrM M N) (g : FrM N O) : FrM M O := ⟨fun k a b c => (g.1 k a b c).trans (h.1 k a b c), g.2.trans h.2⟩
theorem FrM.sA {M N : Mm} {k : Nat} {f : Nat → Int32} (h : FrM M N) (hk : k = 16 ∨ k = 17 ∨ k = 18) : FrM M (setA N k f) := ⟨fun q a b c => by rw [sA_n (by omega)]; exact h.1 q a b c, h.2⟩
theorem FrM.mod {M N : Mm} {R W : Nat} (h : FrM M N) (hm : Mod M R W) : Mod N R W := by
  unfold Mod
  rw [h.1 0 (by decide) (by decide) (by decide)]
  exact hm
theorem FrM.cr {M N : Mm} {k : Ct} (h : FrM M N) (hk : CrM M k) : CrM N k := by
  unfold CrM
  rw [h.1 0 (by decide) (by decide) (by decide), h.1 6 (by decide) (by decide) (by decide), h.1 7 (by decide) (by decide) (by decide)]
  exact hk
abbrev qYr (R W : Nat) (k : Ct) (fr : Int32) (M : Mm) (x : Sx) : Rr → Mm → Prop := fun r M' => r = some (.inl (yeaV R W k x)) ∧ ∃ N, M' = pM N (yeaS R W k fr x) ∧ FrM M N
/-- the last part of a year -/
theorem gy_was {l : Launch} {M N : Mm} {R W : Nat} {fr v : Int32} {x : Sx} {Q : Rr → Mm → Prop} (hf : FrM M N) (hm : Mod M R W) (hs : SI (R * W) x) (hQ : Q (some (.inl v)) (pM N (itN (wasB R W) (R * W) x))) : Go GM l mX12_goYear 158 [.ref 0, .int fr, .int v, .null, .null] [] (pM N x) Q := by
  have h30 := hm.le
  have hm1 := hf.mod hm
  have hm2 : ∀ y, Mod (pM N y) R W := fun y => pM_mod hm1
  refine g_iconst 159 rfl (v := 0) dX12_goYear_158 (by decide) ?_
  refine g_istore3 160 rfl dX12_goYear_159 rfl rfl ?_
  refine loop_up (P := fun i => Go GM l mX12_goYear 160 [.ref 0, .int fr, .int v, .int (nI i), .null] [] (pM N (itN (wasB R W) i x)) Q) (R * W) ?_ ?_ 0 (by omega)
  · refine g_iload3 161 rfl dX12_goYear_160 ?_
    refine g_aload0 162 rfl dX12_goYear_161 ?_
    refine g_callVi 165 0 rfl kX12_140 (by first | rfl | exact st_o hb | exact st_1 hb | exact st_2 hb | exact st_3 hb | exact st_4 hb | exact st_5 hb | exact st_o hb2 | exact st_1 hb2 | exact st_2 hb2 | exact st_3 hb2 | exact st_4 hb2 | exact st_5 hb2) dX12_goYear_162 ⟨rfl, rfl⟩ (om_cells (hm2 _)) rfl rfl rfl ?_
    refine g_cmpge 209 168 rfl dX12_goYear_165 (by decide) (fun _ => ?_) (fun h => absurd (Int32.le_refl _) h)
    refine g_iload2 210 rfl dX12_goYear_209 ?_
    refine g_iret rfl dX12_goYear_210 ?_
    exact hQ
  · intro i hi ih
    have hsi := SI_was (R := R) (W := W) hs i i hi
    simp only [it4] at ih
    generalize itN (wasB R W) i x = y at hsi ih ⊢
    refine g_iload3 161 rfl dX12_goYear_160 ?_
    refine g_aload0 162 rfl dX12_goYear_161 ?_
    refine g_callVi 165 0 rfl kX12_140 (by first | rfl | exact st_o hb | exact st_1 hb | exact st_2 hb | exact st_3 hb | exact st_4 hb | exact st_5 hb | exact st_o hb2 | exact st_1 hb2 | exact st_2 hb2 | exact st_3 hb2 | exact st_4 hb2 | exact st_5 hb2) dX12_goYear_162 ⟨rfl, rfl⟩ (om_cells (hm2 _)) rfl rfl rfl ?_
    refine g_cmpge 209 168 rfl dX12_goYear_165 (by decide) (fun h => absurd h (nI_ge hi (by omega))) (fun _ => ?_)
    refine g_aload0 169 rfl dX12_goYear_168 ?_
    refine g_getR 172 rfl fX12_7 (by first | rfl | exact st_o hb | exact st_1 hb | exact st_2 hb | exact st_3 hb | exact st_4 hb | exact st_5 hb | exact st_o hb2 | exact st_1 hb2 | exact st_2 hb2 | exact st_3 hb2 | exact st_4 hb2 | exact st_5 hb2) rfl dX12_goYear_169 ?_
    refine g_iload3 173 rfl dX12_goYear_172 ?_
    refine g_iald 174 rfl dX12_goYear_173 (by first | rfl | exact st_o hb | exact st_1 hb | exact st_2 hb | exact st_3 hb | exact st_4 hb | exact st_5 hb | exact st_o hb2 | exact st_1 hb2 | exact st_2 hb2 | exact st_3 hb2 | exact st_4 hb2 | exact st_5 hb2) rfl rfl (by first | assumption | omega) ?_
    try simp only [pM_1, pM_5, pM_w5]
    refine g_iconst 175 rfl (v := (-1)) dX12_goYear_174 (by decide) ?_
    refine g_cmpeq 203 178 rfl dX12_goYear_175 (by decide) (fun h175 => ?_) (fun h175 => ?_)
    · have e : wasB R W i y = y := by
        unfold wasB
        split
        · rfl
        · obtain ⟨j, hj, ej, hz⟩ := hsi.2.2
          have hj0 := hz h175
          unfold losS
          rw [ej, los_nn hj, hj0]
          rw [hj0] at ej
          rw [show nI (0 - 1) = nI 0 from rfl, ← ej, upd_sm]
          rfl
      rw [e] at ih
      refine g_iinc3 206 rfl dX12_goYear_203 rfl rfl _ (by first | exact iinc1 _ | exact iincx _ | rfl) ?_
      refine g_goto 160 dX12_goYear_206 (by decide) ?_
      exact ih
    · unfold wasB at ih
      refine g_aload0 179 rfl dX12_goYear_178 ?_
      refine g_iload3 180 rfl dX12_goYear_179 ?_
      refine g_callVi 183 1 rfl kX12_249 (by first | rfl | exact st_o hb | exact st_1 hb | exact st_2 hb | exact st_3 hb | exact st_4 hb | exact st_5 hb | exact st_o hb2 | exact st_1 hb2 | exact st_2 hb2 | exact st_3 hb2 | exact st_4 hb2 | exact st_5 hb2) dX12_goYear_180 ⟨rfl, rfl⟩ (om_isBesideSand hm1 hi) rfl rfl rfl ?_
      refine g_ifeq 203 186 rfl dX12_goYear_183 (by decide) (fun h183 => ?_) (fun h183 => ?_)
      · rw [if_pos h183] at ih
        refine g_iinc3 206 rfl dX12_goYear_203 rfl rfl _ (by first | exact iinc1 _ | exact iincx _ | rfl) ?_
        refine g_goto 160 dX12_goYear_206 (by decide) ?_
        exact ih
      · rw [if_neg h183] at ih
        refine g_aload0 187 rfl dX12_goYear_186 ?_
        refine g_getR 190 rfl fX12_22 (by first | rfl | exact st_o hb | exact st_1 hb | exact st_2 hb | exact st_3 hb | exact st_4 hb | exact st_5 hb | exact st_o hb2 | exact st_1 hb2 | exact st_2 hb2 | exact st_3 hb2 | exact st_4 hb2 | exact st_5 hb2) rfl dX12_goYear_187 ?_
        refine g_iload3 191 rfl dX12_goYear_190 ?_
        refine g_aload0 192 rfl dX12_goYear_191 ?_
        refine g_getR 195 rfl fX12_22 (by first | rfl | exact st_o hb | exact st_1 hb | exact st_2 hb | exact st_3 hb | exact st_4 hb | exact st_5 hb | exact st_o hb2 | exact st_1 hb2 | exact st_2 hb2 | exact st_3 hb2 | exact st_4 hb2 | exact st_5 hb2) rfl dX12_goYear_192 ?_
        refine g_iload3 196 rfl dX12_goYear_195 ?_
        refine g_iald 197 rfl dX12_goYear_196 (by first | rfl | exact st_o hb | exact st_1 hb | exact st_2 hb | exact st_3 hb | exact st_4 hb | exact st_5 hb | exact st_o hb2 | exact st_1 hb2 | exact st_2 hb2 | exact st_3 hb2 | exact st_4 hb2 | exact st_5 hb2) rfl rfl (by first | assumption | omega) ?_
        try simp only [pM_1, pM_5, pM_w5]
        refine g_iconst 198 rfl (v := 1) dX12_goYear_197 (by decide) ?_
        refine g_isub 199 rfl dX12_goYear_198 ?_
        refine g_callSi 202 1 rfl kX12_234 dX12_goYear_199 ⟨rfl, rfl⟩ om_atLeast rfl rfl rfl ?_
        refine g_iast 203 rfl dX12_goYear_202 (by first | rfl | exact st_o hb | exact st_1 hb | exact st_2 hb | exact st_3 hb | exact st_4 hb | exact st_5 hb | exact st_o hb2 | exact st_1 hb2 | exact st_2 hb2 | exact st_3 hb2 | exact st_4 hb2 | exact st_5 hb2) rfl rfl (by first | assumption | omega) ?_
        try simp only [pM_1, pM_5, pM_w5]
        rw [los_is]
        refine g_iinc3 206 rfl dX12_goYear_203 rfl rfl _ (by first | exact iinc1 _ | exact iincx _ | rfl) ?_
        refine g_goto 160 dX12_goYear_206 (by decide) ?_
        exact ih
/-- frost, and the last part -/
theorem gy_frz {l : Launch} {M N : Mm} {R W b : Nat} {fr v : Int32} {x : Sx} {D L : Nat → Int32} {Q : Rr → Mm → Prop} (hf : FrM M N) (hm : Mod M R W) (hs : SI (R * W) x) (hB : HB b (R * W) x) (hb : b < 1000000000) (hN : N.1 16 = D) (hD : ∀ c, c < R * W → D c = L c - sH x c) (hQ : Q (some (.inl v)) (pM N (itN (wasB R W) (R * W) (itN (frzB L fr) (R * W) x)))) : Go GM l mX12_goYear 127 [.ref 0, .int fr, .int v, .null, .null] [] (pM N x) Q := by
  have h30 := hm.le
  have hm1 := hf.mod hm
  have hm2 : ∀ y, Mod (pM N y) R W := fun y => pM_mod hm1
  have r16 : ∀ y, (pM N y).1 16 = D := fun y => by rw [pM_o (Or.inr (by decide))]; exact hN
  refine g_iconst 128 rfl (v := 0) dX12_goYear_127 (by decide) ?_
  refine g_istore3 129 rfl dX12_goYear_128 rfl rfl ?_
  refine loop_up (P := fun i => Go GM l mX12_goYear 129 [.ref 0, .int fr, .int v, .int (nI i), .null] [] (pM N (itN (frzB L fr) i x)) Q) (R * W) ?_ ?_ 0 (by omega)
  · refine g_iload3 130 rfl dX12_goYear_129 ?_
    refine g_aload0 131 rfl dX12_goYear_130 ?_
    refine g_callVi 134 0 rfl kX12_140 (by first | rfl | exact st_o hb | exact st_1 hb | exact st_2 hb | exact st_3 hb | exact st_4 hb | exact st_5 hb | exact st_o hb2 | exact st_1 hb2 | exact st_2 hb2 | exact st_3 hb2 | exact st_4 hb2 | exact st_5 hb2) dX12_goYear_131 ⟨rfl, rfl⟩ (om_cells (hm2 _)) rfl rfl rfl ?_
    refine g_cmpge 158 137 rfl dX12_goYear_134 (by decide) (fun _ => ?_) (fun h => absurd (Int32.le_refl _) h)
    refine g_fg 3 ?_
    exact gy_was hf hm (SI_frz hs _) hQ
  · intro i hi ih
    have hh := (frz_H (L := L) (fr := fr) hb hB i).2 i (Nat.le_refl _)
    have hd := hD i hi
    rw [← hh] at hd
    simp only [it4] at ih
    generalize itN (frzB L fr) i x = y at hd ih ⊢
    unfold frzB at ih
    rw [← hd] at ih
    refine g_iload3 130 rfl dX12_goYear_129 ?_
    refine g_aload0 131 rfl dX12_goYear_130 ?_
    refine g_callVi 134 0 rfl kX12_140 (by first | rfl | exact st_o hb | exact st_1 hb | exact st_2 hb | exact st_3 hb | exact st_4 hb | exact st_5 hb | exact st_o hb2 | exact st_1 hb2 | exact st_2 hb2 | exact st_3 hb2 | exact st_4 hb2 | exact st_5 hb2) dX12_goYear_131 ⟨rfl, rfl⟩ (om_cells (hm2 _)) rfl rfl rfl ?_
    refine g_cmpge 158 137 rfl dX12_goYear_134 (by decide) (fun h => absurd h (nI_ge hi (by omega))) (fun _ => ?_)
    refine g_aload0 138 rfl dX12_goYear_137 ?_
    refine g_getR 141 rfl fX12_60 (by first | rfl | exact st_o hb | exact st_1 hb | exact st_2 hb | exact st_3 hb | exact st_4 hb | exact st_5 hb | exact st_o hb2 | exact st_1 hb2 | exact st_2 hb2 | exact st_3 hb2 | exact st_4 hb2 | exact st_5 hb2) rfl dX12_goYear_138 ?_
    refine g_iload3 142 rfl dX12_goYear_141 ?_
    refine g_iald 143 rfl dX12_goYear_142 (by first | rfl | exact st_o hb | exact st_1 hb | exact st_2 hb | exact st_3 hb | exact st_4 hb | exact st_5 hb | exact st_o hb2 | exact st_1 hb2 | exact st_2 hb2 | exact st_3 hb2 | exact st_4 hb2 | exact st_5 hb2) rfl rfl (by first | assumption | omega) ?_
    try simp only [r16]
    refine g_ifle 152 146 rfl dX12_goYear_143 (by decide) (fun h143 => ?_) (fun h143 => ?_)
    · rw [if_pos h143] at ih
      refine g_iinc3 155 rfl dX12_goYear_152 rfl rfl _ (by first | exact iinc1 _ | exact iincx _ | rfl) ?_
      refine g_goto 129 dX12_goYear_155 (by decide) ?_
      exact ih
    · rw [if_neg h143] at ih
      refine g_aload0 147 rfl dX12_goYear_146 ?_
      refine g_iload3 148 rfl dX12_goYear_147 ?_
      refine g_iload1 149 rfl dX12_goYear_148 ?_
      refine g_callVv 152 2 rfl kX12_246 (by first | rfl | exact st_o hb | exact st_1 hb | exact st_2 hb | exact st_3 hb | exact st_4 hb | exact st_5 hb | exact st_o hb2 | exact st_1 hb2 | exact st_2 hb2 | exact st_3 hb2 | exact st_4 hb2 | exact st_5 hb2) dX12_goYear_149 ⟨rfl, rfl⟩ (om_freeze (by omega)) rfl rfl rfl ?_
      refine g_iinc3 155 rfl dX12_goYear_152 rfl rfl _ (by first | exact iinc1 _ | exact iincx _ | rfl) ?_
      refine g_goto 129 dX12_goYear_155 (by decide) ?_
      exact ih
theorem om_goYear {l : Launch} {M : Mm} {R W b : Nat} {k : Ct} {fr : Int32} {x : Sx} (hm : Mod M R W) (hk : CrM M k) (hs : SI (R * W) x) (hB : HB b (R * W) x) (hb : b < 268000000) : Ok GM l mX12_goYear [.ref 0, .int fr] (pM M x) (qYr R W k fr M x) := by
  have h30 := hm.le
  refine ok_of (by decide +kernel) rfl rfl ?_
  refine g_aload0 1 rfl dX12_goYear_0 ?_
  refine g_callV 4 0 rfl kX12_240 (by first | rfl | exact st_o hb | exact st_1 hb | exact st_2 hb | exact st_3 hb | exact st_4 hb | exact st_5 hb | exact st_o hb2 | exact st_1 hb2 | exact st_2 hb2 | exact st_3 hb2 | exact st_4 hb2 | exact st_5 hb2) dX12_goYear_1 ⟨rfl, rfl⟩ (om_layWear hm hk) rfl rfl rfl (fun r M1 hq => ?_)
  obtain ⟨rfl, B, g, rfl, hBw, hg⟩ := hq
  try simp only [rV, Option.toList, List.cons_append, List.nil_append]
  refine g_iconst 5 rfl (v := 0) dX12_goYear_4 (by decide) ?_
  refine g_istore2 6 rfl dX12_goYear_5 rfl rfl ?_
  refine g_iconst 7 rfl (v := 0) dX12_goYear_6 (by decide) ?_
  refine g_istore3 8 rfl dX12_goYear_7 rfl rfl ?_
  obtain ⟨M1, hM1⟩ : ∃ M1, M1 = setA (setA M 16 B) 18 g := ⟨_, rfl⟩
  rw [← hM1]
  have f1 : FrM M M1 := by rw [hM1]; exact (FrM.rf.sA (Or.inl rfl)).sA (Or.inr (Or.inr rfl))
  have hm1 := f1.mod hm
  have hm2 : ∀ y, Mod (pM M1 y) R W := fun y => pM_mod hm1
  have r16 : ∀ y, (pM M1 y).1 16 = B := fun y => by rw [pM_o (Or.inr (by decide)), hM1, sA_n (by decide), sA_s]
  have r18 : ∀ y, (pM M1 y).1 18 = g := fun y => by rw [pM_o (Or.inr (by decide)), hM1, sA_s]
  refine loop_up (P := fun i => Go GM l mX12_goYear 8 [.ref 0, .int fr, .int (itN (wdB R W (weaX R W k x) x) i (x, 0)).2, .int (nI i), .null] [] (pM M1 (itN (wdB R W (weaX R W k x) x) i (x, 0)).1) (qYr R W k fr M x)) (R * W) ?_ ?_ 0 (by omega)
  · have hs1 : SI (R * W) (wdS R W (weaX R W k x) x).1 := SI_wd (p := (x, 0)) hs (R * W)
    have hB1 : HB (b + 5) (R * W) (wdS R W (weaX R W k x) x).1 := HB_wd (by omega) hB (R * W)
    rw [show itN (wdB R W (weaX R W k x) x) (R * W) (x, 0) = wdS R W (weaX R W k x) x from rfl]
    refine g_iload3 9 rfl dX12_goYear_8 ?_
    refine g_aload0 10 rfl dX12_goYear_9 ?_
    refine g_callVi 13 0 rfl kX12_140 (by first | rfl | exact st_o hb | exact st_1 hb | exact st_2 hb | exact st_3 hb | exact st_4 hb | exact st_5 hb | exact st_o hb2 | exact st_1 hb2 | exact st_2 hb2 | exact st_3 hb2 | exact st_4 hb2 | exact st_5 hb2) dX12_goYear_10 ⟨rfl, rfl⟩ (om_cells (hm2 _)) rfl rfl rfl ?_
    refine g_cmpge 88 16 rfl dX12_goYear_13 (by decide) (fun _ => ?_) (fun h => absurd (Int32.le_refl _) h)
    refine g_aload0 89 rfl dX12_goYear_88 ?_
    refine g_callV 92 0 rfl kX12_221 (by first | rfl | exact st_o hb | exact st_1 hb | exact st_2 hb | exact st_3 hb | exact st_4 hb | exact st_5 hb | exact st_o hb2 | exact st_1 hb2 | exact st_2 hb2 | exact st_3 hb2 | exact st_4 hb2 | exact st_5 hb2) dX12_goYear_89 ⟨rfl, rfl⟩ (om_layWater hm1 hB1 (by omega)) rfl rfl rfl (fun r M1 hq => ?_)
    obtain ⟨rfl, K, rfl, hK⟩ := hq
    try simp only [rV, Option.toList, List.cons_append, List.nil_append]
    refine g_iconst 93 rfl (v := 0) dX12_goYear_92 (by decide) ?_
    refine g_istore3 94 rfl dX12_goYear_93 rfl rfl ?_
    have hQ : ∀ N, FrM M N → qYr R W k fr M x (some (.inl (wdS R W (weaX R W k x) x).2)) (pM N (itN (wasB R W) (R * W) (itN (frzB (filS R W (sH (wdS R W (weaX R W k x) x).1) (fun _ => 0)) fr) (R * W) (wdS R W (weaX R W k x) x).1))) := fun N hN => ⟨rfl, N, rfl, hN⟩
    generalize (wdS R W (weaX R W k x) x).1 = x1 at hs1 hB1 hK hQ ⊢
    generalize (wdS R W (weaX R W k x) x).2 = v at hQ ⊢
    have f2 : FrM M (setA M1 17 K) := f1.sA (Or.inr (Or.inl rfl))
    generalize hM2 : setA M1 17 K = M2 at f2
    have k17 : M2.1 17 = K := by rw [← hM2, sA_s]
    have w16 : ∀ f e, setA (pM (setA M2 16 f) x1) 16 e = pM (setA M2 16 e) x1 := fun f e => by rw [pM_wo (Or.inr (by decide)), sA_sA]
    have s16 : ∀ f, (pM (setA M2 16 f) x1).1 16 = f := fun f => by rw [pM_o (Or.inr (by decide)), sA_s]
    have s17 : ∀ f, (pM (setA M2 16 f) x1).1 17 = K := fun f => by rw [pM_o (Or.inr (by decide)), sA_n (by decide)]; exact k17
    have hm3 : ∀ f, Mod (pM (setA M2 16 f) x1) R W := fun f => pM_mod (mod_sA (f2.mod hm) (by decide))
    refine g_mem (pM (setA M2 16 (M2.1 16)) x1) (by rw [sA_id]) ?_
    have key : ∀ i, i ≤ R * W → ∀ D, (∀ c, c < i → D c = K c - sH x1 c) → Go GM l mX12_goYear 94 [.ref 0, .int fr, .int v, .int (nI i), .null] [] (pM (setA M2 16 D) x1) (qYr R W k fr M x) := by
      refine loop_up (P := fun i => ∀ D, (∀ c, c < i → D c = K c - sH x1 c) → Go GM l mX12_goYear 94 [.ref 0, .int fr, .int v, .int (nI i), .null] [] (pM (setA M2 16 D) x1) (qYr R W k fr M x)) (R * W) ?_ ?_
      · intro D hD
        refine g_iload3 95 rfl dX12_goYear_94 ?_
        refine g_aload0 96 rfl dX12_goYear_95 ?_
        refine g_callVi 99 0 rfl kX12_140 (by first | rfl | exact st_o hb | exact st_1 hb | exact st_2 hb | exact st_3 hb | exact st_4 hb | exact st_5 hb | exact st_o hb2 | exact st_1 hb2 | exact st_2 hb2 | exact st_3 hb2 | exact st_4 hb2 | exact st_5 hb2) dX12_goYear_96 ⟨rfl, rfl⟩ (om_cells (hm3 _)) rfl rfl rfl ?_
        refine g_cmpge 127 102 rfl dX12_goYear_99 (by decide) (fun _ => ?_) (fun h => absurd (Int32.le_refl _) h)
        refine g_fg 3 ?_
        exact gy_frz (f2.sA (Or.inl rfl)) hm hs1 hB1 (by omega) sA_s (fun c hc => by rw [hD c hc, hK c hc]) (hQ _ (f2.sA (Or.inl rfl)))
      · intro i hi ih D hD
        refine g_iload3 95 rfl dX12_goYear_94 ?_
        refine g_aload0 96 rfl dX12_goYear_95 ?_
        refine g_callVi 99 0 rfl kX12_140 (by first | rfl | exact st_o hb | exact st_1 hb | exact st_2 hb | exact st_3 hb | exact st_4 hb | exact st_5 hb | exact st_o hb2 | exact st_1 hb2 | exact st_2 hb2 | exact st_3 hb2 | exact st_4 hb2 | exact st_5 hb2) dX12_goYear_96 ⟨rfl, rfl⟩ (om_cells (hm3 _)) rfl rfl rfl ?_
        refine g_cmpge 127 102 rfl dX12_goYear_99 (by decide) (fun h => absurd h (nI_ge hi (by omega))) (fun _ => ?_)
        refine g_aload0 103 rfl dX12_goYear_102 ?_
        refine g_getR 106 rfl fX12_60 (by first | rfl | exact st_o hb | exact st_1 hb | exact st_2 hb | exact st_3 hb | exact st_4 hb | exact st_5 hb | exact st_o hb2 | exact st_1 hb2 | exact st_2 hb2 | exact st_3 hb2 | exact st_4 hb2 | exact st_5 hb2) rfl dX12_goYear_103 ?_
        refine g_iload3 107 rfl dX12_goYear_106 ?_
        refine g_aload0 108 rfl dX12_goYear_107 ?_
        refine g_getR 111 rfl fX12_63 (by first | rfl | exact st_o hb | exact st_1 hb | exact st_2 hb | exact st_3 hb | exact st_4 hb | exact st_5 hb | exact st_o hb2 | exact st_1 hb2 | exact st_2 hb2 | exact st_3 hb2 | exact st_4 hb2 | exact st_5 hb2) rfl dX12_goYear_108 ?_
        refine g_iload3 112 rfl dX12_goYear_111 ?_
        refine g_iald 113 rfl dX12_goYear_112 (by first | rfl | exact st_o hb | exact st_1 hb | exact st_2 hb | exact st_3 hb | exact st_4 hb | exact st_5 hb | exact st_o hb2 | exact st_1 hb2 | exact st_2 hb2 | exact st_3 hb2 | exact st_4 hb2 | exact st_5 hb2) rfl rfl (by first | assumption | omega) ?_
        try simp only [pM_3, s16, s17, w16]
        refine g_aload0 114 rfl dX12_goYear_113 ?_
        refine g_getR 117 rfl fX12_16 (by first | rfl | exact st_o hb | exact st_1 hb | exact st_2 hb | exact st_3 hb | exact st_4 hb | exact st_5 hb | exact st_o hb2 | exact st_1 hb2 | exact st_2 hb2 | exact st_3 hb2 | exact st_4 hb2 | exact st_5 hb2) rfl dX12_goYear_114 ?_
        refine g_iload3 118 rfl dX12_goYear_117 ?_
        refine g_iald 119 rfl dX12_goYear_118 (by first | rfl | exact st_o hb | exact st_1 hb | exact st_2 hb | exact st_3 hb | exact st_4 hb | exact st_5 hb | exact st_o hb2 | exact st_1 hb2 | exact st_2 hb2 | exact st_3 hb2 | exact st_4 hb2 | exact st_5 hb2) rfl rfl (by first | assumption | omega) ?_
        try simp only [pM_3, s16, s17, w16]
        refine g_isub 120 rfl dX12_goYear_119 ?_
        refine g_iast 121 rfl dX12_goYear_120 (by first | rfl | exact st_o hb | exact st_1 hb | exact st_2 hb | exact st_3 hb | exact st_4 hb | exact st_5 hb | exact st_o hb2 | exact st_1 hb2 | exact st_2 hb2 | exact st_3 hb2 | exact st_4 hb2 | exact st_5 hb2) rfl rfl (by first | assumption | omega) ?_
        try simp only [pM_3, s16, s17, w16]
        refine g_iinc3 124 rfl dX12_goYear_121 rfl rfl _ (by first | exact iinc1 _ | exact iincx _ | rfl) ?_
        refine g_goto 94 dX12_goYear_124 (by decide) ?_
        refine ih _ (fun c hc => ?_)
        by_cases hci : c = i
        · subst hci; rw [upd_at]
        · rw [pk_un hci]; exact hD c (by omega)
    exact key 0 (by omega) _ (fun c hc => absurd hc (by omega))
  · intro i hi ih
    obtain ⟨hKi, hZi⟩ := wd_at (R := R) (W := W) (B := weaX R W k x) (x := x) i i (Nat.le_refl _)
    simp only [it4] at ih
    generalize itN (wdB R W (weaX R W k x) x) i (x, 0) = p at hKi hZi ih ⊢
    have skip58 : wdB R W (weaX R W k x) x i p = p → Go GM l mX12_goYear 58 [.ref 0, .int fr, .int p.2, .int (nI i), .null] [] (pM M1 p.1) (qYr R W k fr M x) := by
      intro e
      rw [e] at ih
      refine g_iconst 59 rfl (v := 0) dX12_goYear_58 (by decide) ?_
      refine g_istore4 61 rfl dX12_goYear_59 rfl rfl ?_
      refine g_iload2 62 rfl dX12_goYear_61 ?_
      refine g_iload4 64 rfl dX12_goYear_62 ?_
      refine g_ifeq 79 67 rfl dX12_goYear_64 (by decide) (fun _ => ?_) (fun h => absurd rfl h)
      refine g_iconst 80 rfl (v := 0) dX12_goYear_79 (by decide) ?_
      refine g_iadd 81 rfl dX12_goYear_80 ?_
      rw [Int32.add_zero]
      refine g_istore2 82 rfl dX12_goYear_81 rfl rfl ?_
      refine g_iinc3 85 rfl dX12_goYear_82 rfl rfl _ (by first | exact iinc1 _ | exact iincx _ | rfl) ?_
      refine g_goto 8 dX12_goYear_85 (by decide) ?_
      refine g_fg 4 ?_
      exact ih
    refine g_iload3 9 rfl dX12_goYear_8 ?_
    refine g_aload0 10 rfl dX12_goYear_9 ?_
    refine g_callVi 13 0 rfl kX12_140 (by first | rfl | exact st_o hb | exact st_1 hb | exact st_2 hb | exact st_3 hb | exact st_4 hb | exact st_5 hb | exact st_o hb2 | exact st_1 hb2 | exact st_2 hb2 | exact st_3 hb2 | exact st_4 hb2 | exact st_5 hb2) dX12_goYear_10 ⟨rfl, rfl⟩ (om_cells (hm2 _)) rfl rfl rfl ?_
    refine g_cmpge 88 16 rfl dX12_goYear_13 (by decide) (fun h => absurd h (nI_ge hi (by omega))) (fun _ => ?_)
    refine g_aload0 17 rfl dX12_goYear_16 ?_
    refine g_getR 20 rfl fX12_7 (by first | rfl | exact st_o hb | exact st_1 hb | exact st_2 hb | exact st_3 hb | exact st_4 hb | exact st_5 hb | exact st_o hb2 | exact st_1 hb2 | exact st_2 hb2 | exact st_3 hb2 | exact st_4 hb2 | exact st_5 hb2) rfl dX12_goYear_17 ?_
    refine g_iload3 21 rfl dX12_goYear_20 ?_
    refine g_iald 22 rfl dX12_goYear_21 (by first | rfl | exact st_o hb | exact st_1 hb | exact st_2 hb | exact st_3 hb | exact st_4 hb | exact st_5 hb | exact st_o hb2 | exact st_1 hb2 | exact st_2 hb2 | exact st_3 hb2 | exact st_4 hb2 | exact st_5 hb2) rfl rfl (by first | assumption | omega) ?_
    try simp only [pM_1, pM_2, r16, r18]
    refine g_iconst 23 rfl (v := (-1)) dX12_goYear_22 (by decide) ?_
    refine g_cmpeq 58 26 rfl dX12_goYear_23 (by decide) (fun h23 => ?_) (fun h23 => ?_)
    · refine skip58 ?_
      unfold wdB
      split
      · rfl
      · unfold worS worV
        rw [if_pos (Or.inl h23), if_pos (Or.inl h23), if_pos rfl]
    · refine g_aload0 27 rfl dX12_goYear_26 ?_
      refine g_getR 30 rfl fX12_60 (by first | rfl | exact st_o hb | exact st_1 hb | exact st_2 hb | exact st_3 hb | exact st_4 hb | exact st_5 hb | exact st_o hb2 | exact st_1 hb2 | exact st_2 hb2 | exact st_3 hb2 | exact st_4 hb2 | exact st_5 hb2) rfl dX12_goYear_27 ?_
      refine g_iload3 31 rfl dX12_goYear_30 ?_
      refine g_iald 32 rfl dX12_goYear_31 (by first | rfl | exact st_o hb | exact st_1 hb | exact st_2 hb | exact st_3 hb | exact st_4 hb | exact st_5 hb | exact st_o hb2 | exact st_1 hb2 | exact st_2 hb2 | exact st_3 hb2 | exact st_4 hb2 | exact st_5 hb2) rfl rfl (by first | assumption | omega) ?_
      try simp only [pM_1, pM_2, r16, r18]
      refine g_bipush 34 rfl (v := 20) dX12_goYear_32 (by decide) ?_
      refine g_aload0 35 rfl dX12_goYear_34 ?_
      refine g_getR 38 rfl fX12_13 (by first | rfl | exact st_o hb | exact st_1 hb | exact st_2 hb | exact st_3 hb | exact st_4 hb | exact st_5 hb | exact st_o hb2 | exact st_1 hb2 | exact st_2 hb2 | exact st_3 hb2 | exact st_4 hb2 | exact st_5 hb2) rfl dX12_goYear_35 ?_
      refine g_iload3 39 rfl dX12_goYear_38 ?_
      refine g_iald 40 rfl dX12_goYear_39 (by first | rfl | exact st_o hb | exact st_1 hb | exact st_2 hb | exact st_3 hb | exact st_4 hb | exact st_5 hb | exact st_o hb2 | exact st_1 hb2 | exact st_2 hb2 | exact st_3 hb2 | exact st_4 hb2 | exact st_5 hb2) rfl rfl (by first | assumption | omega) ?_
      try simp only [pM_1, pM_2, r16, r18]
      refine g_imul 41 rfl dX12_goYear_40 ?_
      refine g_bipush 43 rfl (v := 10) dX12_goYear_41 (by decide) ?_
      refine g_aload0 44 rfl dX12_goYear_43 ?_
      refine g_getR 47 rfl fX12_66 (by first | rfl | exact st_o hb | exact st_1 hb | exact st_2 hb | exact st_3 hb | exact st_4 hb | exact st_5 hb | exact st_o hb2 | exact st_1 hb2 | exact st_2 hb2 | exact st_3 hb2 | exact st_4 hb2 | exact st_5 hb2) rfl dX12_goYear_44 ?_
      refine g_iload3 48 rfl dX12_goYear_47 ?_
      refine g_iald 49 rfl dX12_goYear_48 (by first | rfl | exact st_o hb | exact st_1 hb | exact st_2 hb | exact st_3 hb | exact st_4 hb | exact st_5 hb | exact st_o hb2 | exact st_1 hb2 | exact st_2 hb2 | exact st_3 hb2 | exact st_4 hb2 | exact st_5 hb2) rfl rfl (by first | assumption | omega) ?_
      try simp only [pM_1, pM_2, r16, r18]
      refine g_imul 50 rfl dX12_goYear_49 ?_
      refine g_iadd 51 rfl dX12_goYear_50 ?_
      rw [hZi, hBw i hi, hg i hi]
      refine g_cmple 58 54 rfl dX12_goYear_51 (by decide) (fun h51 => ?_) (fun h51 => ?_)
      · refine skip58 ?_
        have h51 : weaX R W k x i ≤ 20 * sZ x i + 10 * holdS R W x i := h51
        unfold wdB
        rw [if_pos h51]
      · have h51 : ¬ weaX R W k x i ≤ 20 * sZ x i + 10 * holdS R W x i := h51
        unfold wdB at ih
        rw [if_neg h51] at ih
        refine g_iconst 55 rfl (v := 1) dX12_goYear_54 (by decide) ?_
        refine g_goto 59 dX12_goYear_55 (by decide) ?_
        refine g_istore4 61 rfl dX12_goYear_59 rfl rfl ?_
        refine g_iload2 62 rfl dX12_goYear_61 ?_
        refine g_iload4 64 rfl dX12_goYear_62 ?_
        refine g_ifeq 79 67 rfl dX12_goYear_64 (by decide) (fun h => absurd h (by decide)) (fun _ => ?_)
        refine g_aload0 68 rfl dX12_goYear_67 ?_
        refine g_iload3 69 rfl dX12_goYear_68 ?_
        refine g_callVi 72 1 rfl kX12_243 (by first | rfl | exact st_o hb | exact st_1 hb | exact st_2 hb | exact st_3 hb | exact st_4 hb | exact st_5 hb | exact st_o hb2 | exact st_1 hb2 | exact st_2 hb2 | exact st_3 hb2 | exact st_4 hb2 | exact st_5 hb2) dX12_goYear_69 ⟨rfl, rfl⟩ (om_worsen (by omega) h23) rfl rfl rfl ?_
        refine g_ifeq 79 75 rfl dX12_goYear_72 (by decide) (fun h72 => ?_) (fun h72 => ?_)
        · rw [if_pos h72] at ih
          refine g_iconst 80 rfl (v := 0) dX12_goYear_79 (by decide) ?_
          refine g_iadd 81 rfl dX12_goYear_80 ?_
          rw [Int32.add_zero]
          refine g_istore2 82 rfl dX12_goYear_81 rfl rfl ?_
          refine g_iinc3 85 rfl dX12_goYear_82 rfl rfl _ (by first | exact iinc1 _ | exact iincx _ | rfl) ?_
          refine g_goto 8 dX12_goYear_85 (by decide) ?_
          refine g_fg 4 ?_
          exact ih
        · rw [if_neg h72] at ih
          refine g_iconst 76 rfl (v := 1) dX12_goYear_75 (by decide) ?_
          refine g_goto 80 dX12_goYear_76 (by decide) ?_
          refine g_iadd 81 rfl dX12_goYear_80 ?_
          refine g_istore2 82 rfl dX12_goYear_81 rfl rfl ?_
          refine g_iinc3 85 rfl dX12_goYear_82 rfl rfl _ (by first | exact iinc1 _ | exact iincx _ | rfl) ?_
          refine g_goto 8 dX12_goYear_85 (by decide) ?_
          refine g_fg 4 ?_
          exact ih
abbrev qYs (R W n : Nat) (k : Ct) (fr : Int32) (M : Mm) (x : Sx) : Rr → Mm → Prop := fun r M' => r = some (.inl (yrsS R W k fr n x).2) ∧ ∃ N, M' = pM N (yrsS R W k fr n x).1 ∧ FrM M N
theorem om_goYears {l : Launch} {M : Mm} {R W b n : Nat} {k : Ct} {fr : Int32} {x : Sx} (hm : Mod M R W) (hk : CrM M k) (hs : SI (R * W) x) (hB : HB b (R * W) x) (hb : b < 267000000) (hn : n ≤ 100) : Ok GM l mX12_goYears [.ref 0, .int (nI n), .int fr] (pM M x) (qYs R W n k fr M x) := by
  have h30 := hm.le
  refine ok_of (by decide +kernel) rfl rfl ?_
  refine g_iconst 1 rfl (v := 0) dX12_goYears_0 (by decide) ?_
  refine g_istore3 2 rfl dX12_goYears_1 rfl rfl ?_
  refine g_iconst 3 rfl (v := 0) dX12_goYears_2 (by decide) ?_
  refine g_istore4 5 rfl dX12_goYears_3 rfl rfl ?_
  have key : ∀ i, i ≤ n → ∀ N, FrM M N → Go GM l mX12_goYears 5 [.ref 0, .int (nI n), .int fr, .int (yrsS R W k fr i x).2, .int (nI i)] [] (pM N (yrsS R W k fr i x).1) (qYs R W n k fr M x) := by
    refine loop_up (P := fun i => ∀ N, FrM M N → Go GM l mX12_goYears 5 [.ref 0, .int (nI n), .int fr, .int (yrsS R W k fr i x).2, .int (nI i)] [] (pM N (yrsS R W k fr i x).1) (qYs R W n k fr M x)) n ?_ ?_
    · intro N hN
      refine g_iload4 7 rfl dX12_goYears_5 ?_
      refine g_iload1 8 rfl dX12_goYears_7 ?_
      refine g_cmpge 25 11 rfl dX12_goYears_8 (by decide) (fun h8 => ?_) (fun h => absurd (Int32.le_refl _) h)
      refine g_iload3 26 rfl dX12_goYears_25 ?_
      refine g_iret rfl dX12_goYears_26 ?_
      exact ⟨rfl, N, rfl, hN⟩
    · intro i hi ih N hN
      have hsi := SI_yrs (R := R) (W := W) (k := k) (fr := fr) hs i
      have hBi := HB_yrs (R := R) (W := W) (k := k) (fr := fr) (by omega) hB i (by omega)
      have e1 : (yrsS R W k fr (i + 1) x).1 = yeaS R W k fr (yrsS R W k fr i x).1 := rfl
      have e2 : (yrsS R W k fr (i + 1) x).2 = (yrsS R W k fr i x).2 + yeaV R W k (yrsS R W k fr i x).1 := rfl
      rw [e1, e2] at ih
      generalize (yrsS R W k fr i x).1 = y at hsi hBi ih ⊢
      generalize (yrsS R W k fr i x).2 = a at ih ⊢
      refine g_iload4 7 rfl dX12_goYears_5 ?_
      refine g_iload1 8 rfl dX12_goYears_7 ?_
      refine g_cmpge 25 11 rfl dX12_goYears_8 (by decide) (fun h => absurd h (nI_ge hi (by omega))) (fun _ => ?_)
      refine g_iload3 12 rfl dX12_goYears_11 ?_
      refine g_aload0 13 rfl dX12_goYears_12 ?_
      refine g_iload2 14 rfl dX12_goYears_13 ?_
      refine g_callV 17 1 rfl kX12_252 (by first | rfl | exact st_o hb | exact st_1 hb | exact st_2 hb | exact st_3 hb | exact st_4 hb | exact st_5 hb | exact st_o hb2 | exact st_1 hb2 | exact st_2 hb2 | exact st_3 hb2 | exact st_4 hb2 | exact st_5 hb2) dX12_goYears_14 ⟨rfl, rfl⟩ (om_goYear (hN.mod hm) (hN.cr hk) hsi hBi (by omega)) rfl rfl rfl (fun r M1 hq => ?_)
      obtain ⟨rfl, N2, rfl, hN2⟩ := hq
      try simp only [rV, Option.toList, List.cons_append, List.nil_append]
      refine g_iadd 18 rfl dX12_goYears_17 ?_
      refine g_istore3 19 rfl dX12_goYears_18 rfl rfl ?_
      refine g_iinc4 22 rfl dX12_goYears_19 rfl rfl _ (by first | exact iinc1 _ | exact iincx _ | rfl) ?_
      refine g_goto 5 dX12_goYears_22 (by decide) ?_
      exact ih N2 (hN.tr hN2)
  exact key 0 (by omega) M FrM.rf
theorem Sv_fr {M N : Mm} {x : Sx} {n : Nat} (h : Sv M x n) (e : N.1 11 = M.1 11) : Sv N x n := by
  unfold Sv
  rw [e]
  exact h
/-- scratch of the reference, that calls may leave -/
def FrS (M N : Mm) : Prop := (∀ h, h ≠ 11 → h ≠ 16 → h ≠ 17 → h ≠ 18 → N.1 h = M.1 h) ∧ ∀ k, k ≠ 21 → N.2 0 k = M.2 0 k
abbrev qWo (R W n : Nat) (k : Ct) (fr : Int32) (M : Mm) (x : Sx) : Rr → Mm → Prop := fun r M' => r = some (.inl (yrsS R W k fr n x).2) ∧ ∃ N y, M' = pM N y ∧ sxE 30 y x ∧ FrS M N
theorem om_wouldNow {l : Launch} {M : Mm} {R W b n : Nat} {k : Ct} {fr : Int32} {x : Sx} (hm : Mod M R W) (hk : CrM M k) (hs : SI (R * W) x) (hB : HB b (R * W) x) (hb : b < 267000000) (hn : n ≤ 100) : Ok GM l mX12_wouldNow [.ref 0, .int (nI n), .int fr] (pM M x) (qWo R W n k fr M x) := by
  refine ok_of (by decide +kernel) rfl rfl ?_
  refine g_aload0 1 rfl dX12_wouldNow_0 ?_
  refine g_callV 4 0 rfl kX12_190 (by first | rfl | exact st_o hb | exact st_1 hb | exact st_2 hb | exact st_3 hb | exact st_4 hb | exact st_5 hb | exact st_o hb2 | exact st_1 hb2 | exact st_2 hb2 | exact st_3 hb2 | exact st_4 hb2 | exact st_5 hb2) dX12_wouldNow_1 ⟨rfl, rfl⟩ om_save rfl rfl rfl (fun r M1 hq => ?_)
  obtain ⟨rfl, f, rfl, hf⟩ := hq
  try simp only [rV, Option.toList, List.cons_append, List.nil_append]
  have hm2 : Mod (setA (setL M 0 21 (sD x).toInt64) 11 f) R W := mod_sA (mod_sL hm) (by decide)
  have hk2 : CrM (setA (setL M 0 21 (sD x).toInt64) 11 f) k := by
    unfold CrM
    rw [sA_n (by decide), sA_n (by decide), sA_n (by decide)]
    exact hk
  have fr1 : FrS M (setA (setL M 0 21 (sD x).toInt64) 11 f) := ⟨fun h a _ _ _ => by rw [sA_n a]; rfl, fun q hq => by simp [setA, setL, hq]⟩
  have h21 : (setA (setL M 0 21 (sD x).toInt64) 11 f).2 0 21 = (sD x).toInt64 := by simp [setA, setL]
  generalize setA (setL M 0 21 (sD x).toInt64) 11 f = M1 at hf hm2 hk2 fr1 h21
  refine g_aload0 5 rfl dX12_wouldNow_4 ?_
  refine g_iload1 6 rfl dX12_wouldNow_5 ?_
  refine g_iload2 7 rfl dX12_wouldNow_6 ?_
  refine g_callV 10 2 rfl kX12_263 (by first | rfl | exact st_o hb | exact st_1 hb | exact st_2 hb | exact st_3 hb | exact st_4 hb | exact st_5 hb | exact st_o hb2 | exact st_1 hb2 | exact st_2 hb2 | exact st_3 hb2 | exact st_4 hb2 | exact st_5 hb2) dX12_wouldNow_7 ⟨rfl, rfl⟩ (om_goYears hm2 hk2 hs hB hb hn) rfl rfl rfl (fun r M1 hq => ?_)
  obtain ⟨rfl, N, rfl, hN⟩ := hq
  try simp only [rV, Option.toList, List.cons_append, List.nil_append]
  have hS : Sv N x 30 := Sv_fr hf (hN.1 11 (by decide) (by decide) (by decide))
  have h21' : N.2 0 21 = (sD x).toInt64 := by rw [hN.2]; exact h21
  refine g_istore3 11 rfl dX12_wouldNow_10 rfl rfl ?_
  refine g_aload0 12 rfl dX12_wouldNow_11 ?_
  refine g_callV 15 0 rfl kX12_193 (by first | rfl | exact st_o hb | exact st_1 hb | exact st_2 hb | exact st_3 hb | exact st_4 hb | exact st_5 hb | exact st_o hb2 | exact st_1 hb2 | exact st_2 hb2 | exact st_3 hb2 | exact st_4 hb2 | exact st_5 hb2) dX12_wouldNow_12 ⟨rfl, rfl⟩ (om_back hS h21') rfl rfl rfl (fun r M1 hq => ?_)
  obtain ⟨rfl, y, rfl, hy⟩ := hq
  try simp only [rV, Option.toList, List.cons_append, List.nil_append]
  refine g_iload3 16 rfl dX12_wouldNow_15 ?_
  refine g_iret rfl dX12_wouldNow_16 ?_
  exact ⟨rfl, N, y, rfl, hy, fun h a b c d => (hN.1 h b c d).trans (fr1.1 h a b c d), fun q hq => by rw [hN.2]; exact fr1.2 q hq⟩
