/-! the reference's first() -/
def FMm (O : Mm) (p : Nat × (Nat → Nat)) : Prop := O.1 0 37 = nI p.1 ∧ ∀ i, i < p.1 → O.1 19 i = nI (p.2 i)
theorem pM_w19 {M : Mm} {x : Sx} {f : Nat → Int32} : setA (pM M x) 19 f = pM (setA M 19 f) x := pM_wo (Or.inr (by decide))
theorem can01 {x : Sx} {c : Nat} : canS x c = 0 ∨ canS x c = 1 := zB_or _
theorem om_layMends {l : Launch} {N : Mm} {x : Sx} {R W : Nat} (hm : Mod N R W) : Ok GM l mX12_layMends [.ref 0] (pM N x) (fun r M' => r = none ∧ ∃ O, M' = pM O x ∧ kpM N O ∧ FMm O (menN x (R * W))) := by
  have h30 := hm.le
  refine ok_of (by decide +kernel) rfl rfl ?_
  refine g_aload0 1 rfl dX12_layMends_0 ?_
  refine g_iconst 2 rfl (v := 0) dX12_layMends_1 (by decide) ?_
  refine g_putI 5 rfl fX12_275 (by first | rfl | exact st_o hb | exact st_1 hb | exact st_2 hb | exact st_3 hb | exact st_4 hb | exact st_5 hb | exact st_o hb2 | exact st_1 hb2 | exact st_2 hb2 | exact st_3 hb2 | exact st_4 hb2 | exact st_5 hb2) rfl dX12_layMends_2 ?_
  try simp only [pM_0, pM_w0]
  refine g_iconst 6 rfl (v := 0) dX12_layMends_5 (by decide) ?_
  refine g_istore1 7 rfl dX12_layMends_6 rfl rfl ?_
  have key : ∀ i, i ≤ R * W → ∀ O, kpM N O → FMm O (menN x i) → Go GM l mX12_layMends 7 [.ref 0, .int (nI i)] [] (pM O x) (fun r M' => r = none ∧ ∃ O, M' = pM O x ∧ kpM N O ∧ FMm O (menN x (R * W))) := by
    refine loop_up (P := fun i => ∀ O, kpM N O → FMm O (menN x i) → Go GM l mX12_layMends 7 [.ref 0, .int (nI i)] [] (pM O x) (fun r M' => r = none ∧ ∃ O, M' = pM O x ∧ kpM N O ∧ FMm O (menN x (R * W)))) (R * W) ?_ ?_
    · intro O kO hF
      have hmO : Mod (pM O x) R W := pM_mod (by unfold Mod; rw [kO.1 0 (by decide), kO.1 1 (by decide)]; exact hm)
      refine g_iload1 8 rfl dX12_layMends_7 ?_
      refine g_aload0 9 rfl dX12_layMends_8 ?_
      refine g_callVi 12 0 rfl kX12_140 (by first | rfl | exact st_o hb | exact st_1 hb | exact st_2 hb | exact st_3 hb | exact st_4 hb | exact st_5 hb | exact st_o hb2 | exact st_1 hb2 | exact st_2 hb2 | exact st_3 hb2 | exact st_4 hb2 | exact st_5 hb2) dX12_layMends_9 ⟨rfl, rfl⟩ (om_cells hmO) rfl rfl rfl ?_
      refine g_cmpge 58 15 rfl dX12_layMends_12 (by decide) (fun h12 => ?_) (fun h => absurd (Int32.le_refl _) h)
      refine g_vret rfl dX12_layMends_58 ?_
      exact ⟨rfl, O, rfl, kO, hF⟩
    · intro i hi ih O kO hF
      have hmO : Mod (pM O x) R W := pM_mod (by unfold Mod; rw [kO.1 0 (by decide), kO.1 1 (by decide)]; exact hm)
      have hb := menN_b (x := x) i
      have e37 := hF.1
      rw [menN] at ih
      generalize menN x i = p at hb hF e37 ih
      have r0 : ∀ f, (setA O 19 f).1 0 = O.1 0 := fun f => sA_n (by decide)
      refine g_iload1 8 rfl dX12_layMends_7 ?_
      refine g_aload0 9 rfl dX12_layMends_8 ?_
      refine g_callVi 12 0 rfl kX12_140 (by first | rfl | exact st_o hb | exact st_1 hb | exact st_2 hb | exact st_3 hb | exact st_4 hb | exact st_5 hb | exact st_o hb2 | exact st_1 hb2 | exact st_2 hb2 | exact st_3 hb2 | exact st_4 hb2 | exact st_5 hb2) dX12_layMends_9 ⟨rfl, rfl⟩ (om_cells hmO) rfl rfl rfl ?_
      refine g_cmpge 58 15 rfl dX12_layMends_12 (by decide) (fun h => absurd h (nI_ge hi (by omega))) (fun _ => ?_)
      refine g_aload0 16 rfl dX12_layMends_15 ?_
      refine g_iload1 17 rfl dX12_layMends_16 ?_
      refine g_callVi 20 1 rfl kX12_269 (by first | rfl | exact st_o hb | exact st_1 hb | exact st_2 hb | exact st_3 hb | exact st_4 hb | exact st_5 hb | exact st_o hb2 | exact st_1 hb2 | exact st_2 hb2 | exact st_3 hb2 | exact st_4 hb2 | exact st_5 hb2) dX12_layMends_17 ⟨rfl, rfl⟩ (om_canMend (by omega)) rfl rfl rfl ?_
      have skip : ¬ (p.1 < 8 ∧ ¬ canS x i = 0) → Go GM l mX12_layMends 52 [.ref 0, .int (nI i)] [] (pM O x) (fun r M' => r = none ∧ ∃ O, M' = pM O x ∧ kpM N O ∧ FMm O (menN x (R * W))) := by
        intro hn
        rw [ifC_f hn] at ih
        refine g_iinc1 55 rfl dX12_layMends_52 rfl rfl _ (by first | exact iinc1 _ | exact iincx _ | rfl) ?_
        refine g_goto 7 dX12_layMends_55 (by decide) ?_
        exact ih O kO hF
      refine g_ifeq 52 23 rfl dX12_layMends_20 (by decide) (fun h20 => skip (fun z => z.2 h20)) (fun h20 => ?_)
      refine g_aload0 24 rfl dX12_layMends_23 ?_
      refine g_getI 27 rfl fX12_275 (by first | rfl | exact st_o hb | exact st_1 hb | exact st_2 hb | exact st_3 hb | exact st_4 hb | exact st_5 hb | exact st_o hb2 | exact st_1 hb2 | exact st_2 hb2 | exact st_3 hb2 | exact st_4 hb2 | exact st_5 hb2) rfl dX12_layMends_24 ?_
      try simp only [pM_0, pM_w0, pM_h19, pM_w19, r0, e37]
      refine g_bipush 29 rfl (v := 8) dX12_layMends_27 (by decide) ?_
      refine g_cmpge 52 32 rfl dX12_layMends_29 (by decide) (fun h29 => skip (fun z => absurd h29 (nI_ge (b := 8) z.1 (by decide)))) (fun h29 => ?_)
      have hlt : p.1 < 8 := Nat.lt_of_not_le (fun z => h29 (nI_le (a := 8) z (by omega)))
      rw [ifC_t ⟨hlt, h20⟩] at ih
      refine g_aload0 33 rfl dX12_layMends_32 ?_
      refine g_getR 36 rfl fX12_69 (by first | rfl | exact st_o hb | exact st_1 hb | exact st_2 hb | exact st_3 hb | exact st_4 hb | exact st_5 hb | exact st_o hb2 | exact st_1 hb2 | exact st_2 hb2 | exact st_3 hb2 | exact st_4 hb2 | exact st_5 hb2) rfl dX12_layMends_33 ?_
      refine g_aload0 37 rfl dX12_layMends_36 ?_
      refine g_getI 40 rfl fX12_275 (by first | rfl | exact st_o hb | exact st_1 hb | exact st_2 hb | exact st_3 hb | exact st_4 hb | exact st_5 hb | exact st_o hb2 | exact st_1 hb2 | exact st_2 hb2 | exact st_3 hb2 | exact st_4 hb2 | exact st_5 hb2) rfl dX12_layMends_37 ?_
      try simp only [pM_0, pM_w0, pM_h19, pM_w19, r0, e37]
      refine g_iload1 41 rfl dX12_layMends_40 ?_
      refine g_iast 42 rfl dX12_layMends_41 (by first | rfl | exact st_o hb | exact st_1 hb | exact st_2 hb | exact st_3 hb | exact st_4 hb | exact st_5 hb | exact st_o hb2 | exact st_1 hb2 | exact st_2 hb2 | exact st_3 hb2 | exact st_4 hb2 | exact st_5 hb2) rfl rfl (by first | assumption | omega) ?_
      try simp only [pM_0, pM_w0, pM_h19, pM_w19, r0, e37]
      refine g_aload0 43 rfl dX12_layMends_42 ?_
      refine g_dup 44 rfl dX12_layMends_43 rfl ?_
      refine g_getI 47 rfl fX12_275 (by first | rfl | exact st_o hb | exact st_1 hb | exact st_2 hb | exact st_3 hb | exact st_4 hb | exact st_5 hb | exact st_o hb2 | exact st_1 hb2 | exact st_2 hb2 | exact st_3 hb2 | exact st_4 hb2 | exact st_5 hb2) rfl dX12_layMends_44 ?_
      try simp only [pM_0, pM_w0, pM_h19, pM_w19, r0, e37]
      refine g_iconst 48 rfl (v := 1) dX12_layMends_47 (by decide) ?_
      refine g_iadd 49 rfl dX12_layMends_48 ?_
      rw [nI_1]
      refine g_putI 52 rfl fX12_275 (by first | rfl | exact st_o hb | exact st_1 hb | exact st_2 hb | exact st_3 hb | exact st_4 hb | exact st_5 hb | exact st_o hb2 | exact st_1 hb2 | exact st_2 hb2 | exact st_3 hb2 | exact st_4 hb2 | exact st_5 hb2) rfl dX12_layMends_49 ?_
      try simp only [pM_0, pM_w0, pM_h19, pM_w19, r0, e37]
      refine g_iinc1 55 rfl dX12_layMends_52 rfl rfl _ (by first | exact iinc1 _ | exact iincx _ | rfl) ?_
      refine g_goto 7 dX12_layMends_55 (by decide) ?_
      have k1 : kpM N (setA (setA O 19 (upd (O.1 19) p.1 (nI i))) 0 (upd (O.1 0) 37 (nI (p.1 + 1)))) := by
        have z := (kO.sA (q := 19) (f := upd (O.1 19) p.1 (nI i)) (by decide)).s0 (v := nI (p.1 + 1)) (q := 37) (by decide)
        rw [r0] at z
        exact z
      refine ih _ k1 ⟨by rw [sA_s, upd_at], fun j hj => ?_⟩
      rw [sA_n (by decide), sA_s]
      show upd (O.1 19) p.1 (nI i) j = nI (updN p.2 p.1 i j)
      by_cases hjp : j = p.1
      · subst hjp
        rw [upd_at, updN, if_pos rfl]
      · rw [pk_un hjp, updN, if_neg hjp]
        exact hF.2 j (by have : j < p.1 + 1 := hj; omega)
  refine key 0 (by omega) _ (kpM.rf.s0 (by decide)) ⟨by rw [sA_s, upd_at]; rfl, fun j hj => absurd hj (by show ¬ j < 0; omega)⟩
theorem frN_600 {g : Sg} {q : Nat} {y f : Int32} {p : Nat × (Nat → Nat)} (h30 : gR g * gW g ≤ 30) (hy : okY y f) (hq0 : 0 < q) (hq : q < 6) : ∀ b, 2 ^ q - 1 ≤ b → (frN g q y f p b).2.toInt ≤ 600
  | 0, h => by
    have : 2 ≤ 2 ^ q := Nat.le_trans (by decide) (Nat.pow_le_pow_right (n := 2) (by decide) hq0)
    omega
  | b + 1, h => by
    obtain ⟨j, hj, e⟩ := lwS_nn (p := p) (b := b + 1) h30 hy
    have ej : (lwS g y f p (b + 1)).toInt ≤ 600 := by rw [e, nI_toInt (by omega)]; omega
    rw [frN]
    by_cases hc : pcn (b + 1) = q ∧ lwS g y f p (b + 1) < (frN g q y f p b).2
    · rw [ifC_t hc]; exact ej
    · rw [ifC_f hc]
      by_cases hb : 2 ^ q - 1 ≤ b
      · exact frN_600 h30 hy hq0 hq b hb
      · have hbq : b + 1 = 2 ^ q - 1 := by omega
        have hp : pcn (b + 1) = q := by
          rw [hbq]
          rcases (show q = 1 ∨ q = 2 ∨ q = 3 ∨ q = 4 ∨ q = 5 by omega) with rfl | rfl | rfl | rfl | rfl <;> decide
        have := Int32.not_lt.mp (fun z => hc ⟨hp, z⟩)
        rw [Int32.le_iff_toInt_le] at this
        omega
theorem MR.as {g : Sg} {N : Mm} (h : MR g N) (hf : gF g < 20) : MR (sgF g (gF g + 1)) (setA N 0 (upd (N.1 0) 14 (nI (gF g + 1)))) := by
  have hk : ∀ k, k ≠ 14 → (setA N 0 (upd (N.1 0) 14 (nI (gF g + 1)))).1 0 k = N.1 0 k := fun k a => by rw [sA_s, pk_un a]
  have hh : ∀ q, q ≠ 0 → (setA N 0 (upd (N.1 0) 14 (nI (gF g + 1)))).1 q = N.1 q := fun q a => sA_n a
  have h14 : (setA N 0 (upd (N.1 0) 14 (nI (gF g + 1)))).1 0 14 = nI (gF g + 1) := by rw [sA_s, upd_at]
  have hl : (setA N 0 (upd (N.1 0) 14 (nI (gF g + 1)))).2 = N.2 := rfl
  obtain ⟨a1, a2, a3, a4, a5, a6, a7, a8, a9, a10⟩ := h
  generalize setA N 0 (upd (N.1 0) 14 (nI (gF g + 1))) = O at hk hh h14 hl
  refine ⟨?_, ?_, ?_, ?_, ?_, h14, ?_, ?_, ?_, ⟨a10.1, a10.2.1, a10.2.2.1, by show gF g + 1 ≤ 20; omega⟩⟩
  · unfold Mod at a1 ⊢
    rw [hk 0 (by decide), hk 1 (by decide)]
    exact a1
  · rw [hk 15 (by decide), hh 9 (by decide)]
    exact a2
  · unfold CrM at a3 ⊢
    rw [hk 9 (by decide), hh 6 (by decide), hh 7 (by decide)]
    exact a3
  · rw [hk 12 (by decide), hh 8 (by decide)]
    exact a4
  · rw [hk 2 (by decide)]
    exact a5
  · rw [hk 17 (by decide)]
    exact a7
  · rw [hk 17 (by decide), hk 18 (by decide)]
    exact a8
  · unfold Kp at a9 ⊢
    rw [hl, hh 10 (by decide)]
    exact a9
theorem SI_rp {n b : Nat} {a : Nat → Nat} {x : Sx} (h : SI n x) : ∀ m, SI n (itN (rpB b a) m x)
  | 0 => h
  | m + 1 => by
    rw [it4, rpB]
    split
    · exact SI_rep (SI_rp h m)
    · exact SI_rp h m
theorem HB_rp {B n b : Nat} {a : Nat → Nat} {x : Sx} (h : HB B n x) : ∀ m, HB B n (itN (rpB b a) m x)
  | 0 => h
  | m + 1 => by
    rw [it4, rpB]
    split
    · exact HB_rep (HB_rp h m)
    · exact HB_rp h m
theorem mub_first {l : Launch} {M : Mm} {g : Sg} {b : Nat} {k y f w : Int32} (h : MS g M) (hI : IV b g) (hb : b < 100000000) : Ok GM l mX12_first [.ref 0, .int k, .int y, .int f, .int w] M (qM (fFirst g k y f w)) := by
  obtain ⟨N, x, rfl, hx, hr⟩ := h
  have h30 := hr.m.le
  refine ok_of (by decide +kernel) rfl rfl ?_
  refine g_aload0 1 rfl dX12_first_0 ?_
  refine g_callV 4 0 rfl kX12_255 (by first | rfl | exact st_o hb | exact st_1 hb | exact st_2 hb | exact st_3 hb | exact st_4 hb | exact st_5 hb | exact st_o hb2 | exact st_1 hb2 | exact st_2 hb2 | exact st_3 hb2 | exact st_4 hb2 | exact st_5 hb2) dX12_first_1 ⟨rfl, rfl⟩ (om_isReady hr) rfl rfl rfl (fun r M1 hq => ?_)
  obtain ⟨rfl, ⟨rfl, hq⟩ | ⟨rfl, hq⟩⟩ := hq
  try simp only [rV, Option.toList, List.cons_append, List.nil_append]
  · refine g_ifne 10 7 rfl dX12_first_4 (by decide) (fun _ => ?_) (fun h => absurd h (by decide))
    have bad : ¬ okI k y f w → Go GM l mX12_first 37 [.ref 0, .int k, .int y, .int f, .int w, .null, .null, .null, .null] [] (pM N x) (qM (fFirst g k y f w)) := by
      intro hn
      refine g_bipush 39 rfl (v := (-102)) dX12_first_37 (by decide) ?_
      refine g_iret rfl dX12_first_39 ?_
      rw [fFirst, ifC_t hq, ifC_f hn]
      exact ⟨rfl, N, x, rfl, hx, hr⟩
    have good : okI k y f w → Go GM l mX12_first 40 [.ref 0, .int k, .int y, .int f, .int w, .null, .null, .null, .null] [] (pM N x) (qM (fFirst g k y f w)) := by
      intro hg
      obtain ⟨q, hq0, hq5, rfl⟩ := le5 hg.1.1 (Int32.le_trans hg.1.2 (by decide))
      have ecq : ce (nI q) = q := ce_nI (by omega)
      obtain ⟨yn, hyn, rfl⟩ := okY_nI hg.2.1
      have ecy : ce (nI yn) = yn := ce_nI (by omega)
      have h600 := frN_600 (p := menN (gX g) (gR g * gW g)) h30 hg.2.1 hq0 hq5
      have hnn : ∀ c, ∃ j, j ≤ 600 ∧ lwS g (nI yn) f (menN (gX g) (gR g * gW g)) c = nI j := fun c => lwS_nn h30 hg.2.1
      refine g_aload0 41 rfl dX12_first_40 ?_
      refine g_callV 44 0 rfl kX12_278 (by first | rfl | exact st_o hb | exact st_1 hb | exact st_2 hb | exact st_3 hb | exact st_4 hb | exact st_5 hb | exact st_o hb2 | exact st_1 hb2 | exact st_2 hb2 | exact st_3 hb2 | exact st_4 hb2 | exact st_5 hb2) dX12_first_41 ⟨rfl, rfl⟩ (om_layMends hr.m) rfl rfl rfl (fun r M1 hq => ?_)
      obtain ⟨rfl, O, rfl, kO, hFM⟩ := hq
      try simp only [rV, Option.toList, List.cons_append, List.nil_append]
      rw [menN_E hx _ (Nat.le_refl _)] at hFM
      have hmb : (menN (gX g) (gR g * gW g)).1 ≤ 8 ∧ ∀ i, i < (menN (gX g) (gR g * gW g)).1 → (menN (gX g) (gR g * gW g)).2 i < gR g * gW g := menN_b (x := gX g) (gR g * gW g)
      have hmb8 : (menN (gX g) (gN g)).1 ≤ 8 := hmb.1
      have hrO := hr.fr kO
      have e37 := hFM.1
      have e14 := hrO.2.2.2.2.2.1
      have hfd : gF g ≤ 20 := hr.ok.2.2.2
      have st : ¬ (q ≤ (menN (gX g) (gR g * gW g)).1 ∧ gF g < 20) → Go GM l mX12_first 61 [.ref 0, .int (nI q), .int (nI yn), .int f, .int w, .null, .null, .null, .null] [] (pM O x) (qM (fFirst g (nI q) (nI yn) f w)) := by
        intro hn
        refine g_bipush 63 rfl (v := (-103)) dX12_first_61 (by decide) ?_
        refine g_iret rfl dX12_first_63 ?_
        rw [fFirst, ifC_t hq, ifC_t hg, ecq, ifC_f hn]
        exact ⟨rfl, O, x, rfl, hx, hrO⟩
      refine g_aload0 45 rfl dX12_first_44 ?_
      refine g_getI 48 rfl fX12_275 (by first | rfl | exact st_o hb | exact st_1 hb | exact st_2 hb | exact st_3 hb | exact st_4 hb | exact st_5 hb | exact st_o hb2 | exact st_1 hb2 | exact st_2 hb2 | exact st_3 hb2 | exact st_4 hb2 | exact st_5 hb2) rfl dX12_first_45 ?_
      try simp only [pM_0, e37, e14, pM_w0]
      refine g_iload1 49 rfl dX12_first_48 ?_
      refine g_cmplt 61 52 rfl dX12_first_49 (by decide) (fun h51 => st (fun z => absurd h51 (nI_nlt z.1 (by omega)))) (fun h51 => ?_)
      have hqm : q ≤ (menN (gX g) (gR g * gW g)).1 := Nat.le_of_not_lt (fun z => h51 (nI_lt z (by omega)))
      refine g_aload0 53 rfl dX12_first_52 ?_
      refine g_getI 56 rfl fX12_281 (by first | rfl | exact st_o hb | exact st_1 hb | exact st_2 hb | exact st_3 hb | exact st_4 hb | exact st_5 hb | exact st_o hb2 | exact st_1 hb2 | exact st_2 hb2 | exact st_3 hb2 | exact st_4 hb2 | exact st_5 hb2) rfl dX12_first_53 ?_
      try simp only [pM_0, e37, e14, pM_w0]
      refine g_bipush 58 rfl (v := 20) dX12_first_56 (by decide) ?_
      refine g_cmpne 64 61 rfl dX12_first_58 (by decide) (fun h58 => ?_) (fun h58 => st (fun z => absurd ((nI_eq (b := 20) (by omega) (by decide)).mp h58) (by omega)))
      have hlt : gF g < 20 := by
        rcases Nat.lt_or_ge (gF g) 20 with z | z
        · exact z
        · exact absurd (by rw [show gF g = 20 by omega]; rfl) h58
      refine g_aload0 65 rfl dX12_first_64 ?_
      refine g_dup 66 rfl dX12_first_65 rfl ?_
      refine g_getI 69 rfl fX12_281 (by first | rfl | exact st_o hb | exact st_1 hb | exact st_2 hb | exact st_3 hb | exact st_4 hb | exact st_5 hb | exact st_o hb2 | exact st_1 hb2 | exact st_2 hb2 | exact st_3 hb2 | exact st_4 hb2 | exact st_5 hb2) rfl dX12_first_66 ?_
      try simp only [pM_0, e37, e14, pM_w0]
      refine g_iconst 70 rfl (v := 1) dX12_first_69 (by decide) ?_
      refine g_iadd 71 rfl dX12_first_70 ?_
      rw [nI_1]
      refine g_putI 74 rfl fX12_281 (by first | rfl | exact st_o hb | exact st_1 hb | exact st_2 hb | exact st_3 hb | exact st_4 hb | exact st_5 hb | exact st_o hb2 | exact st_1 hb2 | exact st_2 hb2 | exact st_3 hb2 | exact st_4 hb2 | exact st_5 hb2) rfl dX12_first_71 ?_
      try simp only [pM_0, e37, e14, pM_w0]
      refine g_iconst 75 rfl (v := 0) dX12_first_74 (by decide) ?_
      refine g_istore5 77 rfl dX12_first_75 rfl rfl ?_
      refine g_ldc 79 rfl dX12_first_77 cX12_196 ?_
      refine g_istore6 81 rfl dX12_first_79 rfl rfl ?_
      have hrP := hrO.as hlt
      have hFP : FMm (setA O 0 (upd (O.1 0) 14 (nI (gF g + 1)))) (menN (gX g) (gR g * gW g)) := ⟨by rw [sA_s, pk_un (by decide)]; exact hFM.1, fun i hi => by rw [sA_n (by decide)]; exact hFM.2 i hi⟩
      generalize setA O 0 (upd (O.1 0) 14 (nI (gF g + 1))) = P at hrP hFP ⊢
      have ef : fFirst g (nI q) (nI yn) f w = (ifC (w = 0) (nI (frN g q (nI yn) f (menN (gX g) (gR g * gW g)) (2 ^ (menN (gX g) (gR g * gW g)).1 - 1)).1) (frN g q (nI yn) f (menN (gX g) (gR g * gW g)) (2 ^ (menN (gX g) (gR g * gW g)).1 - 1)).2, sgF g (gF g + 1)) := by rw [fFirst, ifC_t hq, ifC_t hg, ecq, ifC_t ⟨hqm, hlt⟩]
      rw [ef]
      generalize menN (gX g) (gR g * gW g) = p at hmb hnn hFP h600 hqm ⊢
      refine g_aload0 82 rfl dX12_first_81 ?_
      refine g_callV 85 0 rfl kX12_190 (by first | rfl | exact st_o hb | exact st_1 hb | exact st_2 hb | exact st_3 hb | exact st_4 hb | exact st_5 hb | exact st_o hb2 | exact st_1 hb2 | exact st_2 hb2 | exact st_3 hb2 | exact st_4 hb2 | exact st_5 hb2) dX12_first_82 ⟨rfl, rfl⟩ om_save rfl rfl rfl (fun r M1 hq => ?_)
      obtain ⟨rfl, f1, rfl, hf1⟩ := hq
      try simp only [rV, Option.toList, List.cons_append, List.nil_append]
      have kS := sv_kp (N := P) (x := x) (f := f1)
      have h21 := sv_21 (N := P) (x := x) (f := f1)
      have hFS : FMm (setA (setL P 0 21 (sD x).toInt64) 11 f1) p := ⟨by rw [sA_n (by decide)]; exact hFP.1, fun i hi => by rw [sA_n (by decide)]; exact hFP.2 i hi⟩
      generalize setA (setL P 0 21 (sD x).toInt64) 11 f1 = S at hf1 kS h21 hFS ⊢
      have hrS := hrP.fr kS
      have hpw : 2 ^ p.1 ≤ 256 := Nat.le_trans (Nat.pow_le_pow_right (by decide) hmb.1) (by decide)
      have hpw1 : 1 ≤ 2 ^ p.1 := Nat.one_le_two_pow
      have hpq : 2 ^ q - 1 ≤ 2 ^ p.1 - 1 := Nat.sub_le_sub_right (Nat.pow_le_pow_right (by decide) hqm) 1
      have n1 : (268435456 : Int32).toInt = 268435456 := by decide
      have n2 : (2147483647 : Int32).toInt = 2147483647 := by decide
      refine g_iconst 86 rfl (v := 0) dX12_first_85 (by decide) ?_
      refine g_istore7 88 rfl dX12_first_86 rfl rfl ?_
      have key : ∀ s, s ≤ 2 ^ p.1 → ∀ (T : Mm) (u : Sx) (v : Int32), FrM S T → sxE (gN g) u (gX g) → ((v = 268435456 ∧ (frN g q (nI yn) f p (s - 1)).2 = 2147483647) ∨ (v = (frN g q (nI yn) f p (s - 1)).2 ∧ v.toInt ≤ 600)) → Go GM l mX12_first 88 [.ref 0, .int (nI q), .int (nI yn), .int f, .int w, .int (nI (frN g q (nI yn) f p (s - 1)).1), .int v, .int (nI s), .null] [] (pM T u) (qM (ifC (w = 0) (nI (frN g q (nI yn) f p (2 ^ p.1 - 1)).1) (frN g q (nI yn) f p (2 ^ p.1 - 1)).2, sgF g (gF g + 1))) := by
        refine loop_up (P := fun s => ∀ (T : Mm) (u : Sx) (v : Int32), FrM S T → sxE (gN g) u (gX g) → ((v = 268435456 ∧ (frN g q (nI yn) f p (s - 1)).2 = 2147483647) ∨ (v = (frN g q (nI yn) f p (s - 1)).2 ∧ v.toInt ≤ 600)) → Go GM l mX12_first 88 [.ref 0, .int (nI q), .int (nI yn), .int f, .int w, .int (nI (frN g q (nI yn) f p (s - 1)).1), .int v, .int (nI s), .null] [] (pM T u) (qM (ifC (w = 0) (nI (frN g q (nI yn) f p (2 ^ p.1 - 1)).1) (frN g q (nI yn) f p (2 ^ p.1 - 1)).2, sgF g (gF g + 1)))) (2 ^ p.1) ?_ ?_
        · intro T u v hT hu hv
          have t37 : T.1 0 37 = nI p.1 := by rw [hT.1 0 (by decide) (by decide) (by decide)]; exact hFS.1
          have hmT : MS (sgF g (gF g + 1)) (pM T u) := ⟨T, u, rfl, hu, hrS.fr (kpM.fM hT)⟩
          have hv2 : v = (frN g q (nI yn) f p (2 ^ p.1 - 1)).2 := by
            rcases hv with ⟨_, e⟩ | ⟨e, _⟩
            · have := h600 _ hpq
              rw [e, n2] at this
              omega
            · exact e
          refine g_iload7 90 rfl dX12_first_88 ?_
          refine g_iconst 91 rfl (v := 1) dX12_first_90 (by decide) ?_
          refine g_aload0 92 rfl dX12_first_91 ?_
          refine g_getI 95 rfl fX12_275 (by first | rfl | exact st_o hb | exact st_1 hb | exact st_2 hb | exact st_3 hb | exact st_4 hb | exact st_5 hb | exact st_o hb2 | exact st_1 hb2 | exact st_2 hb2 | exact st_3 hb2 | exact st_4 hb2 | exact st_5 hb2) rfl dX12_first_92 ?_
          try simp only [pM_0, t37]
          refine g_ishl 96 rfl dX12_first_95 ?_
          rw [one_shl8 hmb.1]
          refine g_cmpge 199 99 rfl dX12_first_96 (by decide) (fun _ => ?_) (fun h => absurd (Int32.le_refl _) h)
          refine g_iload4 201 rfl dX12_first_199 ?_
          refine g_ifne 209 204 rfl dX12_first_201 (by decide) (fun h201 => ?_) (fun h201 => ?_)
          · refine g_iload6 211 rfl dX12_first_209 ?_
            refine g_iret rfl dX12_first_211 ?_
            exact ⟨by rw [ifC_f h201, hv2], hmT⟩
          · refine g_iload5 206 rfl dX12_first_204 ?_
            refine g_goto 211 dX12_first_206 (by decide) ?_
            refine g_iret rfl dX12_first_211 ?_
            exact ⟨by rw [ifC_t h201], hmT⟩
        · intro s hs ih T u v hT hu hv
          have hrT : MR (sgF g (gF g + 1)) T := hrS.fr (kpM.fM hT)
          have t37 : T.1 0 37 = nI p.1 := by rw [hT.1 0 (by decide) (by decide) (by decide)]; exact hFS.1
          have t19 : ∀ i, i < p.1 → T.1 19 i = nI (p.2 i) := fun i hi => by rw [hT.1 19 (by decide) (by decide) (by decide)]; exact hFS.2 i hi
          have pl := pcn_le s (by omega)
          refine g_iload7 90 rfl dX12_first_88 ?_
          refine g_iconst 91 rfl (v := 1) dX12_first_90 (by decide) ?_
          refine g_aload0 92 rfl dX12_first_91 ?_
          refine g_getI 95 rfl fX12_275 (by first | rfl | exact st_o hb | exact st_1 hb | exact st_2 hb | exact st_3 hb | exact st_4 hb | exact st_5 hb | exact st_o hb2 | exact st_1 hb2 | exact st_2 hb2 | exact st_3 hb2 | exact st_4 hb2 | exact st_5 hb2) rfl dX12_first_92 ?_
          try simp only [pM_0, t37]
          refine g_ishl 96 rfl dX12_first_95 ?_
          rw [one_shl8 hmb.1]
          refine g_cmpge 199 99 rfl dX12_first_96 (by decide) (fun h => absurd h (nI_ge hs (by omega))) (fun _ => ?_)
          refine g_iload7 101 rfl dX12_first_99 ?_
          refine g_callSi 104 1 rfl kX12_284 dX12_first_101 ⟨rfl, rfl⟩ (om_ones (by omega)) rfl rfl rfl ?_
          refine g_iload1 105 rfl dX12_first_104 ?_
          refine g_cmpne 193 108 rfl dX12_first_105 (by decide) (fun h105 => ?_) (fun h105 => ?_)
          · have e : frN g q (nI yn) f p (s + 1 - 1) = frN g q (nI yn) f p (s - 1) := by
              rcases Nat.eq_zero_or_pos s with rfl | hs0
              · rfl
              · obtain ⟨s', rfl⟩ : ∃ s', s = s' + 1 := ⟨s - 1, by omega⟩
                rw [Nat.add_sub_cancel, Nat.add_sub_cancel, frN, ifC_f (fun z => h105 (by rw [z.1]))]
            rw [e] at ih
            refine g_iinc7 196 rfl dX12_first_193 rfl rfl _ (by first | exact iinc1 _ | exact iincx _ | rfl) ?_
            refine g_goto 88 dX12_first_196 (by decide) ?_
            exact ih T u v hT hu hv
          · have h105 : pcn s = q := (nI_eq (by omega) (by omega)).mp h105
            have hs0 : 0 < s := by
              rcases Nat.eq_zero_or_pos s with rfl | z
              · rw [show pcn 0 = 0 from rfl] at h105; omega
              · exact z
            obtain ⟨s', rfl⟩ : ∃ s', s = s' + 1 := ⟨s - 1, by omega⟩
            rw [Nat.add_sub_cancel] at hv ⊢
            rw [Nat.add_sub_cancel] at ih
            have hsu := SI_E hI.1 hu
            have hBu := HB_E hI.2.1 hu
            have eF : ∀ O, (pM T O).1 19 = T.1 19 := fun O => pM_h19
            refine g_iconst 109 rfl (v := 0) dX12_first_108 (by decide) ?_
            refine g_istore8 111 rfl dX12_first_109 rfl rfl ?_
            refine loop_up (P := fun i => Go GM l mX12_first 111 [.ref 0, .int (nI q), .int (nI yn), .int f, .int w, .int (nI (frN g q (nI yn) f p s').1), .int v, .int (nI (s' + 1)), .int (nI i)] [] (pM T (itN (rpB (s' + 1) p.2) i u)) _) p.1 ?_ ?_ 0 (Nat.zero_le _)
            · refine g_iload8 113 rfl dX12_first_111 ?_
              refine g_aload0 114 rfl dX12_first_113 ?_
              refine g_getI 117 rfl fX12_275 (by first | rfl | exact st_o hb | exact st_1 hb | exact st_2 hb | exact st_3 hb | exact st_4 hb | exact st_5 hb | exact st_o hb2 | exact st_1 hb2 | exact st_2 hb2 | exact st_3 hb2 | exact st_4 hb2 | exact st_5 hb2) rfl dX12_first_114 ?_
              try simp only [pM_0, t37, pM_h19]
              refine g_cmpge 149 120 rfl dX12_first_117 (by decide) (fun _ => ?_) (fun h => absurd (Int32.le_refl _) h)
              have er : sxE (gN g) (itN (rpB (s' + 1) p.2) p.1 u) (itN (rpB (s' + 1) p.2) p.1 (gX g)) := rpN_E hu hmb.2
              have elw : (yrsS (gR g) (gW g) (gK g) f yn (itN (rpB (s' + 1) p.2) p.1 u)).2 = lwS g (nI yn) f p (s' + 1) := by
                rw [lwS, ecy]
                exact (yrsS_E er).2
              obtain ⟨jj, hjj, ejj⟩ := hnn (s' + 1)
              refine g_aload0 150 rfl dX12_first_149 ?_
              refine g_iload2 151 rfl dX12_first_150 ?_
              refine g_iload3 152 rfl dX12_first_151 ?_
              refine g_callV 155 2 rfl kX12_263 (by first | rfl | exact st_o hb | exact st_1 hb | exact st_2 hb | exact st_3 hb | exact st_4 hb | exact st_5 hb | exact st_o hb2 | exact st_1 hb2 | exact st_2 hb2 | exact st_3 hb2 | exact st_4 hb2 | exact st_5 hb2) dX12_first_152 ⟨rfl, rfl⟩ (om_goYears (show Mod T (gR g) (gW g) from hrT.m) (show CrM T (gK g) from hrT.k) (SI_rp hsu _) (HB_rp hBu _) (by omega) (by omega)) rfl rfl rfl (fun r M1 hq => ?_)
              obtain ⟨rfl, T2, rfl, hT2⟩ := hq
              try simp only [rV, Option.toList, List.cons_append, List.nil_append]
              rw [elw]
              have hT3 : FrM S T2 := hT.tr hT2
              have hS2 : Sv T2 x 30 := Sv_fr hf1 (hT3.1 11 (by decide) (by decide) (by decide))
              have h212 : T2.2 0 21 = (sD x).toInt64 := by rw [hT3.2]; exact h21
              have hlt2 : lwS g (nI yn) f p (s' + 1) < (frN g q (nI yn) f p s').2 ↔ ¬ v ≤ lwS g (nI yn) f p (s' + 1) := by
                rw [Int32.not_le]
                rcases hv with ⟨rfl, e⟩ | ⟨rfl, _⟩
                · rw [e, ejj, Int32.lt_iff_toInt_lt, Int32.lt_iff_toInt_lt, nI_toInt (by omega), n1, n2]
                  omega
                · exact Iff.rfl
              refine g_istore8 157 rfl dX12_first_155 rfl rfl ?_
              refine g_iload8 159 rfl dX12_first_157 ?_
              refine g_iload6 161 rfl dX12_first_159 ?_
              refine g_cmpge 169 164 rfl dX12_first_161 (by decide) (fun h161 => ?_) (fun h161 => ?_)
              · have e : frN g q (nI yn) f p (s' + 1) = frN g q (nI yn) f p s' := by rw [frN, ifC_f (fun z => hlt2.mp z.2 h161)]
                rw [e] at ih
                refine g_iload5 171 rfl dX12_first_169 ?_
                refine g_istore5 173 rfl dX12_first_171 rfl rfl ?_
                refine g_iload8 175 rfl dX12_first_173 ?_
                refine g_iload6 177 rfl dX12_first_175 ?_
                refine g_cmpge 185 180 rfl dX12_first_177 (by decide) (fun _ => ?_) (fun z => absurd h161 z)
                refine g_iload6 187 rfl dX12_first_185 ?_
                refine g_istore6 189 rfl dX12_first_187 rfl rfl ?_
                refine g_aload0 190 rfl dX12_first_189 ?_
                refine g_callV 193 0 rfl kX12_193 (by first | rfl | exact st_o hb | exact st_1 hb | exact st_2 hb | exact st_3 hb | exact st_4 hb | exact st_5 hb | exact st_o hb2 | exact st_1 hb2 | exact st_2 hb2 | exact st_3 hb2 | exact st_4 hb2 | exact st_5 hb2) dX12_first_190 ⟨rfl, rfl⟩ (om_back hS2 h212) rfl rfl rfl (fun r M1 hq => ?_)
                obtain ⟨rfl, u2, rfl, hu2⟩ := hq
                try simp only [rV, Option.toList, List.cons_append, List.nil_append]
                refine g_iinc7 196 rfl dX12_first_193 rfl rfl _ (by first | exact iinc1 _ | exact iincx _ | rfl) ?_
                refine g_goto 88 dX12_first_196 (by decide) ?_
                refine g_fg 8 ?_
                exact ih T2 u2 v hT3 ((hu2.le h30).tr hx) hv
              · have e : frN g q (nI yn) f p (s' + 1) = (s' + 1, lwS g (nI yn) f p (s' + 1)) := by rw [frN, ifC_t ⟨h105, hlt2.mpr h161⟩]
                rw [e] at ih
                refine g_iload7 166 rfl dX12_first_164 ?_
                refine g_goto 171 dX12_first_166 (by decide) ?_
                refine g_istore5 173 rfl dX12_first_171 rfl rfl ?_
                refine g_iload8 175 rfl dX12_first_173 ?_
                refine g_iload6 177 rfl dX12_first_175 ?_
                refine g_cmpge 185 180 rfl dX12_first_177 (by decide) (fun z => absurd z h161) (fun _ => ?_)
                refine g_iload8 182 rfl dX12_first_180 ?_
                refine g_goto 187 dX12_first_182 (by decide) ?_
                refine g_istore6 189 rfl dX12_first_187 rfl rfl ?_
                refine g_aload0 190 rfl dX12_first_189 ?_
                refine g_callV 193 0 rfl kX12_193 (by first | rfl | exact st_o hb | exact st_1 hb | exact st_2 hb | exact st_3 hb | exact st_4 hb | exact st_5 hb | exact st_o hb2 | exact st_1 hb2 | exact st_2 hb2 | exact st_3 hb2 | exact st_4 hb2 | exact st_5 hb2) dX12_first_190 ⟨rfl, rfl⟩ (om_back hS2 h212) rfl rfl rfl (fun r M1 hq => ?_)
                obtain ⟨rfl, u2, rfl, hu2⟩ := hq
                try simp only [rV, Option.toList, List.cons_append, List.nil_append]
                refine g_iinc7 196 rfl dX12_first_193 rfl rfl _ (by first | exact iinc1 _ | exact iincx _ | rfl) ?_
                refine g_goto 88 dX12_first_196 (by decide) ?_
                refine g_fg 8 ?_
                exact ih T2 u2 _ hT3 ((hu2.le h30).tr hx) (Or.inr ⟨rfl, by rw [ejj, nI_toInt (by omega)]; omega⟩)
            · intro i hi ih2
              simp only [it4] at ih2
              rw [rpB] at ih2
              have hpi := hmb.2 i hi
              refine g_iload8 113 rfl dX12_first_111 ?_
              refine g_aload0 114 rfl dX12_first_113 ?_
              refine g_getI 117 rfl fX12_275 (by first | rfl | exact st_o hb | exact st_1 hb | exact st_2 hb | exact st_3 hb | exact st_4 hb | exact st_5 hb | exact st_o hb2 | exact st_1 hb2 | exact st_2 hb2 | exact st_3 hb2 | exact st_4 hb2 | exact st_5 hb2) rfl dX12_first_114 ?_
              try simp only [pM_0, t37, pM_h19]
              refine g_cmpge 149 120 rfl dX12_first_117 (by decide) (fun h => absurd h (nI_ge hi (by omega))) (fun _ => ?_)
              refine g_iload7 122 rfl dX12_first_120 ?_
              refine g_iload8 124 rfl dX12_first_122 ?_
              refine g_ishr 125 rfl dX12_first_124 ?_
              refine g_iconst 126 rfl (v := 1) dX12_first_125 (by decide) ?_
              refine g_iand 127 rfl dX12_first_126 ?_
              refine g_iconst 128 rfl (v := 1) dX12_first_127 (by decide) ?_
              rw [bit_i (s' + 1) (by omega) i (by omega)]
              have h2 : (s' + 1) / 2 ^ i % 2 < 2 := Nat.mod_lt _ (by decide)
              refine g_cmpne 143 131 rfl dX12_first_128 (by decide) (fun h128 => ?_) (fun h128 => ?_)
              · rw [if_neg (fun z => h128 (by rw [z]; rfl))] at ih2
                refine g_iinc8 146 rfl dX12_first_143 rfl rfl _ (by first | exact iinc1 _ | exact iincx _ | rfl) ?_
                refine g_goto 111 dX12_first_146 (by decide) ?_
                exact ih2
              · rw [if_pos ((nI_eq (b := 1) (by omega) (by decide)).mp h128)] at ih2
                refine g_aload0 132 rfl dX12_first_131 ?_
                refine g_aload0 133 rfl dX12_first_132 ?_
                refine g_getR 136 rfl fX12_69 (by first | rfl | exact st_o hb | exact st_1 hb | exact st_2 hb | exact st_3 hb | exact st_4 hb | exact st_5 hb | exact st_o hb2 | exact st_1 hb2 | exact st_2 hb2 | exact st_3 hb2 | exact st_4 hb2 | exact st_5 hb2) rfl dX12_first_133 ?_
                refine g_iload8 138 rfl dX12_first_136 ?_
                refine g_iald 139 rfl dX12_first_138 (by first | rfl | exact st_o hb | exact st_1 hb | exact st_2 hb | exact st_3 hb | exact st_4 hb | exact st_5 hb | exact st_o hb2 | exact st_1 hb2 | exact st_2 hb2 | exact st_3 hb2 | exact st_4 hb2 | exact st_5 hb2) rfl rfl (by first | assumption | omega) ?_
                try simp only [pM_0, t37, pM_h19]
                rw [t19 i hi]
                refine g_iconst 140 rfl (v := 5) dX12_first_139 (by decide) ?_
                refine g_callVv 143 2 rfl kX12_272 (by first | rfl | exact st_o hb | exact st_1 hb | exact st_2 hb | exact st_3 hb | exact st_4 hb | exact st_5 hb | exact st_o hb2 | exact st_1 hb2 | exact st_2 hb2 | exact st_3 hb2 | exact st_4 hb2 | exact st_5 hb2) dX12_first_140 ⟨rfl, rfl⟩ (om_goMend (by omega)) rfl rfl rfl ?_
                refine g_iinc8 146 rfl dX12_first_143 rfl rfl _ (by first | exact iinc1 _ | exact iincx _ | rfl) ?_
                refine g_goto 111 dX12_first_146 (by decide) ?_
                exact ih2
      exact key 0 (Nat.zero_le _) S x _ FrM.rf hx (Or.inl ⟨rfl, rfl⟩)
    refine g_iload1 11 rfl dX12_first_10 ?_
    refine g_iconst 12 rfl (v := 1) dX12_first_11 (by decide) ?_
    refine g_iconst 13 rfl (v := 4) dX12_first_12 (by decide) ?_
    refine g_callS 16 3 rfl kX12_78 dX12_first_13 ⟨rfl, rfl⟩ om_within rfl rfl rfl (fun r M1 hq => ?_)
    obtain ⟨rfl, ⟨rfl, h1⟩ | ⟨rfl, h1⟩⟩ := hq
    try simp only [rV, Option.toList, List.cons_append, List.nil_append]
    · refine g_ifeq 37 19 rfl dX12_first_16 (by decide) (fun h => absurd h (by decide)) (fun _ => ?_)
      refine g_iload2 20 rfl dX12_first_19 ?_
      refine g_iload3 21 rfl dX12_first_20 ?_
      refine g_callS 24 2 rfl kX12_259 dX12_first_21 ⟨rfl, rfl⟩ om_areYears rfl rfl rfl (fun r M1 hq => ?_)
      obtain ⟨rfl, ⟨rfl, h2⟩ | ⟨rfl, h2⟩⟩ := hq
      try simp only [rV, Option.toList, List.cons_append, List.nil_append]
      · refine g_ifeq 37 27 rfl dX12_first_24 (by decide) (fun h => absurd h (by decide)) (fun _ => ?_)
        refine g_iload4 29 rfl dX12_first_27 ?_
        refine g_iconst 30 rfl (v := 0) dX12_first_29 (by decide) ?_
        refine g_iconst 31 rfl (v := 1) dX12_first_30 (by decide) ?_
        refine g_callS 34 3 rfl kX12_78 dX12_first_31 ⟨rfl, rfl⟩ om_within rfl rfl rfl (fun r M1 hq => ?_)
        obtain ⟨rfl, ⟨rfl, h3⟩ | ⟨rfl, h3⟩⟩ := hq
        try simp only [rV, Option.toList, List.cons_append, List.nil_append]
        · refine g_ifne 40 37 rfl dX12_first_34 (by decide) (fun _ => ?_) (fun h => absurd h (by decide))
          exact good ⟨h1, h2, h3⟩
        · refine g_ifne 40 37 rfl dX12_first_34 (by decide) (fun h => absurd rfl h) (fun _ => ?_)
          exact bad (fun z => h3 z.2.2)
      · refine g_ifeq 37 27 rfl dX12_first_24 (by decide) (fun _ => ?_) (fun h => absurd rfl h)
        exact bad (fun z => h2 z.2.1)
    · refine g_ifeq 37 19 rfl dX12_first_16 (by decide) (fun _ => ?_) (fun h => absurd rfl h)
      exact bad (fun z => h1 z.1)
  · refine g_ifne 10 7 rfl dX12_first_4 (by decide) (fun h => absurd rfl h) (fun _ => ?_)
    refine g_bipush 9 rfl (v := (-103)) dX12_first_7 (by decide) ?_
    refine g_iret rfl dX12_first_9 ?_
    rw [fFirst, ifC_f hq]
    exact ⟨rfl, N, x, rfl, hx, hr⟩
