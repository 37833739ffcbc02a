/-! the reference's water -/
theorem om_isRim {l : Launch} {M : Mm} {R W c : Nat} (hm : Mod M R W) (hc : c < R * W) : Ok GM l mX12_isRim [.ref 0, .int (nI c)] M (qB M (rim R W c)) := by
  have h30 := hm.le
  have hb := hm.b
  have e0 := hm.2.1
  have e1 := hm.2.2
  have hW : 0 < W := by
    rcases Nat.eq_zero_or_pos W with h0 | h0
    · subst h0; simp at hc
    · exact h0
  have hR : 0 < R := by
    rcases Nat.eq_zero_or_pos R with h0 | h0
    · subst h0; simp at hc
    · exact h0
  have hd : nI c / nI W = nI (c / W) := pk_div (by omega) hW (by omega)
  have hr : nI c - nI c / nI W * nI W = nI (c % W) := pk_rem (by omega) hW (by omega)
  have hcW : c / W < R := Nat.div_lt_of_lt_mul (by rw [Nat.mul_comm]; exact hc)
  have hmW : c % W < W := Nat.mod_lt _ hW
  have hdm : c / W * W + c % W = c := by rw [Nat.mul_comm]; exact Nat.div_add_mod c W
  have hnW : ¬ nI W = 0 := nI_ne0 hW (by omega)
  have iR : nI R - 1 = nI (R - 1) := by rw [show (1 : Int32) = nI 1 from rfl, pk_sub (by omega)]
  have iW : nI W - 1 = nI (W - 1) := by rw [show (1 : Int32) = nI 1 from rfl, pk_sub (by omega)]
  have q1 : c / W = 0 → rim R W c := fun z => Or.inl (by rw [z] at hdm; omega)
  have q2 : c / W = R - 1 → rim R W c := fun z => Or.inr (Or.inl (by
    have : (c / W + 1) * W = R * W := by rw [z, Nat.sub_add_cancel hR]
    rw [Nat.add_mul, Nat.one_mul] at this
    omega))
  have q3 : c % W = 0 → rim R W c := fun z => Or.inr (Or.inr (Or.inl z))
  have q4 : c % W = W - 1 → rim R W c := fun z => Or.inr (Or.inr (Or.inr (by omega)))
  have q5 : ¬ c / W = 0 → ¬ c / W = R - 1 → ¬ c % W = 0 → ¬ c % W = W - 1 → ¬ rim R W c := fun a1 a2 a3 a4 z => by
    rcases z with z | z | z | z
    · exact a1 (Nat.div_eq_of_lt z)
    · have : (c / W + 2) * W ≤ R * W := Nat.mul_le_mul_right W (by omega)
      rw [Nat.add_mul] at this
      omega
    · exact a3 z
    · omega
  have hl30 : c / W < 31 ∧ c % W < 31 := by omega
  refine ok_of (by decide +kernel) rfl rfl ?_
  refine g_iload1 1 rfl dX12_isRim_0 ?_
  refine g_aload0 2 rfl dX12_isRim_1 ?_
  refine g_getI 5 rfl fX12_128 (by first | rfl | exact st_o hb | exact st_1 hb | exact st_2 hb | exact st_3 hb | exact st_4 hb | exact st_5 hb | exact st_o hb2 | exact st_1 hb2 | exact st_2 hb2 | exact st_3 hb2 | exact st_4 hb2 | exact st_5 hb2) rfl dX12_isRim_2 ?_
  try simp only [e0, e1]
  refine g_idiv 6 rfl dX12_isRim_5 hnW ?_
  rw [hd]
  refine g_istore2 7 rfl dX12_isRim_6 rfl rfl ?_
  refine g_iload1 8 rfl dX12_isRim_7 ?_
  refine g_aload0 9 rfl dX12_isRim_8 ?_
  refine g_getI 12 rfl fX12_128 (by first | rfl | exact st_o hb | exact st_1 hb | exact st_2 hb | exact st_3 hb | exact st_4 hb | exact st_5 hb | exact st_o hb2 | exact st_1 hb2 | exact st_2 hb2 | exact st_3 hb2 | exact st_4 hb2 | exact st_5 hb2) rfl dX12_isRim_9 ?_
  try simp only [e0, e1]
  refine g_irem 13 rfl dX12_isRim_12 hnW ?_
  rw [hr]
  refine g_istore3 14 rfl dX12_isRim_13 rfl rfl ?_
  refine g_iload2 15 rfl dX12_isRim_14 ?_
  refine g_ifeq 42 18 rfl dX12_isRim_15 (by decide) (fun h15 => ?_) (fun h15 => ?_)
  · refine g_iconst 43 rfl (v := 1) dX12_isRim_42 (by decide) ?_
    refine g_goto 47 dX12_isRim_43 (by decide) ?_
    refine g_zret rfl dX12_isRim_47 (by first | exact Or.inl rfl | exact Or.inr rfl | assumption) ?_
    refine ⟨rfl, ?_⟩
    first | exact Or.inl ⟨rfl, q1 ((nI_eq (by omega) (by decide)).mp h15)⟩ | exact Or.inl ⟨rfl, q2 ((nI_eq (by omega) (by omega)).mp (by rw [← iR]; exact h25))⟩ | exact Or.inl ⟨rfl, q3 ((nI_eq (by omega) (by decide)).mp h29)⟩ | exact Or.inl ⟨rfl, q4 ((nI_eq (by omega) (by omega)).mp (by rw [← iW]; exact h39))⟩ | exact Or.inr ⟨rfl, q5 (fun z => h15 (by rw [z]; rfl)) (fun z => h25 (by rw [z, iR])) (fun z => h29 (by rw [z]; rfl)) (fun z => h39 (by rw [z, iW]))⟩
  · refine g_iload2 19 rfl dX12_isRim_18 ?_
    refine g_aload0 20 rfl dX12_isRim_19 ?_
    refine g_getI 23 rfl fX12_125 (by first | rfl | exact st_o hb | exact st_1 hb | exact st_2 hb | exact st_3 hb | exact st_4 hb | exact st_5 hb | exact st_o hb2 | exact st_1 hb2 | exact st_2 hb2 | exact st_3 hb2 | exact st_4 hb2 | exact st_5 hb2) rfl dX12_isRim_20 ?_
    try simp only [e0, e1, iR, iW]
    refine g_iconst 24 rfl (v := 1) dX12_isRim_23 (by decide) ?_
    refine g_isub 25 rfl dX12_isRim_24 ?_
    refine g_cmpeq 42 28 rfl dX12_isRim_25 (by decide) (fun h25 => ?_) (fun h25 => ?_)
    · refine g_iconst 43 rfl (v := 1) dX12_isRim_42 (by decide) ?_
      refine g_goto 47 dX12_isRim_43 (by decide) ?_
      refine g_zret rfl dX12_isRim_47 (by first | exact Or.inl rfl | exact Or.inr rfl | assumption) ?_
      refine ⟨rfl, ?_⟩
      first | exact Or.inl ⟨rfl, q1 ((nI_eq (by omega) (by decide)).mp h15)⟩ | exact Or.inl ⟨rfl, q2 ((nI_eq (by omega) (by omega)).mp (by rw [← iR]; exact h25))⟩ | exact Or.inl ⟨rfl, q3 ((nI_eq (by omega) (by decide)).mp h29)⟩ | exact Or.inl ⟨rfl, q4 ((nI_eq (by omega) (by omega)).mp (by rw [← iW]; exact h39))⟩ | exact Or.inr ⟨rfl, q5 (fun z => h15 (by rw [z]; rfl)) (fun z => h25 (by rw [z, iR])) (fun z => h29 (by rw [z]; rfl)) (fun z => h39 (by rw [z, iW]))⟩
    · refine g_iload3 29 rfl dX12_isRim_28 ?_
      refine g_ifeq 42 32 rfl dX12_isRim_29 (by decide) (fun h29 => ?_) (fun h29 => ?_)
      · refine g_iconst 43 rfl (v := 1) dX12_isRim_42 (by decide) ?_
        refine g_goto 47 dX12_isRim_43 (by decide) ?_
        refine g_zret rfl dX12_isRim_47 (by first | exact Or.inl rfl | exact Or.inr rfl | assumption) ?_
        refine ⟨rfl, ?_⟩
        first | exact Or.inl ⟨rfl, q1 ((nI_eq (by omega) (by decide)).mp h15)⟩ | exact Or.inl ⟨rfl, q2 ((nI_eq (by omega) (by omega)).mp (by rw [← iR]; exact h25))⟩ | exact Or.inl ⟨rfl, q3 ((nI_eq (by omega) (by decide)).mp h29)⟩ | exact Or.inl ⟨rfl, q4 ((nI_eq (by omega) (by omega)).mp (by rw [← iW]; exact h39))⟩ | exact Or.inr ⟨rfl, q5 (fun z => h15 (by rw [z]; rfl)) (fun z => h25 (by rw [z, iR])) (fun z => h29 (by rw [z]; rfl)) (fun z => h39 (by rw [z, iW]))⟩
      · refine g_iload3 33 rfl dX12_isRim_32 ?_
        refine g_aload0 34 rfl dX12_isRim_33 ?_
        refine g_getI 37 rfl fX12_128 (by first | rfl | exact st_o hb | exact st_1 hb | exact st_2 hb | exact st_3 hb | exact st_4 hb | exact st_5 hb | exact st_o hb2 | exact st_1 hb2 | exact st_2 hb2 | exact st_3 hb2 | exact st_4 hb2 | exact st_5 hb2) rfl dX12_isRim_34 ?_
        try simp only [e0, e1, iR, iW]
        refine g_iconst 38 rfl (v := 1) dX12_isRim_37 (by decide) ?_
        refine g_isub 39 rfl dX12_isRim_38 ?_
        refine g_cmpne 46 42 rfl dX12_isRim_39 (by decide) (fun h39 => ?_) (fun h39 => ?_)
        · refine g_iconst 47 rfl (v := 0) dX12_isRim_46 (by decide) ?_
          refine g_zret rfl dX12_isRim_47 (by first | exact Or.inl rfl | exact Or.inr rfl | assumption) ?_
          refine ⟨rfl, ?_⟩
          first | exact Or.inl ⟨rfl, q1 ((nI_eq (by omega) (by decide)).mp h15)⟩ | exact Or.inl ⟨rfl, q2 ((nI_eq (by omega) (by omega)).mp (by rw [← iR]; exact h25))⟩ | exact Or.inl ⟨rfl, q3 ((nI_eq (by omega) (by decide)).mp h29)⟩ | exact Or.inl ⟨rfl, q4 ((nI_eq (by omega) (by omega)).mp (by rw [← iW]; exact h39))⟩ | exact Or.inr ⟨rfl, q5 (fun z => h15 (by rw [z]; rfl)) (fun z => h25 (by rw [z, iR])) (fun z => h29 (by rw [z]; rfl)) (fun z => h39 (by rw [z, iW]))⟩
        · refine g_iconst 43 rfl (v := 1) dX12_isRim_42 (by decide) ?_
          refine g_goto 47 dX12_isRim_43 (by decide) ?_
          refine g_zret rfl dX12_isRim_47 (by first | exact Or.inl rfl | exact Or.inr rfl | assumption) ?_
          refine ⟨rfl, ?_⟩
          first | exact Or.inl ⟨rfl, q1 ((nI_eq (by omega) (by decide)).mp h15)⟩ | exact Or.inl ⟨rfl, q2 ((nI_eq (by omega) (by omega)).mp (by rw [← iR]; exact h25))⟩ | exact Or.inl ⟨rfl, q3 ((nI_eq (by omega) (by decide)).mp h29)⟩ | exact Or.inl ⟨rfl, q4 ((nI_eq (by omega) (by omega)).mp (by rw [← iW]; exact h39))⟩ | exact Or.inr ⟨rfl, q5 (fun z => h15 (by rw [z]; rfl)) (fun z => h25 (by rw [z, iR])) (fun z => h29 (by rw [z]; rfl)) (fun z => h39 (by rw [z, iW]))⟩
def fm (v : Int32) : Int32 := if v.toInt = 2147483647 then 268435456 else v
def bgI (v : Int32) : Prop := v.toInt = 2147483647 ∨ v.toInt < 268435456
theorem fm_lt {a b : Int32} (ha : bgI a) (hb : bgI b) : fm a < fm b ↔ a < b := by
  have e3 : (268435456 : Int32).toInt = 268435456 := by decide
  unfold fm bgI at *
  split <;> split <;> simp only [Int32.lt_iff_toInt_lt, e3] <;> omega
theorem fm_le {a : Int32} (ha : bgI a) : fm a ≤ 268435456 := by
  have e3 : (268435456 : Int32).toInt = 268435456 := by decide
  unfold fm bgI at *
  split <;> simp only [Int32.le_iff_toInt_le, e3] <;> omega
def wmx (h a : Int32) : Int32 := if a ≤ h then h else a
def vmx (h b : Int32) : Int32 := if h < b then b else h
def vmn (a b : Int32) : Int32 := if a < b then a else b
theorem side_k {h a b : Int32} (hh : h.toInt < 268435456) (ha : bgI a) (hb : bgI b) : (fm (vmx h b) ≤ wmx h (fm a) → vmx h (vmn a b) = vmx h b) ∧ (¬ fm (vmx h b) ≤ wmx h (fm a) → fm (vmx h (vmn a b)) = wmx h (fm a) ∧ vmx h (vmn a b) < vmx h b) := by
  have e3 : (268435456 : Int32).toInt = 268435456 := by decide
  unfold fm bgI vmx vmn wmx at *
  simp only [Int32.lt_iff_toInt_lt, Int32.le_iff_toInt_le]
  repeat' split
  all_goals (simp only [e3] at *)
  all_goals (refine ⟨fun z => ?_, fun z => ?_⟩)
  all_goals (first | omega | (refine ⟨?_, ?_⟩) | skip)
  all_goals (first | omega | rfl | exact Int32.toInt_inj.mp (by omega) | exact Int32.toInt_inj.mp (by rw [e3]; omega) | (exfalso; omega))
theorem nb_ne {R W c s k : Nat} (hW : 0 < W) (h : nb R W c s = some k) : k ≠ c := by
  intro z
  subst z
  match s, h with
  | 0, h => simp only [nb] at h; split at h; · cases h
            · have := Option.some.inj h; omega
  | 1, h => simp only [nb] at h; split at h; · cases h
            · have := Option.some.inj h; omega
  | 2, h => simp only [nb] at h; split at h
            · have := Option.some.inj h; omega
            · cases h
  | s + 3, h =>
    simp only [nb] at h
    split at h
    · cases h
    · rename_i q
      have := Option.some.inj h
      have : k = 0 := by omega
      subst this
      exact q (Nat.zero_mod _)
theorem vmx_same {h a : Int32} (hh : h ≤ a) : vmx h a = a := by
  unfold vmx
  split
  · rfl
  · rename_i q; exact Int32.le_antisymm hh (Int32.not_lt.mp q)
/-- one cell: water seeks its way past the four sides -/
theorem wat_cell {l : Launch} {M : Mm} {R W c : Nat} {x : Sx} {K L : Nat → Int32} {fl : Int32} {Q : Rr → Mm → Prop} (hm : Mod M R W) (hc : c < R * W) (hH : ∀ c, c < R * W → (sH x c).toInt < 268435456) (hL : LvI R W (sH x) L) (hK : ∀ d, d < R * W → K d = fm (L d))
    (k : ∀ fl' K', fl' = (swpB R W (sH x) c (fl, L)).1 → (∀ d, d < R * W → K' d = fm ((swpB R W (sH x) c (fl, L)).2 d)) → Go GM l mX12_layWater 51 [.ref 0, .int fl', .int (nI (c + 1)), .null, .null, .null] [] (pM (setA M 17 K') x) Q) :
    Go GM l mX12_layWater 59 [.ref 0, .int fl, .int (nI c), .null, .null, .null] [] (pM (setA M 17 K) x) Q := by
  have h30 := hm.le
  have hm2 : ∀ B, Mod (pM (setA M 17 B) x) R W := fun B => pM_mod (mod_sA hm (by decide))
  have w17 : ∀ f e, setA (pM (setA M 17 f) x) 17 e = pM (setA M 17 e) x := fun f e => by rw [pM_wo (Or.inr (by decide)), sA_sA]
  have r17 : ∀ f, (pM (setA M 17 f) x).1 17 = f := fun f => by rw [pM_o (Or.inr (by decide)), sA_s]
  have hW : 0 < W := by
    rcases Nat.eq_zero_or_pos W with h0 | h0
    · subst h0; simp at hc
    · exact h0
  have e5 : (2147483647 : Int32).toInt = 2147483647 := by decide
  have bg : ∀ d, d < R * W → bgI (L d) := fun d hd => (hL d hd).2.2.imp (fun z => by rw [z]; exact e5) id
  have bgl : ∀ s, bgI (lowS L R W c s) := fun s => (lowS_big hc (fun c hc => (hL c hc).2.2) s).imp (fun z => by rw [z]; exact e5) id
  have hh := hH c hc
  have bgv : ∀ s, bgI (vmx (sH x c) (lowS L R W c s)) := fun s => by
    unfold vmx
    split
    · exact bgl s
    · exact Or.inr hh
  have v0 : vmx (sH x c) (lowS L R W c 0) = L c := vmx_same (hL c hc).1
  have vle : ∀ s, vmx (sH x c) (lowS L R W c s) ≤ L c := fun s => by
    unfold vmx; rw [max_t]; exact ⟨(hL c hc).1, lowS_le s⟩
  have eKc := hK c hc
  refine g_iconst 60 rfl (v := 0) dX12_layWater_59 (by decide) ?_
  refine g_istore3 61 rfl dX12_layWater_60 rfl rfl ?_
  refine g_mem (pM (setA M 17 (upd K c (fm (vmx (sH x c) (lowS L R W c 0))))) x) (by rw [v0, ← eKc, upd_sm]) ?_
  have f0 : fl = (if fm (vmx (sH x c) (lowS L R W c 0)) < fm (L c) then 1 else fl) := by rw [v0, if_neg (fun z => Int32.lt_irrefl z)]
  refine loop_up (P := fun s => Go GM l mX12_layWater 61 [.ref 0, .int (if fm (vmx (sH x c) (lowS L R W c s)) < fm (L c) then 1 else fl), .int (nI c), .int (nI s), .null, .null] [] (pM (setA M 17 (upd K c (fm (vmx (sH x c) (lowS L R W c s))))) x) Q) 4 ?_ ?_ 0 (by omega) |> (fun z => by rw [← f0] at z; exact z)
  · refine g_iload3 62 rfl dX12_layWater_61 ?_
    refine g_iconst 63 rfl (v := 4) dX12_layWater_62 (by decide) ?_
    refine g_cmpge 146 66 rfl dX12_layWater_63 (by decide) (fun _ => ?_) (fun h => absurd (by decide) h)
    refine g_iinc2 149 rfl dX12_layWater_146 rfl rfl _ (by first | exact iinc1 _ | exact iincx _ | rfl) ?_
    refine g_goto 51 dX12_layWater_149 (by decide) ?_
    refine g_fg 3 ?_
    refine k _ _ ?_ ?_
    · unfold swpB
      by_cases hr : rim R W c
      · rw [if_pos hr]
        have : vmx (sH x c) (lowS L R W c 4) = L c := by
          refine Int32.le_antisymm (vle 4) ?_
          rw [(hL c hc).2.1 hr]
          exact falV_ge (R := R) (W := W) (H := sH x) (L := L)
        rw [this, if_neg (fun z => Int32.lt_irrefl z)]
      · rw [if_neg hr]
        dsimp only
        by_cases q : falV (sH x) L R W c < L c
        · rw [if_pos q, if_pos ((fm_lt (bgv 4) (bg c hc)).mpr q)]
        · rw [if_neg q, if_neg (fun z => q ((fm_lt (bgv 4) (bg c hc)).mp z))]
    · intro d hd
      unfold swpB
      by_cases hr : rim R W c
      · rw [if_pos hr]
        have : vmx (sH x c) (lowS L R W c 4) = L c := by
          refine Int32.le_antisymm (vle 4) ?_
          rw [(hL c hc).2.1 hr]
          exact falV_ge (R := R) (W := W) (H := sH x) (L := L)
        rw [this, ← eKc, upd_sm]
        exact hK d hd
      · rw [if_neg hr]
        dsimp only
        by_cases hdc : d = c
        · subst hdc; rw [upd_at, upd_at]; rfl
        · rw [pk_un hdc, pk_un hdc]; exact hK d hd
  · intro s hs ih
    refine g_iload3 62 rfl dX12_layWater_61 ?_
    refine g_iconst 63 rfl (v := 4) dX12_layWater_62 (by decide) ?_
    refine g_cmpge 146 66 rfl dX12_layWater_63 (by decide) (fun h => absurd h (nI_ge hs (by decide))) (fun _ => ?_)
    refine g_aload0 67 rfl dX12_layWater_66 ?_
    refine g_iload2 68 rfl dX12_layWater_67 ?_
    refine g_iload3 69 rfl dX12_layWater_68 ?_
    refine g_callVi 72 2 rfl kX12_147 (by first | rfl | exact st_o hb | exact st_1 hb | exact st_2 hb | exact st_3 hb | exact st_4 hb | exact st_5 hb | exact st_o hb2 | exact st_1 hb2 | exact st_2 hb2 | exact st_3 hb2 | exact st_4 hb2 | exact st_5 hb2) dX12_layWater_69 ⟨rfl, rfl⟩ (om_beside (hm2 _) hc hs) rfl rfl rfl ?_
    refine g_istore4 74 rfl dX12_layWater_72 rfl rfl ?_
    refine g_iload4 76 rfl dX12_layWater_74 ?_
    refine g_iconst 77 rfl (v := (-1)) dX12_layWater_76 (by decide) ?_
    cases hk : nb R W c s with
    | none =>
      simp only [lowS, hk] at ih
      refine g_cmpne 85 80 rfl dX12_layWater_77 (by decide) (fun h => absurd rfl h) (fun _ => ?_)
      refine g_ldc 82 rfl dX12_layWater_80 cX12_196 ?_
      refine g_goto 117 dX12_layWater_82 (by decide) ?_
      refine g_istore5 119 rfl dX12_layWater_117 rfl rfl ?_
      refine g_iload5 121 rfl dX12_layWater_119 ?_
      refine g_aload0 122 rfl dX12_layWater_121 ?_
      refine g_getR 125 rfl fX12_63 (by first | rfl | exact st_o hb | exact st_1 hb | exact st_2 hb | exact st_3 hb | exact st_4 hb | exact st_5 hb | exact st_o hb2 | exact st_1 hb2 | exact st_2 hb2 | exact st_3 hb2 | exact st_4 hb2 | exact st_5 hb2) rfl dX12_layWater_122 ?_
      refine g_iload2 126 rfl dX12_layWater_125 ?_
      refine g_iald 127 rfl dX12_layWater_126 (by first | rfl | exact st_o hb | exact st_1 hb | exact st_2 hb | exact st_3 hb | exact st_4 hb | exact st_5 hb | exact st_o hb2 | exact st_1 hb2 | exact st_2 hb2 | exact st_3 hb2 | exact st_4 hb2 | exact st_5 hb2) rfl rfl (by first | assumption | omega) ?_
      try simp only [pM_3, r17, w17]
      rw [upd_at]
      refine g_cmpge 140 130 rfl dX12_layWater_127 (by decide) (fun _ => ?_) (fun z => absurd (fm_le (bgv s)) z)
      refine g_iinc3 143 rfl dX12_layWater_140 rfl rfl _ (by first | exact iinc1 _ | exact iincx _ | rfl) ?_
      refine g_goto 61 dX12_layWater_143 (by decide) ?_
      refine g_fg 4 ?_
      refine g_fg 5 ?_
      exact ih
    | some j =>
      have hj := nb_lt hc hk
      have hne := nb_ne hW hk
      obtain ⟨s1, s2⟩ := side_k hh (bg j hj) (bgl s)
      have el : lowS L R W c (s + 1) = vmn (L j) (lowS L R W c s) := by rw [lowS, hk]; rfl
      rw [el] at ih
      refine g_cmpne 85 80 rfl dX12_layWater_77 (by decide) (fun _ => ?_) (fun h => absurd h (nI_ne_m1 (by omega)))
      refine g_aload0 86 rfl dX12_layWater_85 ?_
      refine g_getR 89 rfl fX12_63 (by first | rfl | exact st_o hb | exact st_1 hb | exact st_2 hb | exact st_3 hb | exact st_4 hb | exact st_5 hb | exact st_o hb2 | exact st_1 hb2 | exact st_2 hb2 | exact st_3 hb2 | exact st_4 hb2 | exact st_5 hb2) rfl dX12_layWater_86 ?_
      refine g_iload4 91 rfl dX12_layWater_89 ?_
      refine g_iald 92 rfl dX12_layWater_91 (by first | rfl | exact st_o hb | exact st_1 hb | exact st_2 hb | exact st_3 hb | exact st_4 hb | exact st_5 hb | exact st_o hb2 | exact st_1 hb2 | exact st_2 hb2 | exact st_3 hb2 | exact st_4 hb2 | exact st_5 hb2) rfl rfl (by first | assumption | omega) ?_
      try simp only [pM_3, r17, w17]
      refine g_aload0 93 rfl dX12_layWater_92 ?_
      refine g_getR 96 rfl fX12_16 (by first | rfl | exact st_o hb | exact st_1 hb | exact st_2 hb | exact st_3 hb | exact st_4 hb | exact st_5 hb | exact st_o hb2 | exact st_1 hb2 | exact st_2 hb2 | exact st_3 hb2 | exact st_4 hb2 | exact st_5 hb2) rfl dX12_layWater_93 ?_
      refine g_iload2 97 rfl dX12_layWater_96 ?_
      refine g_iald 98 rfl dX12_layWater_97 (by first | rfl | exact st_o hb | exact st_1 hb | exact st_2 hb | exact st_3 hb | exact st_4 hb | exact st_5 hb | exact st_o hb2 | exact st_1 hb2 | exact st_2 hb2 | exact st_3 hb2 | exact st_4 hb2 | exact st_5 hb2) rfl rfl (by first | assumption | omega) ?_
      try simp only [pM_3, r17, w17]
      rw [pk_un hne, hK j hj]
      have fin : Go GM l mX12_layWater 117 [.ref 0, .int (if fm (vmx (sH x c) (lowS L R W c s)) < fm (L c) then 1 else fl), .int (nI c), .int (nI s), .int (oI (some j)), .null] [.int (wmx (sH x c) (fm (L j)))] (pM (setA M 17 (upd K c (fm (vmx (sH x c) (lowS L R W c s))))) x) Q := by
        refine g_istore5 119 rfl dX12_layWater_117 rfl rfl ?_
        refine g_iload5 121 rfl dX12_layWater_119 ?_
        refine g_aload0 122 rfl dX12_layWater_121 ?_
        refine g_getR 125 rfl fX12_63 (by first | rfl | exact st_o hb | exact st_1 hb | exact st_2 hb | exact st_3 hb | exact st_4 hb | exact st_5 hb | exact st_o hb2 | exact st_1 hb2 | exact st_2 hb2 | exact st_3 hb2 | exact st_4 hb2 | exact st_5 hb2) rfl dX12_layWater_122 ?_
        refine g_iload2 126 rfl dX12_layWater_125 ?_
        refine g_iald 127 rfl dX12_layWater_126 (by first | rfl | exact st_o hb | exact st_1 hb | exact st_2 hb | exact st_3 hb | exact st_4 hb | exact st_5 hb | exact st_o hb2 | exact st_1 hb2 | exact st_2 hb2 | exact st_3 hb2 | exact st_4 hb2 | exact st_5 hb2) rfl rfl (by first | assumption | omega) ?_
        try simp only [pM_3, r17, w17]
        rw [upd_at]
        refine g_cmpge 140 130 rfl dX12_layWater_127 (by decide) (fun h127 => ?_) (fun h127 => ?_)
        · rw [s1 h127] at ih
          refine g_iinc3 143 rfl dX12_layWater_140 rfl rfl _ (by first | exact iinc1 _ | exact iincx _ | rfl) ?_
          refine g_goto 61 dX12_layWater_143 (by decide) ?_
          refine g_fg 4 ?_
          refine g_fg 5 ?_
          exact ih
        · obtain ⟨t1, t2⟩ := s2 h127
          have b1 : bgI (vmx (sH x c) (vmn (L j) (lowS L R W c s))) := by rw [← el]; exact bgv (s + 1)
          rw [if_pos ((fm_lt b1 (bg c hc)).mpr (Int32.lt_of_lt_of_le t2 (vle s))), t1] at ih
          refine g_aload0 131 rfl dX12_layWater_130 ?_
          refine g_getR 134 rfl fX12_63 (by first | rfl | exact st_o hb | exact st_1 hb | exact st_2 hb | exact st_3 hb | exact st_4 hb | exact st_5 hb | exact st_o hb2 | exact st_1 hb2 | exact st_2 hb2 | exact st_3 hb2 | exact st_4 hb2 | exact st_5 hb2) rfl dX12_layWater_131 ?_
          refine g_iload2 135 rfl dX12_layWater_134 ?_
          refine g_iload5 137 rfl dX12_layWater_135 ?_
          refine g_iast 138 rfl dX12_layWater_137 (by first | rfl | exact st_o hb | exact st_1 hb | exact st_2 hb | exact st_3 hb | exact st_4 hb | exact st_5 hb | exact st_o hb2 | exact st_1 hb2 | exact st_2 hb2 | exact st_3 hb2 | exact st_4 hb2 | exact st_5 hb2) rfl rfl (by first | assumption | omega) ?_
          try simp only [pM_3, r17, w17]
          refine g_iconst 139 rfl (v := 1) dX12_layWater_138 (by decide) ?_
          refine g_istore1 140 rfl dX12_layWater_139 rfl rfl ?_
          refine g_iinc3 143 rfl dX12_layWater_140 rfl rfl _ (by first | exact iinc1 _ | exact iincx _ | rfl) ?_
          refine g_goto 61 dX12_layWater_143 (by decide) ?_
          have eu : upd (upd K c (fm (vmx (sH x c) (lowS L R W c s)))) c (wmx (sH x c) (fm (L j))) = upd K c (wmx (sH x c) (fm (L j))) := by
            funext d
            unfold upd
            split <;> rfl
          rw [eu]
          refine g_fg 4 ?_
          refine g_fg 5 ?_
          exact ih
      refine g_cmple 111 101 rfl dX12_layWater_98 (by decide) (fun h98 => ?_) (fun h98 => ?_)
      · rw [wmx, if_pos h98] at fin
        refine g_aload0 112 rfl dX12_layWater_111 ?_
        refine g_getR 115 rfl fX12_16 (by first | rfl | exact st_o hb | exact st_1 hb | exact st_2 hb | exact st_3 hb | exact st_4 hb | exact st_5 hb | exact st_o hb2 | exact st_1 hb2 | exact st_2 hb2 | exact st_3 hb2 | exact st_4 hb2 | exact st_5 hb2) rfl dX12_layWater_112 ?_
        refine g_iload2 116 rfl dX12_layWater_115 ?_
        refine g_iald 117 rfl dX12_layWater_116 (by first | rfl | exact st_o hb | exact st_1 hb | exact st_2 hb | exact st_3 hb | exact st_4 hb | exact st_5 hb | exact st_o hb2 | exact st_1 hb2 | exact st_2 hb2 | exact st_3 hb2 | exact st_4 hb2 | exact st_5 hb2) rfl rfl (by first | assumption | omega) ?_
        try simp only [pM_3, r17, w17]
        exact fin
      · rw [wmx, if_neg h98] at fin
        refine g_aload0 102 rfl dX12_layWater_101 ?_
        refine g_getR 105 rfl fX12_63 (by first | rfl | exact st_o hb | exact st_1 hb | exact st_2 hb | exact st_3 hb | exact st_4 hb | exact st_5 hb | exact st_o hb2 | exact st_1 hb2 | exact st_2 hb2 | exact st_3 hb2 | exact st_4 hb2 | exact st_5 hb2) rfl dX12_layWater_102 ?_
        refine g_iload4 107 rfl dX12_layWater_105 ?_
        refine g_iald 108 rfl dX12_layWater_107 (by first | rfl | exact st_o hb | exact st_1 hb | exact st_2 hb | exact st_3 hb | exact st_4 hb | exact st_5 hb | exact st_o hb2 | exact st_1 hb2 | exact st_2 hb2 | exact st_3 hb2 | exact st_4 hb2 | exact st_5 hb2) rfl rfl (by first | assumption | omega) ?_
        try simp only [pM_3, r17, w17]
        rw [pk_un hne, hK j hj]
        refine g_goto 117 dX12_layWater_108 (by decide) ?_
        exact fin
abbrev qLw (R W : Nat) (M : Mm) (x : Sx) : Rr → Mm → Prop := fun r M' => r = none ∧ ∃ K, M' = pM (setA M 17 K) x ∧ eqN (R * W) K (filS R W (sH x) (fun _ => 0))
theorem om_layWater {l : Launch} {M : Mm} {R W b : Nat} {x : Sx} (hm : Mod M R W) (hB : HB b (R * W) x) (hb : b < 268435456) : Ok GM l mX12_layWater [.ref 0] (pM M x) (qLw R W M x) := by
  have h30 := hm.le
  have hm2 : ∀ B, Mod (pM (setA M 17 B) x) R W := fun B => pM_mod (mod_sA hm (by decide))
  have w17 : ∀ f e, setA (pM (setA M 17 f) x) 17 e = pM (setA M 17 e) x := fun f e => by rw [pM_wo (Or.inr (by decide)), sA_sA]
  have r17 : ∀ f, (pM (setA M 17 f) x).1 17 = f := fun f => by rw [pM_o (Or.inr (by decide)), sA_s]
  have hH : ∀ c, c < R * W → (sH x c).toInt < 268435456 := fun c hc => by have := hB c hc; omega
  have e5 : (2147483647 : Int32).toInt = 2147483647 := by decide
  have hZ := lvZ_i hH
  have rest := sq_rest h30 hH hZ
  have fin : ∀ K, (∀ d, d < R * W → K d = fm (sqN R W (sH x) (lvZ R W (sH x)) 30 d)) → eqN (R * W) K (filS R W (sH x) (fun _ => 0)) := by
    intro K hK c hc
    have hW : 0 < W := by
      rcases Nat.eq_zero_or_pos W with h0 | h0
      · subst h0; simp at hc
      · exact h0
    rw [hK c hc, fil_is hH _ c hc]
    have := fil_near h30 hW hH (c % W) c hc rfl
    unfold fm
    rw [if_neg (fun z => this (Int32.toInt_inj.mp (by rw [z, e5])))]
  refine ok_of (by decide +kernel) rfl rfl ?_
  refine g_mem (pM (setA M 17 (M.1 17)) x) (by rw [sA_id]) ?_
  have sweep : ∀ j, (∀ fl K, fl = (swpS R W (sH x) (sqN R W (sH x) (lvZ R W (sH x)) j)).1 → (∀ d, d < R * W → K d = fm (sqN R W (sH x) (lvZ R W (sH x)) (j + 1) d)) → Go GM l mX12_layWater 43 [.ref 0, .int fl, .null, .null, .null, .null] [] (pM (setA M 17 K) x) (qLw R W M x)) → ∀ K, (∀ d, d < R * W → K d = fm (sqN R W (sH x) (lvZ R W (sH x)) j d)) → Go GM l mX12_layWater 47 [.ref 0, .int 1, .null, .null, .null, .null] [] (pM (setA M 17 K) x) (qLw R W M x) := by
    intro j kk K hK
    have hLj := sq_i hH hZ j
    rw [sqN] at kk
    generalize sqN R W (sH x) (lvZ R W (sH x)) j = L at kk hK hLj
    unfold swpS at kk
    refine g_iconst 48 rfl (v := 0) dX12_layWater_47 (by decide) ?_
    refine g_istore1 49 rfl dX12_layWater_48 rfl rfl ?_
    refine g_iconst 50 rfl (v := 0) dX12_layWater_49 (by decide) ?_
    refine g_istore2 51 rfl dX12_layWater_50 rfl rfl ?_
    have key : ∀ i, i ≤ R * W → ∀ fl K, fl = (itN (swpB R W (sH x)) i (0, L)).1 → (∀ d, d < R * W → K d = fm ((itN (swpB R W (sH x)) i (0, L)).2 d)) → Go GM l mX12_layWater 51 [.ref 0, .int fl, .int (nI i), .null, .null, .null] [] (pM (setA M 17 K) x) (qLw R W M x) := by
      refine loop_up (P := fun i => ∀ fl K, fl = (itN (swpB R W (sH x)) i (0, L)).1 → (∀ d, d < R * W → K d = fm ((itN (swpB R W (sH x)) i (0, L)).2 d)) → Go GM l mX12_layWater 51 [.ref 0, .int fl, .int (nI i), .null, .null, .null] [] (pM (setA M 17 K) x) (qLw R W M x)) (R * W) ?_ ?_
      · intro fl K h1 h2
        refine g_iload2 52 rfl dX12_layWater_51 ?_
        refine g_aload0 53 rfl dX12_layWater_52 ?_
        refine g_callVi 56 0 rfl kX12_140 (by first | rfl | exact st_o hb | exact st_1 hb | exact st_2 hb | exact st_3 hb | exact st_4 hb | exact st_5 hb | exact st_o hb2 | exact st_1 hb2 | exact st_2 hb2 | exact st_3 hb2 | exact st_4 hb2 | exact st_5 hb2) dX12_layWater_53 ⟨rfl, rfl⟩ (om_cells (hm2 _)) rfl rfl rfl ?_
        refine g_cmpge 152 59 rfl dX12_layWater_56 (by decide) (fun _ => ?_) (fun h => absurd (Int32.le_refl _) h)
        refine g_goto 43 dX12_layWater_152 (by decide) ?_
        refine g_fg 2 ?_
        exact kk fl K h1 h2
      · intro i hi ih fl K h1 h2
        have hLi := (swp_i hH hLj i (by omega)).1
        simp only [it4] at ih
        generalize itN (swpB R W (sH x)) i (0, L) = p at h1 h2 ih hLi
        refine g_iload2 52 rfl dX12_layWater_51 ?_
        refine g_aload0 53 rfl dX12_layWater_52 ?_
        refine g_callVi 56 0 rfl kX12_140 (by first | rfl | exact st_o hb | exact st_1 hb | exact st_2 hb | exact st_3 hb | exact st_4 hb | exact st_5 hb | exact st_o hb2 | exact st_1 hb2 | exact st_2 hb2 | exact st_3 hb2 | exact st_4 hb2 | exact st_5 hb2) dX12_layWater_53 ⟨rfl, rfl⟩ (om_cells (hm2 _)) rfl rfl rfl ?_
        refine g_cmpge 152 59 rfl dX12_layWater_56 (by decide) (fun h => absurd h (nI_ge hi (by omega))) (fun _ => ?_)
        subst h1
        exact wat_cell hm hi hH hLi h2 (fun fl' K' a b => ih fl' K' a b)
    exact key 0 (by omega) 0 K rfl hK
  have run : ∀ d j, j + d = 30 → ∀ K, (∀ c, c < R * W → K c = fm (sqN R W (sH x) (lvZ R W (sH x)) j c)) → Go GM l mX12_layWater 47 [.ref 0, .int 1, .null, .null, .null, .null] [] (pM (setA M 17 K) x) (qLw R W M x) := by
    intro d
    induction d with
    | zero =>
      intro j hj K hK
      have hj : j = 30 := by omega
      subst hj
      refine sweep 30 (fun fl K2 h1 h2 => ?_) K hK
      have hz : fl = 0 := by
        rw [h1]
        exact (swp_i hH (sq_i hH hZ 30) (R * W) (Nat.le_refl _)).2.2.2.mpr (fun c hc => rest c hc)
      rw [hz]
      refine g_iload1 44 rfl dX12_layWater_43 ?_
      refine g_ifeq 155 47 rfl dX12_layWater_44 (by decide) (fun _ => ?_) (fun h => absurd rfl h)
      refine g_vret rfl dX12_layWater_155 ?_
      exact ⟨rfl, K2, rfl, fin K2 (fun c hc => by rw [h2 c hc, rest c hc])⟩
    | succ d ih =>
      intro j hj K hK
      refine sweep j (fun fl K2 h1 h2 => ?_) K hK
      rcases swp_or (R := R) (W := W) (H := sH x) (L := sqN R W (sH x) (lvZ R W (sH x)) j) (R * W) with hz | hz
      · have e : eqN (R * W) (sqN R W (sH x) (lvZ R W (sH x)) (j + 1)) (sqN R W (sH x) (lvZ R W (sH x)) j) := fun c hc => (swp_i hH (sq_i hH hZ j) (R * W) (Nat.le_refl _)).2.2.2.mp hz c hc
        have e2 := sq_stay e (30 - j)
        rw [show j + (30 - j) = 30 by omega] at e2
        rw [h1, show (swpS R W (sH x) (sqN R W (sH x) (lvZ R W (sH x)) j)).1 = 0 from hz]
        refine g_iload1 44 rfl dX12_layWater_43 ?_
        refine g_ifeq 155 47 rfl dX12_layWater_44 (by decide) (fun _ => ?_) (fun h => absurd rfl h)
        refine g_vret rfl dX12_layWater_155 ?_
        exact ⟨rfl, K2, rfl, fin K2 (fun c hc => by rw [h2 c hc, e c hc, e2 c hc])⟩
      · rw [h1, show (swpS R W (sH x) (sqN R W (sH x) (lvZ R W (sH x)) j)).1 = 1 from hz]
        refine g_iload1 44 rfl dX12_layWater_43 ?_
        refine g_ifeq 155 47 rfl dX12_layWater_44 (by decide) (fun h => absurd h (by decide)) (fun _ => ?_)
        exact ih (j + 1) (by omega) K2 h2
  refine g_iconst 1 rfl (v := 0) dX12_layWater_0 (by decide) ?_
  refine g_istore1 2 rfl dX12_layWater_1 rfl rfl ?_
  have key : ∀ i, i ≤ R * W → ∀ K, (∀ c, c < i → K c = fm (lvZ R W (sH x) c)) → Go GM l mX12_layWater 2 [.ref 0, .int (nI i), .null, .null, .null, .null] [] (pM (setA M 17 K) x) (qLw R W M x) := by
    refine loop_up (P := fun i => ∀ K, (∀ c, c < i → K c = fm (lvZ R W (sH x) c)) → Go GM l mX12_layWater 2 [.ref 0, .int (nI i), .null, .null, .null, .null] [] (pM (setA M 17 K) x) (qLw R W M x)) (R * W) ?_ ?_
    · intro K hK
      refine g_iload1 3 rfl dX12_layWater_2 ?_
      refine g_aload0 4 rfl dX12_layWater_3 ?_
      refine g_callVi 7 0 rfl kX12_140 (by first | rfl | exact st_o hb | exact st_1 hb | exact st_2 hb | exact st_3 hb | exact st_4 hb | exact st_5 hb | exact st_o hb2 | exact st_1 hb2 | exact st_2 hb2 | exact st_3 hb2 | exact st_4 hb2 | exact st_5 hb2) dX12_layWater_4 ⟨rfl, rfl⟩ (om_cells (hm2 _)) rfl rfl rfl ?_
      refine g_cmpge 41 10 rfl dX12_layWater_7 (by decide) (fun _ => ?_) (fun h => absurd (Int32.le_refl _) h)
      refine g_iconst 42 rfl (v := 1) dX12_layWater_41 (by decide) ?_
      refine g_istore1 43 rfl dX12_layWater_42 rfl rfl ?_
      refine g_iload1 44 rfl dX12_layWater_43 ?_
      refine g_ifeq 155 47 rfl dX12_layWater_44 (by decide) (fun h => absurd h (by decide)) (fun _ => ?_)
      exact run 30 0 (by omega) K hK
    · intro i hi ih K hK
      have up : ∀ v, v = fm (lvZ R W (sH x) i) → ∀ c, c < i + 1 → upd K i v c = fm (lvZ R W (sH x) c) := by
        intro v hv c hcc
        by_cases hci : c = i
        · subst hci; rw [upd_at, hv]
        · rw [pk_un hci]; exact hK c (by omega)
      refine g_iload1 3 rfl dX12_layWater_2 ?_
      refine g_aload0 4 rfl dX12_layWater_3 ?_
      refine g_callVi 7 0 rfl kX12_140 (by first | rfl | exact st_o hb | exact st_1 hb | exact st_2 hb | exact st_3 hb | exact st_4 hb | exact st_5 hb | exact st_o hb2 | exact st_1 hb2 | exact st_2 hb2 | exact st_3 hb2 | exact st_4 hb2 | exact st_5 hb2) dX12_layWater_4 ⟨rfl, rfl⟩ (om_cells (hm2 _)) rfl rfl rfl ?_
      refine g_cmpge 41 10 rfl dX12_layWater_7 (by decide) (fun h => absurd h (nI_ge hi (by omega))) (fun _ => ?_)
      refine g_aload0 11 rfl dX12_layWater_10 ?_
      refine g_getR 14 rfl fX12_63 (by first | rfl | exact st_o hb | exact st_1 hb | exact st_2 hb | exact st_3 hb | exact st_4 hb | exact st_5 hb | exact st_o hb2 | exact st_1 hb2 | exact st_2 hb2 | exact st_3 hb2 | exact st_4 hb2 | exact st_5 hb2) rfl dX12_layWater_11 ?_
      refine g_iload1 15 rfl dX12_layWater_14 ?_
      refine g_aload0 16 rfl dX12_layWater_15 ?_
      refine g_iload1 17 rfl dX12_layWater_16 ?_
      refine g_callV 20 1 rfl kX12_218 (by first | rfl | exact st_o hb | exact st_1 hb | exact st_2 hb | exact st_3 hb | exact st_4 hb | exact st_5 hb | exact st_o hb2 | exact st_1 hb2 | exact st_2 hb2 | exact st_3 hb2 | exact st_4 hb2 | exact st_5 hb2) dX12_layWater_17 ⟨rfl, rfl⟩ (om_isRim (hm2 _) hi) rfl rfl rfl (fun r M1 hq => ?_)
      obtain ⟨rfl, ⟨rfl, hq⟩ | ⟨rfl, hq⟩⟩ := hq
      try simp only [rV, Option.toList, List.cons_append, List.nil_append]
      · refine g_ifeq 32 23 rfl dX12_layWater_20 (by decide) (fun h => absurd h (by decide)) (fun _ => ?_)
        refine g_aload0 24 rfl dX12_layWater_23 ?_
        refine g_getR 27 rfl fX12_16 (by first | rfl | exact st_o hb | exact st_1 hb | exact st_2 hb | exact st_3 hb | exact st_4 hb | exact st_5 hb | exact st_o hb2 | exact st_1 hb2 | exact st_2 hb2 | exact st_3 hb2 | exact st_4 hb2 | exact st_5 hb2) rfl dX12_layWater_24 ?_
        refine g_iload1 28 rfl dX12_layWater_27 ?_
        refine g_iald 29 rfl dX12_layWater_28 (by first | rfl | exact st_o hb | exact st_1 hb | exact st_2 hb | exact st_3 hb | exact st_4 hb | exact st_5 hb | exact st_o hb2 | exact st_1 hb2 | exact st_2 hb2 | exact st_3 hb2 | exact st_4 hb2 | exact st_5 hb2) rfl rfl (by first | assumption | omega) ?_
        try simp only [pM_3, r17, w17]
        refine g_goto 34 dX12_layWater_29 (by decide) ?_
        refine g_iast 35 rfl dX12_layWater_34 (by first | rfl | exact st_o hb | exact st_1 hb | exact st_2 hb | exact st_3 hb | exact st_4 hb | exact st_5 hb | exact st_o hb2 | exact st_1 hb2 | exact st_2 hb2 | exact st_3 hb2 | exact st_4 hb2 | exact st_5 hb2) rfl rfl (by first | assumption | omega) ?_
        try simp only [pM_3, r17, w17]
        refine g_iinc1 38 rfl dX12_layWater_35 rfl rfl _ (by first | exact iinc1 _ | exact iincx _ | rfl) ?_
        refine g_goto 2 dX12_layWater_38 (by decide) ?_
        refine ih _ (up _ ?_)
        unfold lvZ
        rw [if_pos hq]
        unfold fm
        have := hH i hi
        rw [if_neg (by omega)]
      · refine g_ifeq 32 23 rfl dX12_layWater_20 (by decide) (fun _ => ?_) (fun h => absurd rfl h)
        refine g_ldc 34 rfl dX12_layWater_32 cX12_196 ?_
        refine g_iast 35 rfl dX12_layWater_34 (by first | rfl | exact st_o hb | exact st_1 hb | exact st_2 hb | exact st_3 hb | exact st_4 hb | exact st_5 hb | exact st_o hb2 | exact st_1 hb2 | exact st_2 hb2 | exact st_3 hb2 | exact st_4 hb2 | exact st_5 hb2) rfl rfl (by first | assumption | omega) ?_
        try simp only [pM_3, r17, w17]
        refine g_iinc1 38 rfl dX12_layWater_35 rfl rfl _ (by first | exact iinc1 _ | exact iincx _ | rfl) ?_
        refine g_goto 2 dX12_layWater_38 (by decide) ?_
        refine ih _ (up _ ?_)
        unfold lvZ
        rw [if_neg hq]
        rfl
  exact key 0 (by omega) _ (fun c hc => absurd hc (by omega))
