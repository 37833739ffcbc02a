/-! the law from its entry (written by gen_law.py) -/
theorem in_X0 : Cond.instantiable RX0 4 ∈ wTb := wT_i 78 (by decide +kernel) rfl
theorem in_X1 : Cond.instantiable RX1 5 ∈ wTb := wT_i 238 (by decide +kernel) rfl
theorem in_X2 : Cond.instantiable RX2 3 ∈ wTb := wT_i 188 (by decide +kernel) rfl
theorem in_X3 : Cond.instantiable RX3 2 ∈ wTb := wT_i 25 (by decide +kernel) rfl
theorem in_X4 : Cond.instantiable RX4 5 ∈ wTb := wT_i 103 (by decide +kernel) rfl
theorem in_X5 : Cond.instantiable RX5 2 ∈ wTb := wT_i 175 (by decide +kernel) rfl
theorem in_X7 : Cond.instantiable RX7 8 ∈ wTb := wT_i 137 (by decide +kernel) rfl
theorem in_X8 : Cond.instantiable RX8 7 ∈ wTb := wT_i 43 (by decide +kernel) rfl
theorem in_X9 : Cond.instantiable RX9 2 ∈ wTb := wT_i 206 (by decide +kernel) rfl
theorem in_X10 : Cond.instantiable RX10 4 ∈ wTb := wT_i 219 (by decide +kernel) rfl
theorem in_X11 : Cond.instantiable RX11 17 ∈ wTb := wT_i 17 (by decide +kernel) rfl
theorem in_X12 : Cond.instantiable RX12 40 ∈ wTb := wT_i 831 (by decide +kernel) rfl
theorem lcL_7 : LkC RL 7 10 17 [.null, .null, .null, .null, .null, .null, .null, .null, .null, .null, .null, .null, .null, .null, .int 0, .int 0, .int 0] := ⟨RX11, TX11, tyX11, rfl, inTX11, tyX11_ok, wT_i 16 (by decide +kernel) rfl, in_X11, wT_i 1 (by decide +kernel) rfl, by decide +kernel⟩
theorem lcL_10 : LkC RL 10 11 40 [.int 0, .int 0, .int 0, .null, .null, .null, .null, .null, .long 0, .int 0, .null, .null, .int 0, .null, .int 0, .int 0, .null, .int 0, .int 0, .long 0, .null, .long 0, .null, .int 0, .int 0, .int 0, .int 0, .int 0, .int 0, .null, .null, .int 0, .null, .null, .null, .null, .null, .int 0, .null, .long 0] := ⟨RX12, TX12, tyX12, rfl, inTX12, tyX12_ok, wT_i 830 (by decide +kernel) rfl, in_X12, wT_i 13 (by decide +kernel) rfl, by decide +kernel⟩
theorem kiL_9 : LkI RL 9 mX11_init 0 := ⟨lkBX11_init, wT_i 18 (by decide +kernel) rfl, wT_i 19 (by decide +kernel) rfl, rfl, rfl⟩
theorem kiL_12 : LkI RL 12 mX12_init 0 := ⟨lkBX12_init, wT_i 832 (by decide +kernel) rfl, wT_i 833 (by decide +kernel) rfl, rfl, rfl⟩
theorem cls_known {args : Array Value} {s : State} (hts : ∀ w ∈ wTb, w.before args s = true) : ∃ (dC : Nat → ClassId) (dI : Nat → Nat → Nat), ∀ (k : Nat) (q : vw_C), vwCl[k]? = some q → u_Kn s q.1 q.2.1 q.2.2 (dC k) (dI k) := by
  have ex : ∀ k : Nat, ∃ x : ClassId × (Nat → Nat), ∀ q : vw_C, vwCl[k]? = some q → u_Kn s q.1 q.2.1 q.2.2 x.1 x.2 := by
    intro k
    match k with
    | 0 =>
      obtain ⟨c0, i0, h⟩ := u_known (C := RX0) (T := TX0) (N := 4) hts inTX0 (hts _ in_X0)
      exact ⟨(c0, i0), fun q hq => by cases hq; exact h⟩
    | 1 =>
      obtain ⟨c0, i0, h⟩ := u_known (C := RX1) (T := TX1) (N := 5) hts inTX1 (hts _ in_X1)
      exact ⟨(c0, i0), fun q hq => by cases hq; exact h⟩
    | 2 =>
      obtain ⟨c0, i0, h⟩ := u_known (C := RX2) (T := TX2) (N := 3) hts inTX2 (hts _ in_X2)
      exact ⟨(c0, i0), fun q hq => by cases hq; exact h⟩
    | 3 =>
      obtain ⟨c0, i0, h⟩ := u_known (C := RX3) (T := TX3) (N := 2) hts inTX3 (hts _ in_X3)
      exact ⟨(c0, i0), fun q hq => by cases hq; exact h⟩
    | 4 =>
      obtain ⟨c0, i0, h⟩ := u_known (C := RX4) (T := TX4) (N := 5) hts inTX4 (hts _ in_X4)
      exact ⟨(c0, i0), fun q hq => by cases hq; exact h⟩
    | 5 =>
      obtain ⟨c0, i0, h⟩ := u_known (C := RX5) (T := TX5) (N := 2) hts inTX5 (hts _ in_X5)
      exact ⟨(c0, i0), fun q hq => by cases hq; exact h⟩
    | 6 =>
      obtain ⟨c0, i0, h⟩ := u_known (C := RX7) (T := TX7) (N := 8) hts inTX7 (hts _ in_X7)
      exact ⟨(c0, i0), fun q hq => by cases hq; exact h⟩
    | 7 =>
      obtain ⟨c0, i0, h⟩ := u_known (C := RX8) (T := TX8) (N := 7) hts inTX8 (hts _ in_X8)
      exact ⟨(c0, i0), fun q hq => by cases hq; exact h⟩
    | 8 =>
      obtain ⟨c0, i0, h⟩ := u_known (C := RX9) (T := TX9) (N := 2) hts inTX9 (hts _ in_X9)
      exact ⟨(c0, i0), fun q hq => by cases hq; exact h⟩
    | 9 =>
      obtain ⟨c0, i0, h⟩ := u_known (C := RX10) (T := TX10) (N := 4) hts inTX10 (hts _ in_X10)
      exact ⟨(c0, i0), fun q hq => by cases hq; exact h⟩
    | 10 =>
      obtain ⟨c0, i0, h⟩ := u_known (C := RX11) (T := TX11) (N := 17) hts inTX11 (hts _ in_X11)
      exact ⟨(c0, i0), fun q hq => by cases hq; exact h⟩
    | 11 =>
      obtain ⟨c0, i0, h⟩ := u_known (C := RX12) (T := TX12) (N := 40) hts inTX12 (hts _ in_X12)
      exact ⟨(c0, i0), fun q hq => by cases hq; exact h⟩
    | k + 12 => exact ⟨(0, fun _ => 0), fun q hq => by simp [vwCl] at hq⟩
  obtain ⟨f, hf⟩ := Classical.axiomOfChoice ex
  exact ⟨fun k => (f k).1, fun k => (f k).2, hf⟩
section LWS
variable {l : Launch} {p : Program} {e : Env} {s : State} {m : MethodId} {below : List Frame} {meth : Method} {c : Code} {b L : Nat} {xs : Nat → Int32} {dC : Nat → ClassId} {dI : Nat → Nat → Nat} {cA : Nat → ClassId} {pc cells slots : Nat} {H : Heap} {locs : List Loc} {ls : Array Slot} {st : List Value} {w0 wc ws : va_W} {Q2 : va_W → Prop} {mi2 : MI} {Z : State → Prop}
theorem lw_callI {idx q mc2 ms2 : Nat} (C0 : lw_At p s m meth c b L xs) (hK : va_K (dC, dI) vwCl (tysA cA) s) (hl : LkI RL idx mi2 0) (hd : decode code pc = .ok (.invokespecial idx, 3)) (hR : Nat.ble (mFr mi2 + 1) 11 = true ∧ Nat.ble (8 + (mMx mi2 + 11) + mLo mi2) 430 = true) (ok : OkB dC dI cA l mi2 [.ref q] wc mc2 ms2 Q2) (hP : va_P (dC, dI) vwCl (w0 ++ wc) H) (hD : va_D (fun q => s.heap.size ≤ q) (w0 ++ wc)) (hS : va_S (fun q => s.heap.size ≤ q) s.heap H locs) (hsz : ls.size = 4) (hw : Nat.ble ((st.map fun v => v.category).sum) 8 = true) (hcb : Nat.ble (cells + mc2) 66 = true ∧ Nat.ble (slots + ms2) 1751 = true)
    (kk : ∀ (w1 : va_W) (H1 : Heap) (locs1 : List Loc), Q2 w1 → va_P (dC, dI) vwCl (w0 ++ w1) H1 → va_D (fun q => s.heap.size ≤ q) (w0 ++ w1) → va_S (fun q => s.heap.size ≤ q) s.heap H1 locs1 → W p l e room_1 s m #[Value.ref b] below meth c H1 locs1 (cells + mc2) (slots + ms2) Z (F0 m (pc + 3) ls st)) : W p l e room_1 s m #[Value.ref b] below meth c H locs cells slots Z (F0 m pc ls (.ref q :: st)) := by
  obtain ⟨⟨l1, l2, l3, l4⟩, l5, l6, l7, l8⟩ := hl
  have hts : ∀ w ∈ wTb, w.before #[Value.ref b] s = true := fun w hw => C0.2.2.2.2.2.1 w (wT_of hw)
  have l1' : Cond.code (mNm mi2) (mBy mi2) (mMx mi2) none ∈ wTb := by
    have h := l1
    rw [l8] at h
    exact h
  have l9 : Cond.code (mNm mi2) (mBy mi2) (mMx mi2) none ∈ mWs mi2 := by
    have h : Cond.code (mNm mi2) (mBy mi2) (mMx mi2) (mRt mi2) ∈ mWs mi2 := List.mem_cons_self
    rw [l8] at h
    exact h
  refine gb_aux (Q2 := Q2) (rest := st) (va_runI (As := []) (b := q) (Ts := wTb) (n := 0) (ws := mWs mi2) (rm := bRm mi2 mc2 ms2) ⟨C0.1, C0.2.1, C0.2.2.2.1, C0.2.2.2.2.1, hts⟩ (ok H.size) ⟨⟨rfl, rfl, Nat.le_of_ble_eq_true hR.1, Nat.le_of_ble_eq_true hR.2, ?_, l9, hts _ l1', hts _ l2, l3, desc_n l4, hts _ l5⟩, l7, hts _ l6⟩ ⟨pb_blind, fun U hU hv => ⟨rfl, by rw [hU], by rw [hU]; exact va_P_r hP, va_K.moved hv.alike hK, (va_D_r hD).weaken (fun _ _ _ _ => trivial)⟩⟩ rfl rfl hsz rfl (lv_room (Nat.le_of_ble_eq_true hw)) hd ⟨Nat.le_of_ble_eq_true hcb.1, Nat.le_of_ble_eq_true hcb.2⟩) hP hD hS (fun q h => h) kk
  intro w hw a' U hv
  rcases List.mem_cons.mp hw with rfl | hw
  · exact wT_warm hts _ l1 a' U hv
  · exact wT_warm hts _ hw a' U hv
theorem lw_new {idx ci N : Nat} {fs : List Value} (C0 : lw_At p s m meth c b L xs) (hK : va_K (dC, dI) vwCl (tysA cA) s) (hl : LkC RL idx ci N fs) (hd : decode code pc = .ok (.new idx, 3)) (hP : va_P (dC, dI) vwCl ws H) (hD : va_D (fun q => s.heap.size ≤ q) ws) (hS : va_S (fun q => s.heap.size ≤ q) s.heap H locs) (hcb : Nat.ble (cells + 1) 66 = true ∧ Nat.ble (slots + N) 1751 = true)
    (kk : ∀ (q : Nat) (H1 : Heap), va_P (dC, dI) vwCl (ws ++ [(q, .inr (ci, fs))]) H1 → va_D (fun q => s.heap.size ≤ q) (ws ++ [(q, .inr (ci, fs))]) → va_S (fun q => s.heap.size ≤ q) s.heap H1 locs → W p l e room_1 s m #[Value.ref b] below meth c H1 locs (cells + 1) (slots + N) Z (F0 m (pc + 3) ls (.ref q :: st))) : W p l e room_1 s m #[Value.ref b] below meth c H locs cells slots Z (F0 m pc ls st) := by
  have hts : ∀ w ∈ wTb, w.before #[Value.ref b] s = true := fun w hw => C0.2.2.2.2.2.1 w (wT_of hw)
  obtain ⟨C, T, ty, a1, a2, a3, a4, a5, a6, a7⟩ := hl
  exact va_new (ci := ci) (fs := fs) (C := C) (T := T) (N := N) C0.1 C0.2.1 hts a2 ty a3 C0.2.2.2.2.1 (hts _ a4) (hts _ a5) (hts _ a6) hK hP hD hS (fun q h => h) a1 a7 (Nat.le_of_ble_eq_true hcb.1) (Nat.le_of_ble_eq_true hcb.2) hd kk
end LWS
theorem lvL_has {ls : Array Slot} {ad1 ad2 : Nat → Nat} {b : Nat} (hl : lv_has ls 4 [(3, .int 0), (2, .ref (ad2 0)), (1, .ref (ad1 0)), (0, .ref b)]) : lv_has ls 4 (asl (adL ad1 ad2 b) (lvL (5 * 0))) := by
  refine ⟨hl.1, hl.2.1, fun q hq => ?_⟩
  obtain ⟨v, h1, h2, h3⟩ := asl_mem.mp hq
  obtain ⟨i, w⟩ := q
  dsimp only at h1 h3
  subst h3
  match i, h1 with
  | 0, h1 => cases h1; exact hl.2.2 (0, .ref b) (by simp)
  | 1, h1 => cases h1; exact hl.2.2 (1, .ref (ad1 0)) (by simp)
  | 2, h1 => cases h1; exact hl.2.2 (2, .ref (ad2 0)) (by simp)
  | 3, h1 => cases h1; exact hl.2.2 (3, .int 0) (by simp)
  | k + 4, h1 => simp [lvL] at h1
theorem law_go {l : Launch} {p : Program} {e : Env} {s : State} {m : MethodId} {below : List Frame} {meth : Method} {c : Code} {b L : Nat} {xs : Nat → Int32} {dC : Nat → ClassId} {dI : Nat → Nat → Nat} {cA : Nat → ClassId} {ad1 ad2 : Nat → Nat} {H : Heap} {locs : List Loc} {ls : Array Slot} (hL : L ≤ 2560) (C0 : lw_At p s m meth c b L xs) (hK : va_K (dC, dI) vwCl (tysA cA) s) (hP : va_P (dC, dI) vwCl (wW GC cA ad1 cM0 ++ wW GM cA ad2 mM0) H) (hD : va_D (fun q => s.heap.size ≤ q) (wW GC cA ad1 cM0 ++ wW GM cA ad2 mM0)) (hS : va_S (fun q => s.heap.size ≤ q) s.heap H locs) (hl : lv_has ls 4 [(3, .int 0), (2, .ref (ad2 0)), (1, .ref (ad1 0)), (0, .ref b)]) : W p l e room_1 s m #[Value.ref b] below meth c H locs 66 1751 (lw_Z below #[Value.ref b] s) (F0 m 18 ls []) :=
  law_loop (l := l) (b := b) (xs := xs) hL 0 (Nat.zero_le _) g0 cM0 mM0 cs_0 ms_0 jv_0 p e s m below meth c dC dI cA ad1 ad2 H locs ls C0 hK (va_P_l hP) (va_P_r hP) hD hS (lvL_has hl)
/-- behind the class: the reference -/
theorem law_m {l : Launch} {p : Program} {e : Env} {s : State} {m : MethodId} {below : List Frame} {meth : Method} {c : Code} {b L : Nat} {xs : Nat → Int32} {dC : Nat → ClassId} {dI : Nat → Nat → Nat} {cA : Nat → ClassId} {ad1 : Nat → Nat} {w1 : va_W} {H : Heap} {locs : List Loc} {ls : Array Slot} (hL : L ≤ 2560) (C0 : lw_At p s m meth c b L xs) (hK : va_K (dC, dI) vwCl (tysA cA) s) (hw : w1 = wW GC cA ad1 cM0) (hP : va_P (dC, dI) vwCl w1 H) (hD : va_D (fun q => s.heap.size ≤ q) w1) (hS : va_S (fun q => s.heap.size ≤ q) s.heap H locs) (hl : lv_has ls 4 [(0, .ref b)]) : W p l e room_1 s m #[Value.ref b] below meth c H locs 46 1005 (lw_Z below #[Value.ref b] s) (F0 m 7 ls [.ref (ad1 0)]) := by
  have hx := C0.1
  have hb := C0.2.1
  refine lv_astore_n (lv' := [(1, .ref (ad1 0)), (0, .ref b)]) hx hb dL_law_7 rfl hl (by decide) rfl (fun ls hl => ?_)
  refine lw_new (N := 40) C0 hK lcL_10 dL_law_8 hP hD hS ⟨rfl, rfl⟩ (fun q1 H hP hD hS => ?_)
  refine lv_dup hx hb dL_law_11 rfl ?_
  refine lw_callI (w0 := w1) C0 hK kiL_12 dL_law_12 ⟨rfl, rfl⟩ ob_X12_init hP hD hS hl.1 rfl ⟨rfl, rfl⟩ (fun w2 H2 locs2 hq hP2 hD2 hS2 => ?_)
  obtain ⟨ad2, h0, h2⟩ := hq
  subst h0
  refine lv_astore_n (lv' := [(2, .ref (ad2 0)), (1, .ref (ad1 0)), (0, .ref b)]) hx hb dL_law_15 rfl hl (by decide) rfl (fun ls hl => ?_)
  refine lv_iconst (v := 0) hx hb dL_law_16 (by decide) ?_
  refine lv_istore_n (lv' := [(3, .int 0), (2, .ref (ad2 0)), (1, .ref (ad1 0)), (0, .ref b)]) hx hb dL_law_17 rfl hl (by decide) rfl (fun ls hl => ?_)
  rw [hw, h2] at hP2 hD2
  exact law_go hL C0 hK hP2 hD2 hS2 hl
/-- from the entry, for every script of at most 2560 ints, the law comes to its end with true -/
theorem whole_start {p : Program} {e : Env} {s : State} {m : MethodId} {below : List Frame} {meth : Method} {c : Code} (l : Launch) {b L : Nat} {xs : Nat → Int32} (hL : L ≤ 2560) (C0 : lw_At p s m meth c b L xs) : W p l e room_1 s m #[Value.ref b] below meth c s.heap [] 0 0 (lw_Z below #[Value.ref b] s) (entryFrame m ([Value.ref b] : List Value).toArray 4) := by
  have hx := C0.1
  have hb := C0.2.1
  have hts : ∀ w ∈ wTb, w.before #[Value.ref b] s = true := fun w hw => C0.2.2.2.2.2.1 w (wT_of hw)
  obtain ⟨dC, dI, hKc⟩ := cls_known hts
  obtain ⟨c0, k0, r0⟩ := arr_known (hts _ ar_int) (fun c h => h)
  obtain ⟨c1, k1, r1⟩ := arr_known (hts _ ar_boolean) (fun c h => h)
  obtain ⟨c2, k2, r2⟩ := arr_known (hts _ ar_byte) (fun c h => h)
  obtain ⟨cA, e0, e1, e2⟩ : ∃ cA : Nat → ClassId, cA 0 = c0 ∧ cA 1 = c1 ∧ cA 2 = c2 := ⟨fun k => if k = 0 then c0 else if k = 1 then c1 else c2, rfl, rfl, rfl⟩
  have hK : va_K (dC, dI) vwCl (tysA cA) s := by
    refine ⟨hKc, fun k q hk => ?_⟩
    match k, hk with
    | 0, hk => cases hk; rw [e0]; exact ⟨k0, r0⟩
    | 1, hk => cases hk; rw [e1]; exact ⟨k1, r1⟩
    | 2, hk => cases hk; rw [e2]; exact ⟨k2, r2⟩
    | k + 3, hk => simp [tysA] at hk
  have hP : va_P (dC, dI) vwCl [] s.heap := fun k q h => by simp at h
  have hD : va_D (fun q : Nat => s.heap.size ≤ q) [] := ⟨fun i j p q h => by simp at h, fun k q h => by simp at h⟩
  have hl := lv_entry ([.ref b]) (n := 4) (Nat.le_of_ble_eq_true rfl)
  rw [lg_entry_eq]
  generalize (lg_sl ([.ref b]) ++ List.replicate (4 - (lg_sl ([.ref b])).length) Slot.unset).toArray = ls at hl ⊢
  have hl : lv_has ls 4 [(0, .ref b)] := hl
  refine lw_new (N := 17) C0 hK lcL_7 dL_law_0 hP hD va_S.rf ⟨rfl, rfl⟩ (fun q0 H hP hD hS => ?_)
  refine lv_dup hx hb dL_law_3 rfl ?_
  refine lw_callI (w0 := []) C0 hK kiL_9 dL_law_4 ⟨rfl, rfl⟩ ob_X11_init hP hD hS hl.1 rfl ⟨rfl, rfl⟩ (fun w1 H2 locs2 hq hP2 hD2 hS2 => ?_)
  obtain ⟨ad1, h0, h1⟩ := hq
  subst h0
  rw [List.nil_append] at hP2 hD2
  exact law_m hL C0 hK h1 hP2 hD2 hS2 hl

