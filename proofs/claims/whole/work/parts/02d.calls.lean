/-! calls -/
def LkB (mi2 : MI) (n : Nat) : Prop := Cond.code (mNm mi2) (mBy mi2) (mMx mi2) (mRt mi2) ∈ wTb ∧ Cond.initialized (mNm mi2).cls ∈ wTb ∧ ((mNm mi2).cls ≠ "java/lang/invoke/MethodHandle" ∧ (mNm mi2).cls ≠ "java/lang/invoke/VarHandle") ∧ (parseMethodDescriptor (mNm mi2).desc).map (fun d => d.parameters.length) = some n
def LkV (own : String) (idx : Nat) (mi2 : MI) (n ci : Nat) : Prop := LkB mi2 n ∧ Cond.methodLink own idx (mNm mi2) ∈ wTb ∧ Cond.instanceMethod (mNm mi2) ∈ wTb ∧ Cond.selects (mNm mi2).cls (mNm mi2) (mNm mi2) ∈ wTb ∧ ∃ (T : u_T) (N : Nat), vwCl[ci]? = some ((mNm mi2).cls, T, N)
def LkS (own : String) (idx : Nat) (mi2 : MI) (n : Nat) : Prop := LkB mi2 n ∧ Cond.methodLink own idx (mNm mi2) ∈ wTb ∧ Cond.static (mNm mi2) ∈ wTb
def LkN (own : String) (idx : Nat) (mi2 : MI) (n : Nat) (host : String) : Prop := LkB mi2 n ∧ Cond.methodLinkNest own idx (mNm mi2) host ∈ wTb ∧ Cond.static (mNm mi2) ∈ wTb
theorem tr_sum (ad : Nat → Nat) (st : List Value) : ((st.map (tr ad)).map fun v => v.category).sum = (st.map fun v => v.category).sum := by
  rw [List.map_map]
  congr 1
  apply List.map_congr_left
  intro v _
  exact tr_cat ad v
theorem rV_tr (ad : Nat → Nat) (r : Rr) (st : List Value) : (rV r).toList ++ st.map (tr ad) = ((rV r).toList ++ st).map (tr ad) := by
  rcases r with _ | x | x <;> rfl
theorem pp_blind {av : List Value} {G : Sh} {dC : Nat → ClassId} {dI : Nat → Nat → Nat} {cA : Nat → ClassId} {ad : Nat → Nat} {M : Mm} {sz : Nat} : FrameBlind (va_Pc av (PP G dC dI cA ad M sz)) := by
  intro a U g mk q
  obtain ⟨q0, q1, qP, qK, qD⟩ := q
  exact ⟨q0, q1, qP, va_K.moved (u := U) (U := U.calling g mk a) (Vm.Alike.refl U.vm) qK, qD⟩
theorem desc_n {d : String} {n : Nat} (h2 : (parseMethodDescriptor d).map (fun d => d.parameters.length) = some n) : ∀ sig, parseMethodDescriptor d = some sig → n = sig.parameters.length := by
  intro sig h
  rw [h] at h2
  exact (Option.some.inj h2).symm
section GC
variable {G : Sh} {l : Launch} {mi mi2 : MI} {pc : Nat} {lv st stk As : List Value} {M : Mm} {Q Q2 : Rr → Mm → Prop}
theorem go_aux {p : Program} {e : Env} {s : State} {m : MethodId} {args a : Array Value} {below : List Frame} {meth : Method} {c : Code} {dC : Nat → ClassId} {dI : Nat → Nat → Nat} {cA : Nat → ClassId} {ad : Nat → Nat} {A A1 : Nat → Prop} {H : Heap} {locs : List Loc} {ls : Array Slot} {st0 rest : List Value} {R : Room} {Z : State → Prop}
    (hr : va_Run p l e R s m args below meth c H locs 0 0 0 0 (F0 m pc ls st0) rest (QQ G dC dI cA ad A1 Q2 a) A1) (hS : va_S A s.heap H locs) (hA : ∀ q, A1 q → A q)
    (kk : ∀ (r : Rr) (M1 : Mm) (H1 : Heap) (locs1 : List Loc), Q2 r M1 → Wo G dC dI cA ad A M1 s.heap H1 locs1 → W p l e R s m args below meth c H1 locs1 0 0 Z (F0 m (pc + 3) ls ((rV r).toList ++ rest))) : W p l e R s m args below meth c H locs 0 0 Z (F0 m pc ls st0) := by
  intro T hT X
  obtain ⟨v, st₀, t, T', L, h0, X', hL, e1, e2, ⟨⟨r, M1, hv, hq, hP, hK, hD⟩, hz, hk⟩, stp⟩ := hr T hT X
  have hv2 : v = rV r := by injection hv
  subst hv2
  rw [h0] at hz hk
  obtain ⟨t2, a1, b1⟩ := kk r M1 T'.heap (locs ++ L) hq ⟨by rw [e1]; exact hP, hD.weaken (fun k q _ h => hA _ h), ⟨Nat.le_trans hS.1 (by rw [e1]; exact hz), fun q h1 h2 => by rw [e1, hk q (Nat.lt_of_lt_of_le h1 hS.1) (fun z => h2 (hA q z))]; exact hS.2.1 q h1 h2, fun q hq => by
      rcases List.mem_append.mp hq with h | h
      · exact hS.2.2 q h
      · exact hA _ (hL q h)⟩⟩ T' rfl X'
  exact ⟨t2, stp t2 a1, b1⟩
theorem aw_in {A : Nat → Prop} {ws : va_W} {H0 H : Heap} {locs : List Loc} (hD : va_D A ws) (hS : va_S A H0 H locs) (hA : ∀ q, H0.size ≤ q → A q) : ∀ q, va_A ws H.size q → A q := by
  intro q h
  rcases h with ⟨k, e, h⟩ | h
  · exact hD.2 k (q, e) h
  · exact hA q (Nat.le_trans hS.1 h)
theorem pp_here {p : Program} {s U : State} {m : MethodId} {args : Array Value} {meth : Method} {c : Code} {dC : Nat → ClassId} {dI : Nat → Nat → Nat} {cA : Nat → ClassId} {ad : Nat → Nat} {A : Nat → Prop} {H : Heap} {locs : List Loc} (hC : Cx mi p s m args meth c dC dI cA A) (hW : Wo G dC dI cA ad A M s.heap H locs) (hU : U.heap = H) (hv : s.WarmedH U.vm) {av : List Value} : va_Pc av (PP G dC dI cA ad M H.size) av.toArray U :=
  ⟨rfl, by rw [hU], by rw [hU]; exact hW.1, va_K.moved hv.alike hC.2.2.2.2.2.2.2.2, hW.2.1.weaken (fun _ _ _ _ => trivial)⟩
/-- an instance method -/
theorem g_callV {idx ci h : Nat} {ks : List Nat} (n na : Nat) (hn : pc + 3 = n) (hl : LkV (mNm mi).cls idx mi2 na ci) (hg : G[h]? = some (.inr (ci, ks))) (hd : decode (mBy mi) pc = .ok (.invokevirtual idx, 3)) (hR : Nat.ble (mFr mi2 + 1) (mFr mi) = true ∧ Nat.ble (8 + (mMx mi2 + 11) + mLo mi2) (mLo mi) = true) (ok : Ok G l mi2 (.ref h :: As) M Q2) (hs : stk = As.reverse ++ .ref h :: st) (ha : As.length = na) (hw : Nat.ble ((st.map fun v => v.category).sum) 8 = true) (kk : ∀ (r : Rr) (M1 : Mm), Q2 r M1 → Go G l mi n lv ((rV r).toList ++ st) M1 Q) : Go G l mi pc lv stk M Q := by
  intro p e s m args below meth c dC dI cA ad A H locs ls hC hW hL
  subst hn
  subst hs
  obtain ⟨⟨l1, l2, l3, l4⟩, l5, l6, l7, T, N, l8⟩ := hl
  have hts := hC.2.2.2.2.2.1
  refine go_aux (Q2 := Q2) (rest := st.map (tr ad)) (va_runV (As := As.map (tr ad)) (b := ad h) (C := (mNm mi2).cls) (Ts := wTb) (n := na) (ws := mWs mi2) (rm := mRm mi2) ⟨hC.1, hC.2.1, hC.2.2.2.1, hC.2.2.2.2.1, hts⟩ (ok dC dI cA ad H.size) ⟨⟨rfl, rfl, Nat.le_of_ble_eq_true hR.1, Nat.le_of_ble_eq_true hR.2, ?_, List.mem_cons_self, hts _ l1, hts _ l2, l3, desc_n l4, hts _ l5⟩, hts _ l6, hts _ l7⟩ ⟨pp_blind, va_recv hC.2.2.2.2.2.2.2.2 hW.1 l8 (wW_at hg), fun U hU hv => ?_⟩ rfl (by rw [List.length_map]; exact ha) hL.1 (by simp [tr]) (lv_room (by rw [tr_sum]; exact Nat.le_of_ble_eq_true hw)) hd ⟨Nat.zero_le _, Nat.zero_le _⟩) hW.2.2 (aw_in hW.2.1 hW.2.2 hC.2.2.2.2.2.2.2.1) (fun r M1 H1 locs1 hq hW1 => ?_)
  · intro w hw a' U hv
    rcases List.mem_cons.mp hw with rfl | hw
    · exact wT_warm hts _ l1 a' U hv
    · exact wT_warm hts _ hw a' U hv
  · have := pp_here (av := (Value.ref h :: As).map (tr ad)) hC hW hU hv
    exact this
  · rw [rV_tr]
    exact kk r M1 hq p e s m args below meth c dC dI cA ad A H1 locs1 ls hC hW1 hL
/-- a static method -/
theorem g_callS {idx : Nat} (n na : Nat) (hn : pc + 3 = n) (hl : LkS (mNm mi).cls idx mi2 na) (hd : decode (mBy mi) pc = .ok (.invokestatic idx, 3)) (hR : Nat.ble (mFr mi2 + 1) (mFr mi) = true ∧ Nat.ble (8 + (mMx mi2 + 11) + mLo mi2) (mLo mi) = true) (ok : Ok G l mi2 As M Q2) (hs : stk = As.reverse ++ st) (ha : As.length = na) (hw : Nat.ble ((st.map fun v => v.category).sum) 8 = true) (kk : ∀ (r : Rr) (M1 : Mm), Q2 r M1 → Go G l mi n lv ((rV r).toList ++ st) M1 Q) : Go G l mi pc lv stk M Q := by
  intro p e s m args below meth c dC dI cA ad A H locs ls hC hW hL
  subst hn
  subst hs
  obtain ⟨⟨l1, l2, l3, l4⟩, l5, l6⟩ := hl
  have hts := hC.2.2.2.2.2.1
  refine go_aux (Q2 := Q2) (rest := st.map (tr ad)) (va_runS (As := As.map (tr ad)) (Ts := wTb) (n := na) (ws := mWs mi2) (rm := mRm mi2) ⟨hC.1, hC.2.1, hC.2.2.2.1, hC.2.2.2.2.1, hts⟩ (ok dC dI cA ad H.size) ⟨⟨rfl, rfl, Nat.le_of_ble_eq_true hR.1, Nat.le_of_ble_eq_true hR.2, ?_, List.mem_cons_self, hts _ l1, hts _ l2, l3, desc_n l4, hts _ l5⟩, hts _ l6⟩ ⟨pp_blind, fun U hU hv => ?_⟩ rfl (by rw [List.length_map]; exact ha) hL.1 (by simp [tr]) (lv_room (by rw [tr_sum]; exact Nat.le_of_ble_eq_true hw)) hd ⟨Nat.zero_le _, Nat.zero_le _⟩) hW.2.2 (aw_in hW.2.1 hW.2.2 hC.2.2.2.2.2.2.2.1) (fun r M1 H1 locs1 hq hW1 => ?_)
  · intro w hw a' U hv
    rcases List.mem_cons.mp hw with rfl | hw
    · exact wT_warm hts _ l1 a' U hv
    · exact wT_warm hts _ hw a' U hv
  · exact pp_here (av := As.map (tr ad)) hC hW hU hv
  · rw [rV_tr]
    exact kk r M1 hq p e s m args below meth c dC dI cA ad A H1 locs1 ls hC hW1 hL
/-- a nest mate's static method -/
theorem g_callN {idx : Nat} {host : String} (n na : Nat) (hn : pc + 3 = n) (hl : LkN (mNm mi).cls idx mi2 na host) (hd : decode (mBy mi) pc = .ok (.invokestatic idx, 3)) (hR : Nat.ble (mFr mi2 + 1) (mFr mi) = true ∧ Nat.ble (8 + (mMx mi2 + 11) + mLo mi2) (mLo mi) = true) (ok : Ok G l mi2 As M Q2) (hs : stk = As.reverse ++ st) (ha : As.length = na) (hw : Nat.ble ((st.map fun v => v.category).sum) 8 = true) (kk : ∀ (r : Rr) (M1 : Mm), Q2 r M1 → Go G l mi n lv ((rV r).toList ++ st) M1 Q) : Go G l mi pc lv stk M Q := by
  intro p e s m args below meth c dC dI cA ad A H locs ls hC hW hL
  subst hn
  subst hs
  obtain ⟨⟨l1, l2, l3, l4⟩, l5, l6⟩ := hl
  have hts := hC.2.2.2.2.2.1
  refine go_aux (Q2 := Q2) (rest := st.map (tr ad)) (va_runSN (As := As.map (tr ad)) (Ts := wTb) (n := na) (ws := mWs mi2) (rm := mRm mi2) ⟨hC.1, hC.2.1, hC.2.2.2.1, hC.2.2.2.2.1, hts⟩ (ok dC dI cA ad H.size) ⟨⟨⟨rfl, rfl, Nat.le_of_ble_eq_true hR.1, Nat.le_of_ble_eq_true hR.2, ?_, List.mem_cons_self⟩, hts _ l1, hts _ l2, l3, desc_n l4, hts _ l5⟩, hts _ l6, trivial⟩ ⟨pp_blind, fun U hU hv => ?_⟩ rfl (by rw [List.length_map]; exact ha) hL.1 (by simp [tr]) (lv_room (by rw [tr_sum]; exact Nat.le_of_ble_eq_true hw)) hd ⟨Nat.zero_le _, Nat.zero_le _⟩) hW.2.2 (aw_in hW.2.1 hW.2.2 hC.2.2.2.2.2.2.2.1) (fun r M1 H1 locs1 hq hW1 => ?_)
  · intro w hw a' U hv
    rcases List.mem_cons.mp hw with rfl | hw
    · exact wT_warm hts _ l1 a' U hv
    · exact wT_warm hts _ hw a' U hv
  · exact pp_here (av := As.map (tr ad)) hC hW hU hv
  · rw [rV_tr]
    exact kk r M1 hq p e s m args below meth c dC dI cA ad A H1 locs1 ls hC hW1 hL
/-- an inherited or overriding method -/
def LkU (own : String) (idx : Nat) (mi2 : MI) (x : MethodName) (C owner : String) (n ci : Nat) : Prop := Cond.code (mNm mi2) (mBy mi2) (mMx mi2) (mRt mi2) ∈ wTb ∧ Cond.initialized (mNm mi2).cls ∈ wTb ∧ (owner ≠ "java/lang/invoke/MethodHandle" ∧ owner ≠ "java/lang/invoke/VarHandle") ∧ (parseMethodDescriptor x.desc).map (fun d => d.parameters.length) = some n ∧ Cond.methodLink own idx x ∈ wTb ∧ Cond.sameMethod x.cls owner x.name x.desc ∈ wTb ∧ Cond.declares ⟨owner, x.name, x.desc⟩ ∈ wTb ∧ Cond.selects C x (mNm mi2) ∈ wTb ∧ Cond.instanceMethod (mNm mi2) ∈ wTb ∧ ∃ (T : u_T) (N : Nat), vwCl[ci]? = some (C, T, N)
theorem g_callU {idx ci h : Nat} {ks : List Nat} {x : MethodName} {C owner : String} (n na : Nat) (hn : pc + 3 = n) (hl : LkU (mNm mi).cls idx mi2 x C owner na ci) (hg : G[h]? = some (.inr (ci, ks))) (hd : decode (mBy mi) pc = .ok (.invokevirtual idx, 3)) (hR : Nat.ble (mFr mi2 + 1) (mFr mi) = true ∧ Nat.ble (8 + (mMx mi2 + 11) + mLo mi2) (mLo mi) = true) (ok : Ok G l mi2 (.ref h :: As) M Q2) (hs : stk = As.reverse ++ .ref h :: st) (ha : As.length = na) (hw : Nat.ble ((st.map fun v => v.category).sum) 8 = true) (kk : ∀ (r : Rr) (M1 : Mm), Q2 r M1 → Go G l mi n lv ((rV r).toList ++ st) M1 Q) : Go G l mi pc lv stk M Q := by
  intro p e s m args below meth c dC dI cA ad A H locs ls hC hW hL
  subst hn
  subst hs
  obtain ⟨l1, l2, l3, l4, l5, l6, l7, l8, l9, T, N, l10⟩ := hl
  have hts := hC.2.2.2.2.2.1
  refine go_aux (Q2 := Q2) (rest := st.map (tr ad)) (va_runU (x := x) (owner := owner) (As := As.map (tr ad)) (b := ad h) (C := C) (Ts := wTb) (n := na) (ws := mWs mi2) (rm := mRm mi2) ⟨hC.1, hC.2.1, hC.2.2.2.1, hC.2.2.2.2.1, hts⟩ (ok dC dI cA ad H.size) ⟨⟨rfl, rfl, Nat.le_of_ble_eq_true hR.1, Nat.le_of_ble_eq_true hR.2, ?_, List.mem_cons_self⟩, hts _ l1, hts _ l2, l3, desc_n l4, hts _ l5, hts _ l6, va_Decl.abs (va_Nw.of rfl (hts _ l7)), hts _ l8, hts _ l9⟩ ⟨pp_blind, va_recv hC.2.2.2.2.2.2.2.2 hW.1 l10 (wW_at hg), fun U hU hv => ?_⟩ rfl (by rw [List.length_map]; exact ha) hL.1 (by simp [tr]) (lv_room (by rw [tr_sum]; exact Nat.le_of_ble_eq_true hw)) hd ⟨Nat.zero_le _, Nat.zero_le _⟩) hW.2.2 (aw_in hW.2.1 hW.2.2 hC.2.2.2.2.2.2.2.1) (fun r M1 H1 locs1 hq hW1 => ?_)
  · intro w hw a' U hv
    rcases List.mem_cons.mp hw with rfl | hw
    · exact wT_warm hts _ l1 a' U hv
    · exact wT_warm hts _ hw a' U hv
  · have := pp_here (av := (Value.ref h :: As).map (tr ad)) hC hW hU hv
    exact this
  · rw [rV_tr]
    exact kk r M1 hq p e s m args below meth c dC dI cA ad A H1 locs1 ls hC hW1 hL
/-- answers that are known -/
abbrev Oi (G : Sh) (l : Launch) (mi : MI) (av : List Value) (M : Mm) (v : Int32) (M' : Mm) : Prop := Ok G l mi av M (fun r M1 => r = some (.inl v) ∧ M1 = M')
abbrev Ov (G : Sh) (l : Launch) (mi : MI) (av : List Value) (M : Mm) (M' : Mm) : Prop := Ok G l mi av M (fun r M1 => r = none ∧ M1 = M')
abbrev Ol (G : Sh) (l : Launch) (mi : MI) (av : List Value) (M : Mm) (v : Int64) (M' : Mm) : Prop := Ok G l mi av M (fun r M1 => r = some (.inr v) ∧ M1 = M')
theorem g_callVi {idx ci h : Nat} {ks : List Nat} {v : Int32} {M' : Mm} (n na : Nat) (hn : pc + 3 = n) (hl : LkV (mNm mi).cls idx mi2 na ci) (hg : G[h]? = some (.inr (ci, ks))) (hd : decode (mBy mi) pc = .ok (.invokevirtual idx, 3)) (hR : Nat.ble (mFr mi2 + 1) (mFr mi) = true ∧ Nat.ble (8 + (mMx mi2 + 11) + mLo mi2) (mLo mi) = true) (ok : Oi G l mi2 (.ref h :: As) M v M') (hs : stk = As.reverse ++ .ref h :: st) (ha : As.length = na) (hw : Nat.ble ((st.map fun v => v.category).sum) 8 = true) (kk : Go G l mi n lv (.int v :: st) M' Q) : Go G l mi pc lv stk M Q :=
  g_callV n na hn hl hg hd hR ok hs ha hw (fun r M1 h => by obtain ⟨rfl, rfl⟩ := h; exact kk)
theorem g_callVv {idx ci h : Nat} {ks : List Nat} {M' : Mm} (n na : Nat) (hn : pc + 3 = n) (hl : LkV (mNm mi).cls idx mi2 na ci) (hg : G[h]? = some (.inr (ci, ks))) (hd : decode (mBy mi) pc = .ok (.invokevirtual idx, 3)) (hR : Nat.ble (mFr mi2 + 1) (mFr mi) = true ∧ Nat.ble (8 + (mMx mi2 + 11) + mLo mi2) (mLo mi) = true) (ok : Ov G l mi2 (.ref h :: As) M M') (hs : stk = As.reverse ++ .ref h :: st) (ha : As.length = na) (hw : Nat.ble ((st.map fun v => v.category).sum) 8 = true) (kk : Go G l mi n lv st M' Q) : Go G l mi pc lv stk M Q :=
  g_callV n na hn hl hg hd hR ok hs ha hw (fun r M1 h => by obtain ⟨rfl, rfl⟩ := h; exact kk)
theorem g_callVl {idx ci h : Nat} {ks : List Nat} {v : Int64} {M' : Mm} (n na : Nat) (hn : pc + 3 = n) (hl : LkV (mNm mi).cls idx mi2 na ci) (hg : G[h]? = some (.inr (ci, ks))) (hd : decode (mBy mi) pc = .ok (.invokevirtual idx, 3)) (hR : Nat.ble (mFr mi2 + 1) (mFr mi) = true ∧ Nat.ble (8 + (mMx mi2 + 11) + mLo mi2) (mLo mi) = true) (ok : Ol G l mi2 (.ref h :: As) M v M') (hs : stk = As.reverse ++ .ref h :: st) (ha : As.length = na) (hw : Nat.ble ((st.map fun v => v.category).sum) 8 = true) (kk : Go G l mi n lv (.long v :: st) M' Q) : Go G l mi pc lv stk M Q :=
  g_callV n na hn hl hg hd hR ok hs ha hw (fun r M1 h => by obtain ⟨rfl, rfl⟩ := h; exact kk)
theorem g_callSi {idx : Nat} {v : Int32} {M' : Mm} (n na : Nat) (hn : pc + 3 = n) (hl : LkS (mNm mi).cls idx mi2 na) (hd : decode (mBy mi) pc = .ok (.invokestatic idx, 3)) (hR : Nat.ble (mFr mi2 + 1) (mFr mi) = true ∧ Nat.ble (8 + (mMx mi2 + 11) + mLo mi2) (mLo mi) = true) (ok : Oi G l mi2 As M v M') (hs : stk = As.reverse ++ st) (ha : As.length = na) (hw : Nat.ble ((st.map fun v => v.category).sum) 8 = true) (kk : Go G l mi n lv (.int v :: st) M' Q) : Go G l mi pc lv stk M Q :=
  g_callS n na hn hl hd hR ok hs ha hw (fun r M1 h => by obtain ⟨rfl, rfl⟩ := h; exact kk)
theorem g_callNi {idx : Nat} {host : String} {v : Int32} {M' : Mm} (n na : Nat) (hn : pc + 3 = n) (hl : LkN (mNm mi).cls idx mi2 na host) (hd : decode (mBy mi) pc = .ok (.invokestatic idx, 3)) (hR : Nat.ble (mFr mi2 + 1) (mFr mi) = true ∧ Nat.ble (8 + (mMx mi2 + 11) + mLo mi2) (mLo mi) = true) (ok : Oi G l mi2 As M v M') (hs : stk = As.reverse ++ st) (ha : As.length = na) (hw : Nat.ble ((st.map fun v => v.category).sum) 8 = true) (kk : Go G l mi n lv (.int v :: st) M' Q) : Go G l mi pc lv stk M Q :=
  g_callN n na hn hl hd hR ok hs ha hw (fun r M1 h => by obtain ⟨rfl, rfl⟩ := h; exact kk)
/-- Math.max, min, abs -/
theorem g_mmax {idx : Nat} {x y : Int32} (n : Nat) (hn : pc + 3 = n) (hl : Cond.methodLink (mNm mi).cls idx Lib.Math.max.name ∈ wTb) (hd : decode (mBy mi) pc = .ok (.invokestatic idx, 3)) (h1 : Cond.static Lib.Math.max.name ∈ wTb) (h2 : Cond.initialized "java/lang/Math" ∈ wTb) (h3 : Cond.code Lib.Math.max.name Lib.Math.max.code 2 (some .int) ∈ wTb) (hR : Nat.ble 1 (mFr mi) = true ∧ Nat.ble 21 (mLo mi) = true) (hw : Nat.ble ((st.map fun v => v.category).sum) 8 = true) (kk : Go G l mi n lv (.int (if x < y then y else x) :: st) M Q) : Go G l mi pc lv (.int y :: .int x :: st) M Q := by
  intro p e s m args below meth c dC dI cA ad A H locs ls hC hW hL
  subst hn
  have hts := hC.2.2.2.2.2.1
  have a1 := Nat.le_of_ble_eq_true hR.2
  have a2 := Nat.le_of_ble_eq_true hw
  exact va_mmax hC.1 hC.2.1 (by rw [hC.2.2.2.1, hL.1]) hC.2.2.2.2.1 (hts _ hl) (hts _ h1) (hts _ h2) (hts _ h3) (Nat.le_of_ble_eq_true hR.1) (by rw [tr_sum]; show _ ≤ mLo mi; omega) (Nat.zero_le _) (Nat.zero_le _) hd (kk p e s m args below meth c dC dI cA ad A H locs ls hC hW hL)
theorem g_mmin {idx : Nat} {x y : Int32} (n : Nat) (hn : pc + 3 = n) (hl : Cond.methodLink (mNm mi).cls idx Lib.Math.min.name ∈ wTb) (hd : decode (mBy mi) pc = .ok (.invokestatic idx, 3)) (h1 : Cond.static Lib.Math.min.name ∈ wTb) (h2 : Cond.initialized "java/lang/Math" ∈ wTb) (h3 : Cond.code Lib.Math.min.name Lib.Math.min.code 2 (some .int) ∈ wTb) (hR : Nat.ble 1 (mFr mi) = true ∧ Nat.ble 21 (mLo mi) = true) (hw : Nat.ble ((st.map fun v => v.category).sum) 8 = true) (kk : Go G l mi n lv (.int (if y < x then y else x) :: st) M Q) : Go G l mi pc lv (.int y :: .int x :: st) M Q := by
  intro p e s m args below meth c dC dI cA ad A H locs ls hC hW hL
  subst hn
  have hts := hC.2.2.2.2.2.1
  have a1 := Nat.le_of_ble_eq_true hR.2
  have a2 := Nat.le_of_ble_eq_true hw
  exact va_mmin hC.1 hC.2.1 (by rw [hC.2.2.2.1, hL.1]) hC.2.2.2.2.1 (hts _ hl) (hts _ h1) (hts _ h2) (hts _ h3) (Nat.le_of_ble_eq_true hR.1) (by rw [tr_sum]; show _ ≤ mLo mi; omega) (Nat.zero_le _) (Nat.zero_le _) hd (kk p e s m args below meth c dC dI cA ad A H locs ls hC hW hL)
theorem g_mabs {idx : Nat} {x : Int32} (n : Nat) (hn : pc + 3 = n) (hl : Cond.methodLink (mNm mi).cls idx Lib.Math.abs.name ∈ wTb) (hd : decode (mBy mi) pc = .ok (.invokestatic idx, 3)) (h1 : Cond.static Lib.Math.abs.name ∈ wTb) (h2 : Cond.initialized "java/lang/Math" ∈ wTb) (h3 : Cond.code Lib.Math.abs.name Lib.Math.abs.code 1 (some .int) ∈ wTb) (hR : Nat.ble 1 (mFr mi) = true ∧ Nat.ble 21 (mLo mi) = true) (hw : Nat.ble ((st.map fun v => v.category).sum) 8 = true) (kk : Go G l mi n lv (.int (if 0 ≤ x then x else 0 - x) :: st) M Q) : Go G l mi pc lv (.int x :: st) M Q := by
  intro p e s m args below meth c dC dI cA ad A H locs ls hC hW hL
  subst hn
  have hts := hC.2.2.2.2.2.1
  have a1 := Nat.le_of_ble_eq_true hR.2
  have a2 := Nat.le_of_ble_eq_true hw
  exact va_mabs hC.1 hC.2.1 (by rw [hC.2.2.2.1, hL.1]) hC.2.2.2.2.1 (hts _ hl) (hts _ h1) (hts _ h2) (hts _ h3) (Nat.le_of_ble_eq_true hR.1) (by rw [tr_sum]; show _ ≤ mLo mi; omega) (Nat.zero_le _) (Nat.zero_le _) hd (kk p e s m args below meth c dC dI cA ad A H locs ls hC hW hL)
end GC
