/-! BASE: a method's walk said of handles: a world of fixed cells whose ints and longs alone change -/
abbrev Mm : Type := (Nat → Nat → Int32) × (Nat → Nat → Int64)
abbrev Ce : Type := (Nat × Nat) ⊕ (Nat × List Nat)
abbrev Sh : Type := List Ce
abbrev Rr : Type := Option (Int32 ⊕ Int64)
/-- a row of ints anew -/
def setA (M : Mm) (h : Nat) (f : Nat → Int32) : Mm := (fun h' => if h' = h then f else M.1 h', M.2)
def setL (M : Mm) (h k : Nat) (v : Int64) : Mm := (M.1, fun h' k' => if h' = h ∧ k' = k then v else M.2 h' k')
def tr (ad : Nat → Nat) (v : Value) : Value := match v with
  | .ref h => .ref (ad h)
  | v => v
def rV (r : Rr) : Option Value := match r with
  | none => none
  | some (.inl x) => some (.int x)
  | some (.inr x) => some (.long x)
def slV (ad : Nat → Nat) (M : Mm) (h k kd : Nat) : Value := match kd with
  | 0 => .int (M.1 h k)
  | 1 => .long (M.2 h k)
  | h' + 2 => .ref (ad h')
def cW (cA : Nat → ClassId) (ad : Nat → Nat) (M : Mm) (h : Nat) (g : Ce) : va_E := match g with
  | .inl (t, n) => .inl (cA t, n, .inl (M.1 h))
  | .inr (ci, ks) => .inr (ci, ks.mapIdx (fun k kd => slV ad M h k kd))
def wW (G : Sh) (cA : Nat → ClassId) (ad : Nat → Nat) (M : Mm) : va_W := G.mapIdx (fun h g => (ad h, cW cA ad M h g))
def tysA (cA : Nat → ClassId) : List (ClassId × FieldType) := [(cA 0, .int), (cA 1, .boolean), (cA 2, .byte)]
theorem tr_cat (ad : Nat → Nat) (v : Value) : (tr ad v).category = v.category := by cases v <;> rfl
theorem wW_at {G : Sh} {cA : Nat → ClassId} {ad : Nat → Nat} {M : Mm} {h : Nat} {g : Ce} (hg : G[h]? = some g) : (wW G cA ad M)[h]? = some (ad h, cW cA ad M h g) := by
  unfold wW
  rw [List.getElem?_mapIdx, hg]
  rfl
theorem cW_setA_ne {cA : Nat → ClassId} {ad : Nat → Nat} {M : Mm} {h h' : Nat} {f : Nat → Int32} {g : Ce} (hn : h' ≠ h) : cW cA ad (setA M h f) h' g = cW cA ad M h' g := by
  rcases g with ⟨t, n⟩ | ⟨ci, ks⟩
  · simp [cW, setA, hn]
  · simp only [cW]
    congr 3
    funext k kd
    unfold slV
    split <;> simp [setA, hn]
theorem cW_setL_ne {cA : Nat → ClassId} {ad : Nat → Nat} {M : Mm} {h k h' : Nat} {v : Int64} {g : Ce} (hn : h' ≠ h) : cW cA ad (setL M h k v) h' g = cW cA ad M h' g := by
  rcases g with ⟨t, n⟩ | ⟨ci, ks⟩
  · simp [cW, setL]
  · simp only [cW]
    congr 3
    funext k' kd
    unfold slV
    split <;> simp [setL, hn]
theorem wW_set {G : Sh} {cA : Nat → ClassId} {ad : Nat → Nat} {M M' : Mm} {h : Nat} {g : Ce} {en : va_E} (hg : G[h]? = some g) (hn : ∀ h' g', h' ≠ h → cW cA ad M' h' g' = cW cA ad M h' g') (he : en = cW cA ad M' h g) : (wW G cA ad M).set h (ad h, en) = wW G cA ad M' := by
  subst he
  apply List.ext_getElem?
  intro i
  have hl : h < (wW G cA ad M).length := by
    have := (List.getElem?_eq_some_iff.mp hg).1
    simpa [wW] using this
  by_cases hi : i = h
  · subst hi
    rw [List.getElem?_set_self hl, wW_at hg]
  · rw [List.getElem?_set_ne (Ne.symm hi)]
    unfold wW
    rw [List.getElem?_mapIdx, List.getElem?_mapIdx]
    cases hgi : G[i]? with
    | none => rfl
    | some g' => simp [hn i g' hi]
theorem fs_at {ks : List Nat} {ad : Nat → Nat} {M : Mm} {h k kd : Nat} (hk : ks[k]? = some kd) : (ks.mapIdx (fun k kd => slV ad M h k kd))[k]? = some (slV ad M h k kd) := by
  rw [List.getElem?_mapIdx, hk]
  rfl
theorem fs_setA {ks : List Nat} {ad : Nat → Nat} {M : Mm} {h k : Nat} {v : Int32} (hk : ks[k]? = some 0) : (ks.mapIdx (fun k kd => slV ad M h k kd)).set k (.int v) = ks.mapIdx (fun j kd => slV ad (setA M h (upd (M.1 h) k v)) h j kd) := by
  apply List.ext_getElem?
  intro i
  have hl : k < (ks.mapIdx (fun k kd => slV ad M h k kd)).length := by
    have := (List.getElem?_eq_some_iff.mp hk).1
    simpa using this
  by_cases hi : i = k
  · subst hi
    rw [List.getElem?_set_self hl, List.getElem?_mapIdx, hk]
    simp [slV, setA, upd]
  · rw [List.getElem?_set_ne (Ne.symm hi), List.getElem?_mapIdx, List.getElem?_mapIdx]
    cases ks[i]? with
    | none => rfl
    | some kd =>
      simp only [Option.map_some]
      congr 1
      unfold slV
      split <;> simp [setA, upd, hi]
theorem fs_setL {ks : List Nat} {ad : Nat → Nat} {M : Mm} {h k : Nat} {v : Int64} (hk : ks[k]? = some 1) : (ks.mapIdx (fun k kd => slV ad M h k kd)).set k (.long v) = ks.mapIdx (fun j kd => slV ad (setL M h k v) h j kd) := by
  apply List.ext_getElem?
  intro i
  have hl : k < (ks.mapIdx (fun k kd => slV ad M h k kd)).length := by
    have := (List.getElem?_eq_some_iff.mp hk).1
    simpa using this
  by_cases hi : i = k
  · subst hi
    rw [List.getElem?_set_self hl, List.getElem?_mapIdx, hk]
    simp [slV, setL]
  · rw [List.getElem?_set_ne (Ne.symm hi), List.getElem?_mapIdx, List.getElem?_mapIdx]
    cases ks[i]? with
    | none => rfl
    | some kd =>
      simp only [Option.map_some]
      congr 1
      unfold slV
      split <;> simp [setL, hi]
/-! locals: a value a slot; null where nothing is known -/
def asl (ad : Nat → Nat) (lv : List Value) : List (Nat × Value) := lv.zipIdx.filterMap (fun q => if q.1 = .null then none else some (q.2, tr ad q.1))
theorem asl_mem {ad : Nat → Nat} {lv : List Value} {q : Nat × Value} : q ∈ asl ad lv ↔ ∃ v, lv[q.1]? = some v ∧ v ≠ .null ∧ q.2 = tr ad v := by
  unfold asl
  rw [List.mem_filterMap]
  constructor
  · rintro ⟨⟨v, i⟩, h1, h2⟩
    rw [List.mem_zipIdx_iff_getElem?] at h1
    by_cases hv : v = .null
    · simp [hv] at h2
    · simp only [hv, if_false, Option.some.injEq] at h2
      subst h2
      exact ⟨v, h1, hv, rfl⟩
  · rintro ⟨v, h1, h2, h3⟩
    refine ⟨(v, q.1), ?_, ?_⟩
    · rw [List.mem_zipIdx_iff_getElem?]; exact h1
    · simp only [h2, if_false, h3.symm]
theorem lv_get {ad : Nat → Nat} {ls : Array Slot} {nL : Nat} {lv : List Value} {i : Nat} {v : Value} (h : lv_has ls nL (asl ad lv)) (hi : lv[i]? = some v) (hn : v ≠ .null) : ls[i]? = some (.val (tr ad v)) := h.2.2 (i, tr ad v) (asl_mem.mpr ⟨v, hi, hn, rfl⟩)
theorem lv_put1 {ad : Nat → Nat} {ls : Array Slot} {nL : Nat} {lv : List Value} {i : Nat} {v : Value} (hp : ∀ u, 0 < i → lv[i - 1]? = some u → u.category = 1) (h : lv_has ls nL ((i, tr ad v) :: (asl ad lv).filter (fun q => !(q.1 == i) && !(q.1 + 1 == i && q.2.category == 2)))) : lv_has ls nL (asl ad (lv.set i v)) := by
  refine ⟨h.1, h.2.1, fun q hq => h.2.2 q ?_⟩
  obtain ⟨u, h1, h2, h3⟩ := asl_mem.mp hq
  obtain ⟨j, w⟩ := q
  dsimp only at h1 h3
  subst h3
  by_cases hj : j = i
  · subst hj
    have hl : j < lv.length := by simpa using (List.getElem?_eq_some_iff.mp h1).1
    rw [List.getElem?_set_self hl] at h1
    cases h1
    exact List.mem_cons_self
  · rw [List.getElem?_set_ne (Ne.symm hj)] at h1
    refine List.mem_cons_of_mem _ (List.mem_filter.mpr ⟨asl_mem.mpr ⟨u, h1, h2, rfl⟩, ?_⟩)
    simp only [Bool.and_eq_true, Bool.not_eq_true', beq_eq_false_iff_ne, Bool.and_eq_false_iff]
    refine ⟨hj, ?_⟩
    by_cases hk : j + 1 = i
    · right
      rw [tr_cat, hp u (by omega) (by rw [← hk]; exact h1)]
      decide
    · left; exact hk
theorem lv_put2 {ad : Nat → Nat} {ls : Array Slot} {nL : Nat} {lv : List Value} {i : Nat} {v : Value} (hp : ∀ u, 0 < i → lv[i - 1]? = some u → u.category = 1) (h : lv_has ls nL ((i, tr ad v) :: (asl ad lv).filter (fun q => !(q.1 == i) && (!(q.1 == i + 1) && !(q.1 + 1 == i && q.2.category == 2))))) : lv_has ls nL (asl ad ((lv.set i v).set (i + 1) .null)) := by
  refine ⟨h.1, h.2.1, fun q hq => h.2.2 q ?_⟩
  obtain ⟨u, h1, h2, h3⟩ := asl_mem.mp hq
  obtain ⟨j, w⟩ := q
  dsimp only at h1 h3
  subst h3
  by_cases hj2 : j = i + 1
  · subst hj2
    rw [List.getElem?_set] at h1
    split at h1
    · split at h1
      · cases h1; exact absurd rfl h2
      · cases h1
    · omega
  · rw [List.getElem?_set_ne (Ne.symm hj2)] at h1
    by_cases hj : j = i
    · subst hj
      have hl : j < lv.length := by simpa using (List.getElem?_eq_some_iff.mp h1).1
      rw [List.getElem?_set_self hl] at h1
      cases h1
      exact List.mem_cons_self
    · rw [List.getElem?_set_ne (Ne.symm hj)] at h1
      refine List.mem_cons_of_mem _ (List.mem_filter.mpr ⟨asl_mem.mpr ⟨u, h1, h2, rfl⟩, ?_⟩)
      simp only [Bool.and_eq_true, Bool.not_eq_true', beq_eq_false_iff_ne, Bool.and_eq_false_iff]
      refine ⟨hj, hj2, ?_⟩
      by_cases hk : j + 1 = i
      · right
        rw [tr_cat, hp u (by omega) (by rw [← hk]; exact h1)]
        decide
      · left; exact hk
/-- the locals at a method's entry -/
def entL : List Value → List Value
  | [] => []
  | v :: vs => if v.category = 2 then v :: .null :: entL vs else v :: entL vs
def lv0 (av : List Value) (n : Nat) : List Value := entL av ++ List.replicate (n - (entL av).length) .null
theorem ent_args (ad : Nat → Nat) : ∀ (av : List Value) (i j : Nat) (v : Value), (entL av)[j]? = some v → v ≠ .null → (i + j, tr ad v) ∈ lv_args i (av.map (tr ad))
  | [], i, j, v, h, _ => by simp [entL] at h
  | a :: av, i, j, v, h, hn => by
    simp only [List.map_cons, lv_args, tr_cat]
    unfold entL at h
    by_cases hc : a.category = 2
    · rw [if_pos hc] at h
      rw [if_pos hc]
      match j, h with
      | 0, h =>
        simp only [List.getElem?_cons_zero, Option.some.injEq] at h
        subst h
        exact List.mem_cons_self
      | 1, h =>
        simp only [List.getElem?_cons_succ, List.getElem?_cons_zero, Option.some.injEq] at h
        exact absurd h.symm hn
      | j + 2, h =>
        simp only [List.getElem?_cons_succ] at h
        have := ent_args ad av (i + 2) j v h hn
        rw [show i + (j + 2) = i + 2 + j by omega]
        exact List.mem_cons_of_mem _ this
    · rw [if_neg hc] at h
      rw [if_neg hc]
      match j, h with
      | 0, h =>
        simp only [List.getElem?_cons_zero, Option.some.injEq] at h
        subst h
        exact List.mem_cons_self
      | j + 1, h =>
        simp only [List.getElem?_cons_succ] at h
        have := ent_args ad av (i + 1) j v h hn
        rw [show i + (j + 1) = i + 1 + j by omega]
        exact List.mem_cons_of_mem _ this
theorem lv0_has {ad : Nat → Nat} {av : List Value} {n nL : Nat} {ls : Array Slot} (h : lv_has ls nL (lv_args 0 (av.map (tr ad)))) : lv_has ls nL (asl ad (lv0 av n)) := by
  refine ⟨h.1, h.2.1, fun q hq => h.2.2 q ?_⟩
  obtain ⟨u, h1, h2, h3⟩ := asl_mem.mp hq
  obtain ⟨j, w⟩ := q
  dsimp only at h1 h3
  subst h3
  unfold lv0 at h1
  by_cases hl : j < (entL av).length
  · rw [List.getElem?_append_left hl] at h1
    have := ent_args ad av 0 j u h1 h2
    rwa [Nat.zero_add] at this
  · rw [List.getElem?_append_right (by omega)] at h1
    rw [List.getElem?_replicate] at h1
    split at h1
    · cases h1; exact absurd rfl h2
    · cases h1
theorem entL_len (ad : Nat → Nat) : ∀ av : List Value, (lg_sl (av.map (tr ad))).length = (entL av).length
  | [] => rfl
  | a :: av => by
    have ih := entL_len ad av
    simp only [lg_sl, List.map_cons, List.flatMap_cons, List.length_append, tr_cat] at ih ⊢
    unfold entL
    by_cases hc : a.category = 2
    · simp only [hc, if_true, List.length_cons, List.length_nil]
      omega
    · simp only [hc, if_false, List.length_cons, List.length_nil]
      omega
/-! a method: its name, bytes, locals, answer, and the frames and locals' words that its calls need -/
abbrev MI : Type := MethodName × ByteArray × Nat × Option FieldType × Nat × Nat
abbrev mNm (a : MI) : MethodName := a.1
abbrev mBy (a : MI) : ByteArray := a.2.1
abbrev mMx (a : MI) : Nat := a.2.2.1
abbrev mRt (a : MI) : Option FieldType := a.2.2.2.1
abbrev mFr (a : MI) : Nat := a.2.2.2.2.1
abbrev mLo (a : MI) : Nat := a.2.2.2.2.2
def mRm (a : MI) : Room := { frames := mFr a, cells := 0, slots := 0, locals := mLo a }
def isNM (w : Cond) : Bool := match w with
  | .methodLinkNest _ _ _ _ => true
  | .declares _ => true
  | _ => false
def wTb : List Cond := lw_tbl.filter (fun w => goodWord w || isNM w)
theorem wT_of {w : Cond} (h : w ∈ wTb) : w ∈ lw_tbl := (List.mem_filter.mp h).1
theorem wT_in {w : Cond} (h : w ∈ lw_tbl) (hg : (goodWord w || isNM w) = true) : w ∈ wTb := List.mem_filter.mpr ⟨h, hg⟩
theorem wT_warm {args : Array Value} {s : State} (hts : ∀ w ∈ wTb, w.before args s = true) : ∀ w ∈ wTb, ∀ (a' : Array Value) (U : State), s.WarmedH U.vm → w.before a' U = true := by
  intro w hw a' U hW
  have h := (List.mem_filter.mp hw).2
  rw [Bool.or_eq_true] at h
  rcases h with h | h
  · exact word_at hW (good_of_word h) (hts w hw)
  · cases w with
    | methodLinkNest a i x b =>
      have h1 : va_Nw (.methodLinkNest a i x b) s := va_Nw.of rfl (hts _ hw)
      exact va_Nw.use rfl (va_Nw.warmM hW h1)
    | declares x =>
      have h1 : va_Nw (.declares x) s := va_Nw.of rfl (hts _ hw)
      exact va_Nw.use rfl (va_Nw.warmD hW h1)
    | _ => cases h
def mWs (a : MI) : List Cond := Cond.code (mNm a) (mBy a) (mMx a) (mRt a) :: wTb
/-- behind a method: its answer, the ints and longs of its world -/
def QQ (G : Sh) (dC : Nat → ClassId) (dI : Nat → Nat → Nat) (cA : Nat → ClassId) (ad : Nat → Nat) (A : Nat → Prop) (Q : Rr → Mm → Prop) : Array Value → State → Outcome → State → Prop := fun _ st oc t =>
  (∃ (r : Rr) (M' : Mm), oc = .returned (rV r) ∧ Q r M' ∧ va_P (dC, dI) vwCl (wW G cA ad M') t.heap ∧ va_K (dC, dI) vwCl (tysA cA) t ∧ va_D A (wW G cA ad M')) ∧ va_F A st t
def PP (G : Sh) (dC : Nat → ClassId) (dI : Nat → Nat → Nat) (cA : Nat → ClassId) (ad : Nat → Nat) (M : Mm) (sz : Nat) : State → Prop := fun U =>
  U.heap.size = sz ∧ va_P (dC, dI) vwCl (wW G cA ad M) U.heap ∧ va_K (dC, dI) vwCl (tysA cA) U ∧ va_D (fun _ => True) (wW G cA ad M)
/-- a method's contract: from this world with these answers it ends so -/
def Ok (G : Sh) (l : Launch) (mi : MI) (av : List Value) (M : Mm) (Q : Rr → Mm → Prop) : Prop :=
  ∀ (dC : Nat → ClassId) (dI : Nat → Nat → Nat) (cA : Nat → ClassId) (ad : Nat → Nat) (sz : Nat),
    Met l (mNm mi) (mWs mi) (mRm mi) (va_Pc (av.map (tr ad)) (PP G dC dI cA ad M sz)) (QQ G dC dI cA ad (va_A (wW G cA ad M) sz) Q) 0 0 (va_A (wW G cA ad M) sz)
def Cx (mi : MI) (p : Program) (s : State) (m : MethodId) (args : Array Value) (meth : Method) (c : Code) (dC : Nat → ClassId) (dI : Nat → Nat → Nat) (cA : Nat → ClassId) (A : Nat → Prop) : Prop :=
  p.tables.exec = Jvm.exec ∧ c.code = mBy mi ∧ meth.sig.returnType = mRt mi ∧ c.maxLocals = mMx mi ∧ s.vm.findClass (mNm mi).cls = some m.cls ∧ (∀ w ∈ wTb, w.before args s = true) ∧ meth.locks = false ∧ (∀ q : Nat, s.heap.size ≤ q → A q) ∧ va_K (dC, dI) vwCl (tysA cA) s
def Wo (G : Sh) (dC : Nat → ClassId) (dI : Nat → Nat → Nat) (cA : Nat → ClassId) (ad : Nat → Nat) (A : Nat → Prop) (M : Mm) (H0 H : Heap) (locs : List Loc) : Prop :=
  va_P (dC, dI) vwCl (wW G cA ad M) H ∧ va_D A (wW G cA ad M) ∧ va_S A H0 H locs
/-- from here, with these locals, this stack, this memory, the method ends with Q -/
def Go (G : Sh) (l : Launch) (mi : MI) (pc : Nat) (lv st : List Value) (M : Mm) (Q : Rr → Mm → Prop) : Prop :=
  ∀ (p : Program) (e : Env) (s : State) (m : MethodId) (args : Array Value) (below : List Frame) (meth : Method) (c : Code) (dC : Nat → ClassId) (dI : Nat → Nat → Nat) (cA : Nat → ClassId) (ad : Nat → Nat) (A : Nat → Prop) (H : Heap) (locs : List Loc) (ls : Array Slot),
    Cx mi p s m args meth c dC dI cA A → Wo G dC dI cA ad A M s.heap H locs → lv_has ls (mMx mi) (asl ad lv) →
    W p l e (mRm mi) s m args below meth c H locs 0 0 (MQ below (QQ G dC dI cA ad A Q) args s 0 0 A) (F0 m pc ls (st.map (tr ad)))
theorem ok_of {G : Sh} {l : Launch} {mi : MI} {av : List Value} {M : Mm} {Q : Rr → Mm → Prop} {lv : List Value} (hpl : plainName (mNm mi).cls = true) (hle : Nat.ble (entL av).length (mMx mi) = true) (hlv : lv0 av (mMx mi) = lv) (k : Go G l mi 0 lv [] M Q) : Ok G l mi av M Q := by
  intro dC dI cA ad sz
  refine Met.ofW (cc := mBy mi) (maxL := mMx mi) (ret := mRt mi) (ws' := wTb) hpl rfl ?_
  intro p e s m args below meth c s₁ B hml hv
  obtain ⟨rfl, hsz, hP, hK, hD0⟩ := hv
  have hts := atoms_spec (ws := mWs mi) B.pre
  have hown : s.vm.findClass (mNm mi).cls = some m.cls := findClass_of_methodNamed B.named
  subst hsz
  have hD := hD0.self (sz := s.heap.size)
  have hl := lv_entry (av.map (tr ad)) (n := mMx mi) (by rw [entL_len]; exact Nat.le_of_ble_eq_true hle)
  rw [lg_entry_eq]
  have hl2 := lv0_has (n := mMx mi) hl
  rw [hlv] at hl2
  exact k p e s m _ below meth c dC dI cA ad _ s.heap [] _ ⟨B.exec, B.bytes, B.returns, hml, hown, fun w hw => hts w (List.mem_cons_of_mem _ hw), B.notSynchronized, fun q h => Or.inr h, hK⟩ ⟨hP, hD, va_S.rf⟩ hl2
