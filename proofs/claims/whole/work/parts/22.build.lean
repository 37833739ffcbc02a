/-! constructors: worlds that grow -/
def tId : Nat → Nat := fun x => x
theorem tr_tId (v : Value) : tr tId v = v := by cases v <;> rfl
theorem map_tId (av : List Value) : av.map (tr tId) = av := by
  rw [show tr tId = id from funext tr_tId, List.map_id]
def bRm (mi : MI) (mc ms : Nat) : Room := { frames := mFr mi, cells := mc, slots := ms, locals := mLo mi }
def QB (dC : Nat → ClassId) (dI : Nat → Nat → Nat) (cA : Nat → ClassId) (A : Nat → Prop) (Q : va_W → Prop) : Array Value → State → Outcome → State → Prop := fun _ st oc t =>
  (∃ ws : va_W, oc = .returned none ∧ Q ws ∧ va_P (dC, dI) vwCl ws t.heap ∧ va_K (dC, dI) vwCl (tysA cA) t ∧ va_D A ws) ∧ va_F A st t
def PB (dC : Nat → ClassId) (dI : Nat → Nat → Nat) (cA : Nat → ClassId) (ws : va_W) (sz : Nat) : State → Prop := fun U =>
  U.heap.size = sz ∧ va_P (dC, dI) vwCl ws U.heap ∧ va_K (dC, dI) vwCl (tysA cA) U ∧ va_D (fun _ => True) ws
/-- a constructor's contract: from this world it comes to one with Q -/
def OkB (dC : Nat → ClassId) (dI : Nat → Nat → Nat) (cA : Nat → ClassId) (l : Launch) (mi : MI) (av : List Value) (ws : va_W) (mc ms : Nat) (Q : va_W → Prop) : Prop :=
  ∀ sz : Nat, Met l (mNm mi) (mWs mi) (bRm mi mc ms) (va_Pc av (PB dC dI cA ws sz)) (QB dC dI cA (va_A ws sz) Q) mc ms (va_A ws sz)
def Gb (dC : Nat → ClassId) (dI : Nat → Nat → Nat) (cA : Nat → ClassId) (l : Launch) (mi : MI) (mc ms pc : Nat) (lv st : List Value) (ws : va_W) (cells slots : Nat) (Q : va_W → Prop) : Prop :=
  ∀ (p : Program) (e : Env) (s : State) (m : MethodId) (args : Array Value) (below : List Frame) (meth : Method) (c : Code) (A : Nat → Prop) (H : Heap) (locs : List Loc) (ls : Array Slot),
    Cx mi p s m args meth c dC dI cA A → meth.name = "<init>" → va_P (dC, dI) vwCl ws H → va_D A ws → va_S A s.heap H locs → lv_has ls (mMx mi) (asl tId lv) →
    W p l e (bRm mi mc ms) s m args below meth c H locs cells slots (MQ below (QB dC dI cA A Q) args s mc ms A) (F0 m pc ls st)
section GB
variable {dC : Nat → ClassId} {dI : Nat → Nat → Nat} {cA : Nat → ClassId} {l : Launch} {mi mi2 : MI} {mc ms pc : Nat} {lv st stk As av : List Value} {ws w0 wc r : va_W} {cells slots : Nat} {Q Q2 : va_W → Prop}
theorem okb_of (hpl : plainName (mNm mi).cls = true) (hnm : (mNm mi).name = "<init>") (hle : Nat.ble (entL av).length (mMx mi) = true) (hlv : lv0 av (mMx mi) = lv) (k : Gb dC dI cA l mi mc ms 0 lv [] ws 0 0 Q) : OkB dC dI cA l mi av ws mc ms Q := by
  intro sz
  refine Met.ofW (cc := mBy mi) (maxL := mMx mi) (ret := mRt mi) (ws' := wTb) hpl rfl ?_
  intro p e s m args below meth c s₁ B hml hv
  obtain ⟨rfl, hsz, hP, hK, hD0⟩ := hv
  have hts := atoms_spec (ws := mWs mi) B.pre
  have hown : s.vm.findClass (mNm mi).cls = some m.cls := findClass_of_methodNamed B.named
  have hin : meth.name = "<init>" := (name_of_methodNamed B.named B.method).1.trans hnm
  subst hsz
  have hD := hD0.self (sz := s.heap.size)
  have hl := lv_entry (av.map (tr tId)) (n := mMx mi) (by rw [entL_len]; exact Nat.le_of_ble_eq_true hle)
  have hl2 := lv0_has (n := mMx mi) hl
  rw [hlv, map_tId] at hl2
  rw [lg_entry_eq]
  exact k p e s m _ below meth c _ s.heap [] _ ⟨B.exec, B.bytes, B.returns, hml, hown, fun w hw => hts w (List.mem_cons_of_mem _ hw), B.notSynchronized, fun q h => Or.inr h, hK⟩ hin hP hD va_S.rf hl2
theorem gb_aload0 {x : Nat} (n : Nat) (hn : pc + 1 = n) (hd : decode (mBy mi) pc = .ok (.aload_n 0, 1)) (k : Gb dC dI cA l mi mc ms n (.ref x :: lv) (.ref x :: st) ws cells slots Q) : Gb dC dI cA l mi mc ms pc (.ref x :: lv) st ws cells slots Q := by
  intro p e s m args below meth c A H locs ls hC hI hP hD hS hL
  subst hn
  exact lv_aload_n hC.1 hC.2.1 (i := 0) hd rfl (lv_get (i := 0) (v := .ref x) hL rfl (fun h => by cases h)) (k p e s m args below meth c A H locs ls hC hI hP hD hS hL)
theorem gb_aload1 {x : Nat} {x0 : Value} (n : Nat) (hn : pc + 1 = n) (hd : decode (mBy mi) pc = .ok (.aload_n 1, 1)) (k : Gb dC dI cA l mi mc ms n (x0 :: .ref x :: lv) (.ref x :: st) ws cells slots Q) : Gb dC dI cA l mi mc ms pc (x0 :: .ref x :: lv) st ws cells slots Q := by
  intro p e s m args below meth c A H locs ls hC hI hP hD hS hL
  subst hn
  exact lv_aload_n hC.1 hC.2.1 (i := 1) hd rfl (lv_get (i := 1) (v := .ref x) hL rfl (fun h => by cases h)) (k p e s m args below meth c A H locs ls hC hI hP hD hS hL)
theorem gb_aload2 {x : Nat} {x0 x1 : Value} (n : Nat) (hn : pc + 1 = n) (hd : decode (mBy mi) pc = .ok (.aload_n 2, 1)) (k : Gb dC dI cA l mi mc ms n (x0 :: x1 :: .ref x :: lv) (.ref x :: st) ws cells slots Q) : Gb dC dI cA l mi mc ms pc (x0 :: x1 :: .ref x :: lv) st ws cells slots Q := by
  intro p e s m args below meth c A H locs ls hC hI hP hD hS hL
  subst hn
  exact lv_aload_n hC.1 hC.2.1 (i := 2) hd rfl (lv_get (i := 2) (v := .ref x) hL rfl (fun h => by cases h)) (k p e s m args below meth c A H locs ls hC hI hP hD hS hL)
theorem gb_aload3 {x : Nat} {x0 x1 x2 : Value} (n : Nat) (hn : pc + 1 = n) (hd : decode (mBy mi) pc = .ok (.aload_n 3, 1)) (k : Gb dC dI cA l mi mc ms n (x0 :: x1 :: x2 :: .ref x :: lv) (.ref x :: st) ws cells slots Q) : Gb dC dI cA l mi mc ms pc (x0 :: x1 :: x2 :: .ref x :: lv) st ws cells slots Q := by
  intro p e s m args below meth c A H locs ls hC hI hP hD hS hL
  subst hn
  exact lv_aload_n hC.1 hC.2.1 (i := 3) hd rfl (lv_get (i := 3) (v := .ref x) hL rfl (fun h => by cases h)) (k p e s m args below meth c A H locs ls hC hI hP hD hS hL)
theorem gb_iconst {a : Int} {v : Int32} (n : Nat) (hn : pc + 1 = n) (hd : decode (mBy mi) pc = .ok (.iconst a, 1)) (hv : Int32.ofInt a = v) (k : Gb dC dI cA l mi mc ms n lv (.int v :: st) ws cells slots Q) : Gb dC dI cA l mi mc ms pc lv st ws cells slots Q := by
  intro p e s m args below meth c A H locs ls hC hI hP hD hS hL
  subst hn
  exact lv_iconst hC.1 hC.2.1 hd hv (k p e s m args below meth c A H locs ls hC hI hP hD hS hL)
theorem gb_bipush {a : Int} {v : Int32} (n : Nat) (hn : pc + 2 = n) (hd : decode (mBy mi) pc = .ok (.bipush a, 2)) (hv : (Int8.ofInt a).toInt32 = v) (k : Gb dC dI cA l mi mc ms n lv (.int v :: st) ws cells slots Q) : Gb dC dI cA l mi mc ms pc lv st ws cells slots Q := by
  intro p e s m args below meth c A H locs ls hC hI hP hD hS hL
  subst hn
  exact lv_bipush hC.1 hC.2.1 hd hv (k p e s m args below meth c A H locs ls hC hI hP hD hS hL)
theorem gb_sipush {a : Int} {v : Int32} (n : Nat) (hn : pc + 3 = n) (hd : decode (mBy mi) pc = .ok (.sipush a, 3)) (hv : (Int16.ofInt a).toInt32 = v) (k : Gb dC dI cA l mi mc ms n lv (.int v :: st) ws cells slots Q) : Gb dC dI cA l mi mc ms pc lv st ws cells slots Q := by
  intro p e s m args below meth c A H locs ls hC hI hP hD hS hL
  subst hn
  exact lv_sipush hC.1 hC.2.1 hd hv (k p e s m args below meth c A H locs ls hC hI hP hD hS hL)
theorem gb_lconst {a : Fin 2} {v : Int64} (n : Nat) (hn : pc + 1 = n) (hd : decode (mBy mi) pc = .ok (.lconst a, 1)) (hv : Int64.ofNat (a : Nat) = v) (k : Gb dC dI cA l mi mc ms n lv (.long v :: st) ws cells slots Q) : Gb dC dI cA l mi mc ms pc lv st ws cells slots Q := by
  intro p e s m args below meth c A H locs ls hC hI hP hD hS hL
  subst hn
  exact lv_lconst hC.1 hC.2.1 hd hv (k p e s m args below meth c A H locs ls hC hI hP hD hS hL)
theorem gb_dup {v : Value} (n : Nat) (hn : pc + 1 = n) (hd : decode (mBy mi) pc = .ok (.dup, 1)) (hv : v.category = 1) (k : Gb dC dI cA l mi mc ms n lv (v :: v :: st) ws cells slots Q) : Gb dC dI cA l mi mc ms pc lv (v :: st) ws cells slots Q := by
  intro p e s m args below meth c A H locs ls hC hI hP hD hS hL
  subst hn
  exact lv_dup hC.1 hC.2.1 hd hv (k p e s m args below meth c A H locs ls hC hI hP hD hS hL)
theorem gb_w (ws' : va_W) (h : ws = ws') (k : Gb dC dI cA l mi mc ms pc lv st ws' cells slots Q) : Gb dC dI cA l mi mc ms pc lv st ws cells slots Q := by subst h; exact k
theorem gb_objInit {idx x : Nat} (n : Nat) (hn : pc + 3 = n) (hl : Cond.methodLink (mNm mi).cls idx Lib.objectInit ∈ wTb) (h1 : Cond.instanceMethod Lib.objectInit ∈ wTb) (h2 : Cond.code Lib.objectInit ⟨#[0xb1]⟩ 1 none ∈ wTb) (hd : decode (mBy mi) pc = .ok (.invokespecial idx, 3)) (hR : Nat.ble 1 (mFr mi) = true ∧ Nat.ble 12 (mLo mi) = true) (k : Gb dC dI cA l mi mc ms n lv [] ws cells slots Q) : Gb dC dI cA l mi mc ms pc lv [.ref x] ws cells slots Q := by
  intro p e s m args below meth c A H locs ls hC hI hP hD hS hL
  subst hn
  have hts := hC.2.2.2.2.2.1
  have hlo : 12 ≤ mLo mi := Nat.le_of_ble_eq_true hR.2
  exact W.objInit hC.1 hC.2.1 hC.2.2.2.2.1 (hts _ hl) (hts _ h1) (hts _ h2) rfl (by rw [hC.2.2.2.1]; exact hL.1) (a := x) (rest := []) rfl hd (Nat.le_of_ble_eq_true hR.1) hlo (k p e s m args below meth c A H locs ls hC hI hP hD hS hL)
/-- a class whose object is made here: its number, fields as they are born -/
def LkC (own : String) (idx ci N : Nat) (fs : List Value) : Prop := ∃ (C : String) (T : u_T) (ty : Nat → FieldType), vwCl[ci]? = some (C, T, N) ∧ (∀ w ∈ u_ws C T N, w ∈ wTb) ∧ (∀ k, k < N → parseFieldDescriptor (T k).2.2.1 = some (ty k)) ∧ Cond.classLink own idx C ∈ wTb ∧ Cond.instantiable C N ∈ wTb ∧ Cond.initialized C ∈ wTb ∧ ∀ j, j < N → defaultValue (ty j) = vp_V fs j
theorem gb_new {idx ci N : Nat} {fs : List Value} (n cells' slots' : Nat) (hn : pc + 3 = n) (hl : LkC (mNm mi).cls idx ci N fs) (hd : decode (mBy mi) pc = .ok (.new idx, 3)) (hc : cells + 1 = cells') (hs : slots + N = slots') (hb : Nat.ble cells' mc = true ∧ Nat.ble slots' ms = true) (k : ∀ q, Gb dC dI cA l mi mc ms n lv (.ref q :: st) (ws ++ [(q, .inr (ci, fs))]) cells' slots' Q) : Gb dC dI cA l mi mc ms pc lv st ws cells slots Q := by
  intro p e s m args below meth c A H locs ls hC hI hP hD hS hL
  subst hn
  subst hc
  subst hs
  have hts := hC.2.2.2.2.2.1
  obtain ⟨C, T, ty, a1, a2, a3, a4, a5, a6, a7⟩ := hl
  exact va_new (ci := ci) (fs := fs) (C := C) (T := T) (N := N) hC.1 hC.2.1 hts a2 ty a3 hC.2.2.2.2.1 (hts _ a4) (hts _ a5) (hts _ a6) hC.2.2.2.2.2.2.2.2 hP hD hS hC.2.2.2.2.2.2.2.1 a1 a7 (Nat.le_of_ble_eq_true hb.1) (Nat.le_of_ble_eq_true hb.2) hd (fun q H1 hP1 hD1 hS1 => k q p e s m args below meth c A H1 locs ls hC hI hP1 hD1 hS1 hL)
theorem gb_newa {atype : ArrayType} {t N : Nat} {ty : FieldType} {v : Int32} (n cells' slots' : Nat) (hn : pc + 2 = n) (harr : Cond.arrayClass (newarray.typeOf atype) ∈ wTb) (hty : newarray.typeOf atype = ty) (ht : ∀ cA, (tysA cA)[t]? = some (cA t, ty)) (hra : ∀ (U : State) (c : ClassId), va_RA U c ty → U.vm.findClass ("[" ++ ty.toString) = some c) (hdf : defaultValue ty = .int 0) (hv : ¬ v < 0) (hN : v.toNatClampNeg = N) (hbytes : N * componentBytes ty ≤ 536870912) (hd : decode (mBy mi) pc = .ok (.newarray atype, 2)) (hc : cells + 1 = cells') (hs : slots + N = slots') (hb : Nat.ble cells' mc = true ∧ Nat.ble slots' ms = true) (k : ∀ q, Gb dC dI cA l mi mc ms n lv (.ref q :: st) (ws ++ [(q, .inl (cA t, N, .inl (fun _ => 0)))]) cells' slots' Q) : Gb dC dI cA l mi mc ms pc lv (.int v :: st) ws cells slots Q := by
  intro p e s m args below meth c A H locs ls hC hI hP hD hS hL
  subst hn
  subst hc
  subst hs
  have hts := hC.2.2.2.2.2.1
  have hK := hC.2.2.2.2.2.2.2.2
  refine va_newa hC.1 hC.2.1 (hts _ harr) hty hK hP hD hS hC.2.2.2.2.2.2.2.1 (a0 := (N, .inl (fun _ => 0))) (fun cA => by rw [hdf]; rfl) hv hN hbytes (Nat.le_of_ble_eq_true hb.1) (Nat.le_of_ble_eq_true hb.2) hd (fun q cB H1 hK1 hP1 hD1 hS1 => ?_)
  have e1 := hra s cB (hK1.2 3 (cB, ty) rfl).2
  have e2 := hra s (cA t) (hK.2 t (cA t, ty) (ht cA)).2
  have e3 : cB = cA t := Option.some.inj (e1.symm.trans e2)
  subst e3
  exact k q p e s m args below meth c A H1 locs ls hC hI hP1 hD1 hS1 hL
/-- a final field that the constructor's own class declares -/
def FD (own : String) (idx ci k : Nat) (ty : FieldType) : Prop := ∃ (C : String) (T : u_T) (N : Nat) (ty0 : Nat → FieldType), vwCl[ci]? = some (C, T, N) ∧ (∀ w ∈ u_ws C T N, w ∈ wTb) ∧ (∀ k, k < N → parseFieldDescriptor (T k).2.2.1 = some (ty0 k)) ∧ (∀ a, a < N → ∀ b, b < N → a ≠ b → (T a).2.1 ≠ (T b).2.1) ∧ k < N ∧ Cond.fieldLink own idx (T k).1 (T k).2.1 (T k).2.2.1 ∈ wTb ∧ ty0 k = ty ∧ (T k).2.2.2 = true ∧ (T k).1 = own
theorem gb_putF {idx ci k a : Nat} {fs : List Value} {ty : FieldType} {v : Value} (n : Nat) (fs' : List Value) (hn : pc + 3 = n) (hf : FD (mNm mi).cls idx ci k ty) (hd : decode (mBy mi) pc = .ok (.putfield idx, 3)) (hx : narrow ty v = v) (hx2 : fits ty v = true) (hk : Nat.ble (k + 1) fs.length = true) (he : fs.set k v = fs') (kk : Gb dC dI cA l mi mc ms n lv st ((a, .inr (ci, fs')) :: r) cells slots Q) : Gb dC dI cA l mi mc ms pc lv (v :: .ref a :: st) ((a, .inr (ci, fs)) :: r) cells slots Q := by
  intro p e s m args below meth c A H locs ls hC hI hP hD hS hL
  subst hn
  subst he
  obtain ⟨C, T, N, ty0, h1, h2, h3, h4, h5, h6, h7, h8, h9⟩ := hf
  exact va_putF (D := (dC, dI)) (ci := ci) (v := v) (ty := ty) (C := C) (T := T) (N := N) hC.1 hC.2.1 hC.2.2.2.2.2.1 h2 ty0 h3 h4 hC.2.2.2.2.1 hC.2.2.2.2.2.2.2.2 hP hD hS 0 rfl h1 k h5 (hC.2.2.2.2.2.1 _ h6) (fun _ z => z) h8 hI h9 (by rw [h3 k h5, h7]) hx hx2 (Nat.le_of_ble_eq_true hk) hd (fun H1 locs1 hP1 hD1 hS1 => kk p e s m args below meth c A H1 locs1 ls hC hI hP1 hD1 hS1 hL)
theorem gb_put {idx ci k a : Nat} {fs : List Value} {ty : FieldType} {v : Value} (n : Nat) (fs' : List Value) (hn : pc + 3 = n) (hf : FL (mNm mi).cls idx ci k ty false) (hd : decode (mBy mi) pc = .ok (.putfield idx, 3)) (hx : narrow ty v = v) (hx2 : fits ty v = true) (hk : Nat.ble (k + 1) fs.length = true) (he : fs.set k v = fs') (kk : Gb dC dI cA l mi mc ms n lv st ((a, .inr (ci, fs')) :: r) cells slots Q) : Gb dC dI cA l mi mc ms pc lv (v :: .ref a :: st) ((a, .inr (ci, fs)) :: r) cells slots Q := by
  intro p e s m args below meth c A H locs ls hC hI hP hD hS hL
  subst hn
  subst he
  obtain ⟨C, T, N, ty0, h1, h2, h3, h4, h5, h6, h7, h8⟩ := hf
  exact va_put (D := (dC, dI)) (ci := ci) (v := v) (ty := ty) (C := C) (T := T) (N := N) hC.1 hC.2.1 hC.2.2.2.2.2.1 h2 ty0 h3 h4 hC.2.2.2.2.1 hC.2.2.2.2.2.2.2.2 hP hD hS 0 rfl h1 k h5 (hC.2.2.2.2.2.1 _ h6) (fun _ z => z) h8 (by rw [h3 k h5, h7]) hx hx2 (Nat.le_of_ble_eq_true hk) hd (fun H1 locs1 hP1 hD1 hS1 => kk p e s m args below meth c A H1 locs1 ls hC hI hP1 hD1 hS1 hL)
theorem gb_get {idx ci k a : Nat} {fs : List Value} {ty : FieldType} {fn : Bool} {v : Value} (n : Nat) (hn : pc + 3 = n) (hf : FL (mNm mi).cls idx ci k ty fn) (he : ws[0]? = some (a, .inr (ci, fs))) (hv : fs[k]? = some v) (hd : decode (mBy mi) pc = .ok (.getfield idx, 3)) (kk : Gb dC dI cA l mi mc ms n lv (v :: st) ws cells slots Q) : Gb dC dI cA l mi mc ms pc lv (.ref a :: st) ws cells slots Q := by
  intro p e s m args below meth c A H locs ls hC hI hP hD hS hL
  subst hn
  obtain ⟨C, T, N, ty0, h1, h2, h3, h4, h5, h6, h7, h8⟩ := hf
  exact va_get (D := (dC, dI)) (ci := ci) (v := v) (C := C) (T := T) (N := N) hC.1 hC.2.1 hC.2.2.2.2.2.1 h2 hC.2.2.2.2.1 hC.2.2.2.2.2.2.2.2 hP 0 he h1 k h5 (hC.2.2.2.2.2.1 _ h6) (fun _ z => z) hv hd (kk p e s m args below meth c A H locs ls hC hI hP hD hS hL)
theorem gb_vret (hr : mRt mi = none) (hd : decode (mBy mi) pc = .ok (.return_, 1)) (hq : Q ws) : Gb dC dI cA l mi mc ms pc lv [] ws mc ms Q := by
  intro p e s m args below meth c A H locs ls hC hI hP hD hS hL
  have hlocks := hC.2.2.2.2.2.2.1
  exact W.vret hC.1 hC.2.1 (hC.2.2.1.trans hr) (fun t ht hW2 => ⟨⟨ws, rfl, hq, by rw [ht]; exact hP, va_K.moved hW2.alike hC.2.2.2.2.2.2.2.2, hD⟩, hS.F ht⟩) hS.2.2 hd
end GB
theorem va_D_l {A : Nat → Prop} {w0 wc : va_W} (hD : va_D A (w0 ++ wc)) : va_D A w0 := by
  have lf : ∀ (k : Nat) (q : Nat × va_E), w0[k]? = some q → (w0 ++ wc)[k]? = some q := fun k q h => by rw [List.getElem?_append_left (List.getElem?_eq_some_iff.mp h).1]; exact h
  exact ⟨fun i j p q hp hq e => hD.1 i j p q (lf i p hp) (lf j q hq) e, fun k q hk => hD.2 k q (lf k q hk)⟩
theorem va_D_r {A : Nat → Prop} {w0 wc : va_W} (hD : va_D A (w0 ++ wc)) : va_D A wc := by
  have rt : ∀ (k : Nat) (q : Nat × va_E), wc[k]? = some q → (w0 ++ wc)[w0.length + k]? = some q := fun k q h => by rw [List.getElem?_append_right (by omega), Nat.add_sub_cancel_left]; exact h
  exact ⟨fun i j p q hp hq e => by have := hD.1 _ _ p q (rt i p hp) (rt j q hq) e; omega, fun k q hk => hD.2 _ q (rt k q hk)⟩
theorem va_D_x {A : Nat → Prop} {w0 wc : va_W} (hD : va_D A (w0 ++ wc)) : ∀ (i j : Nat) (p q : Nat × va_E), w0[i]? = some p → wc[j]? = some q → p.1 ≠ q.1 := by
  intro i j p q hp hq e
  have h1 : (w0 ++ wc)[i]? = some p := by rw [List.getElem?_append_left (List.getElem?_eq_some_iff.mp hp).1]; exact hp
  have h2 : (w0 ++ wc)[w0.length + j]? = some q := by rw [List.getElem?_append_right (by omega), Nat.add_sub_cancel_left]; exact hq
  have h3 := hD.1 _ _ p q h1 h2 e
  have h4 := (List.getElem?_eq_some_iff.mp hp).1
  omega
theorem va_D_sw {A : Nat → Prop} {w0 wc : va_W} (hD : va_D A (w0 ++ wc)) : va_D A (wc ++ w0) := va_D.app (va_D_r hD) (va_D_l hD) (fun i j p q hp hq e => va_D_x hD j i q p hq hp e.symm)
theorem va_P_l {D : va_G} {cl : List vw_C} {H : Heap} {w0 wc : va_W} (hP : va_P D cl (w0 ++ wc) H) : va_P D cl w0 H := fun k q h => hP k q (by rw [List.getElem?_append_left (List.getElem?_eq_some_iff.mp h).1]; exact h)
theorem va_P_r {D : va_G} {cl : List vw_C} {H : Heap} {w0 wc : va_W} (hP : va_P D cl (w0 ++ wc) H) : va_P D cl wc H := fun k q h => hP (w0.length + k) q (by rw [List.getElem?_append_right (by omega), Nat.add_sub_cancel_left]; exact h)
/-- behind a call that had the cells wc: the others, w0, are as they were -/
theorem sep_join {A0 : Nat → Prop} {D : va_G} {cl : List vw_C} {w0 wc w1 : va_W} {H H1 : Heap} (hP : va_P D cl w0 H) (hD : va_D A0 (w0 ++ wc)) (hk : ∀ q : Nat, q < H.size → ¬ va_A wc H.size q → H1[q]? = H[q]?) (hF : ∀ q, va_A wc H.size q → A0 q) (hD1 : va_D (va_A wc H.size) w1) : va_P D cl w0 H1 ∧ va_D A0 (w0 ++ w1) := by
  have apart : ∀ (k : Nat) (q : Nat × va_E), w0[k]? = some q → q.1 < H.size ∧ ¬ va_A wc H.size q.1 := by
    intro k q hq
    have hl := (hP k q hq).lt
    refine ⟨hl, fun h => ?_⟩
    rcases h with ⟨k2, e, h⟩ | h
    · exact va_D_x hD k k2 q (q.1, e) hq h rfl
    · omega
  refine ⟨fun k q hq => ?_, va_D.app (va_D_l hD) (hD1.weaken (fun k q _ h => hF q.1 h)) (fun i j x y hx hy hxy => ?_)⟩
  · obtain ⟨g1, g2⟩ := apart k q hq
    exact (hP k q hq).kept (hk q.1 g1 g2)
  · exact (apart i x hx).2 (by rw [hxy]; exact hD1.2 j y hy)
theorem aw_r {A : Nat → Prop} {w0 wc : va_W} {H0 H : Heap} {locs : List Loc} (hD : va_D A (w0 ++ wc)) (hS : va_S A H0 H locs) (hA : ∀ q, H0.size ≤ q → A q) : ∀ q, va_A wc H.size q → A q := aw_in (va_D_r hD) hS hA
section GB2
variable {dC : Nat → ClassId} {dI : Nat → Nat → Nat} {cA : Nat → ClassId} {l : Launch} {mi mi2 : MI} {mc ms pc : Nat} {lv st stk As av : List Value} {ws w0 wc r : va_W} {cells slots : Nat} {Q Q2 : va_W → Prop}
theorem gb_aux {p : Program} {e : Env} {s : State} {m : MethodId} {args a : Array Value} {below : List Frame} {meth : Method} {c : Code} {A : Nat → Prop} {H : Heap} {locs : List Loc} {ls : Array Slot} {st0 rest : List Value} {R : Room} {Z : State → Prop} {mc2 ms2 : Nat}
    (hr : va_Run p l e R s m args below meth c H locs cells slots mc2 ms2 (F0 m pc ls st0) rest (QB dC dI cA (va_A wc H.size) Q2 a) (va_A wc H.size)) (hP : va_P (dC, dI) vwCl (w0 ++ wc) H) (hD : va_D A (w0 ++ wc)) (hS : va_S A s.heap H locs) (hA : ∀ q, s.heap.size ≤ q → A q)
    (kk : ∀ (w1 : va_W) (H1 : Heap) (locs1 : List Loc), Q2 w1 → va_P (dC, dI) vwCl (w0 ++ w1) H1 → va_D A (w0 ++ w1) → va_S A s.heap H1 locs1 → W p l e R s m args below meth c H1 locs1 (cells + mc2) (slots + ms2) Z (F0 m (pc + 3) ls rest)) : W p l e R s m args below meth c H locs cells slots Z (F0 m pc ls st0) := by
  intro T hT X
  have hA1 := aw_r hD hS hA
  obtain ⟨v, st₀, t, T', L, h0, X', hL, e1, e2, ⟨⟨w1, hv, hq, hP1, hK, hD1⟩, hz, hk⟩, stp⟩ := hr T hT X
  have hv2 : v = none := by injection hv
  subst hv2
  rw [h0] at hz hk
  obtain ⟨j1, j2⟩ := sep_join (va_P_l hP) hD hk hA1 hD1
  obtain ⟨t2, a1, b1⟩ := kk w1 T'.heap (locs ++ L) hq (by rw [e1]; exact j1.app hP1) j2 ⟨Nat.le_trans hS.1 (by rw [e1]; exact hz), fun q h1 h2 => by rw [e1, hk q (Nat.lt_of_lt_of_le h1 hS.1) (fun z => h2 (hA1 q z))]; exact hS.2.1 q h1 h2, fun q hq => by
      rcases List.mem_append.mp hq with h | h
      · exact hS.2.2 q h
      · exact hA1 _ (hL q h)⟩ T' rfl X'
  exact ⟨t2, stp t2 a1, b1⟩
theorem pb_blind {ws : va_W} {sz : Nat} : FrameBlind (va_Pc av (PB dC dI cA ws sz)) := by
  intro a U g mk q
  obtain ⟨q0, q1, qP, qK, qD⟩ := q
  exact ⟨q0, q1, qP, va_K.moved (u := U) (U := U.calling g mk a) (Vm.Alike.refl U.vm) qK, qD⟩
def LkI (own : String) (idx : Nat) (mi2 : MI) (n : Nat) : Prop := LkB mi2 n ∧ Cond.methodLink own idx (mNm mi2) ∈ wTb ∧ Cond.instanceMethod (mNm mi2) ∈ wTb ∧ (mNm mi2).name = "<init>" ∧ mRt mi2 = none
def LkJ (own : String) (idx : Nat) (mi2 : MI) (n : Nat) (host : String) : Prop := LkB mi2 n ∧ Cond.methodLinkNest own idx (mNm mi2) host ∈ wTb ∧ Cond.instanceMethod (mNm mi2) ∈ wTb ∧ (mNm mi2).name = "<init>" ∧ mRt mi2 = none
theorem gb_callI {idx q mc2 ms2 : Nat} (n na cells' slots' : Nat) (hn : pc + 3 = n) (hl : LkI (mNm mi).cls idx mi2 na) (hd : decode (mBy mi) pc = .ok (.invokespecial idx, 3)) (hR : Nat.ble (mFr mi2 + 1) (mFr mi) = true ∧ Nat.ble (8 + (mMx mi2 + 11) + mLo mi2) (mLo mi) = true) (ok : OkB dC dI cA l mi2 (.ref q :: As) wc mc2 ms2 Q2) (hww : ws = w0 ++ wc) (hs : stk = As.reverse ++ .ref q :: st) (ha : As.length = na) (hw : Nat.ble ((st.map fun v => v.category).sum) 8 = true) (hc : cells + mc2 = cells') (hsl : slots + ms2 = slots') (hb : Nat.ble cells' mc = true ∧ Nat.ble slots' ms = true) (kk : ∀ w1, Q2 w1 → Gb dC dI cA l mi mc ms n lv st (w0 ++ w1) cells' slots' Q) : Gb dC dI cA l mi mc ms pc lv stk ws cells slots Q := by
  intro p e s m args below meth c A H locs ls hC hI hP hD hS hL
  subst hn
  subst hs
  subst hc
  subst hsl
  subst hww
  obtain ⟨⟨l1, l2, l3, l4⟩, l5, l6, l7, l8⟩ := hl
  have hts := hC.2.2.2.2.2.1
  have l1' : Cond.code (mNm mi2) (mBy mi2) (mMx mi2) none ∈ wTb := by
    have h := l1
    rw [l8] at h
    exact h
  have l9 : Cond.code (mNm mi2) (mBy mi2) (mMx mi2) none ∈ mWs mi2 := by
    have h : Cond.code (mNm mi2) (mBy mi2) (mMx mi2) (mRt mi2) ∈ mWs mi2 := List.mem_cons_self
    rw [l8] at h
    exact h
  refine gb_aux (Q2 := Q2) (rest := st) (va_runI (As := As) (b := q) (Ts := wTb) (n := na) (ws := mWs mi2) (rm := bRm mi2 mc2 ms2) ⟨hC.1, hC.2.1, hC.2.2.2.1, hC.2.2.2.2.1, hts⟩ (ok H.size) ⟨⟨rfl, rfl, Nat.le_of_ble_eq_true hR.1, Nat.le_of_ble_eq_true hR.2, ?_, l9, hts _ l1', hts _ l2, l3, desc_n l4, hts _ l5⟩, l7, hts _ l6⟩ ⟨pb_blind, fun U hU hv => ⟨rfl, by rw [hU], by rw [hU]; exact va_P_r hP, va_K.moved hv.alike hC.2.2.2.2.2.2.2.2, (va_D_r hD).weaken (fun _ _ _ _ => trivial)⟩⟩ rfl ha hL.1 rfl (lv_room (Nat.le_of_ble_eq_true hw)) hd ⟨Nat.le_of_ble_eq_true hb.1, Nat.le_of_ble_eq_true hb.2⟩) hP hD hS hC.2.2.2.2.2.2.2.1 (fun w1 H1 locs1 hq hP1 hD1 hS1 => kk w1 hq p e s m args below meth c A H1 locs1 ls hC hI hP1 hD1 hS1 hL)
  intro w hw a' U hv
  rcases List.mem_cons.mp hw with rfl | hw
  · exact wT_warm hts _ l1 a' U hv
  · exact wT_warm hts _ hw a' U hv
theorem gb_callJ {idx q mc2 ms2 : Nat} {host : String} (n na cells' slots' : Nat) (hn : pc + 3 = n) (hl : LkJ (mNm mi).cls idx mi2 na host) (hd : decode (mBy mi) pc = .ok (.invokespecial idx, 3)) (hR : Nat.ble (mFr mi2 + 1) (mFr mi) = true ∧ Nat.ble (8 + (mMx mi2 + 11) + mLo mi2) (mLo mi) = true) (ok : OkB dC dI cA l mi2 (.ref q :: As) wc mc2 ms2 Q2) (hww : ws = w0 ++ wc) (hs : stk = As.reverse ++ .ref q :: st) (ha : As.length = na) (hw : Nat.ble ((st.map fun v => v.category).sum) 8 = true) (hc : cells + mc2 = cells') (hsl : slots + ms2 = slots') (hb : Nat.ble cells' mc = true ∧ Nat.ble slots' ms = true) (kk : ∀ w1, Q2 w1 → Gb dC dI cA l mi mc ms n lv st (w0 ++ w1) cells' slots' Q) : Gb dC dI cA l mi mc ms pc lv stk ws cells slots Q := by
  intro p e s m args below meth c A H locs ls hC hI hP hD hS hL
  subst hn
  subst hs
  subst hc
  subst hsl
  subst hww
  obtain ⟨⟨l1, l2, l3, l4⟩, l5, l6, l7, l8⟩ := hl
  have hts := hC.2.2.2.2.2.1
  have l1' : Cond.code (mNm mi2) (mBy mi2) (mMx mi2) none ∈ wTb := by
    have h := l1
    rw [l8] at h
    exact h
  have l9 : Cond.code (mNm mi2) (mBy mi2) (mMx mi2) none ∈ mWs mi2 := by
    have h : Cond.code (mNm mi2) (mBy mi2) (mMx mi2) (mRt mi2) ∈ mWs mi2 := List.mem_cons_self
    rw [l8] at h
    exact h
  refine gb_aux (Q2 := Q2) (rest := st) (va_runIN (host := host) (As := As) (b := q) (Ts := wTb) (n := na) (ws := mWs mi2) (rm := bRm mi2 mc2 ms2) ⟨hC.1, hC.2.1, hC.2.2.2.1, hC.2.2.2.2.1, hts⟩ (ok H.size) ⟨⟨⟨rfl, rfl, Nat.le_of_ble_eq_true hR.1, Nat.le_of_ble_eq_true hR.2, ?_, l9⟩, hts _ l1', hts _ l2, l3, desc_n l4, hts _ l5⟩, l7, hts _ l6⟩ ⟨pb_blind, fun U hU hv => ⟨rfl, by rw [hU], by rw [hU]; exact va_P_r hP, va_K.moved hv.alike hC.2.2.2.2.2.2.2.2, (va_D_r hD).weaken (fun _ _ _ _ => trivial)⟩⟩ rfl ha hL.1 rfl (lv_room (Nat.le_of_ble_eq_true hw)) hd ⟨Nat.le_of_ble_eq_true hb.1, Nat.le_of_ble_eq_true hb.2⟩) hP hD hS hC.2.2.2.2.2.2.2.1 (fun w1 H1 locs1 hq hP1 hD1 hS1 => kk w1 hq p e s m args below meth c A H1 locs1 ls hC hI hP1 hD1 hS1 hL)
  intro w hw a' U hv
  rcases List.mem_cons.mp hw with rfl | hw
  · exact wT_warm hts _ l1 a' U hv
  · exact wT_warm hts _ hw a' U hv
end GB2
