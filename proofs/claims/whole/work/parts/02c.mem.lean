/-! fields, arrays, returns, calls, said of handles -/
def FL (own : String) (idx ci k : Nat) (ty : FieldType) (fn : Bool) : Prop := ∃ (C : String) (T : u_T) (N : Nat) (ty0 : Nat → FieldType), vwCl[ci]? = some (C, T, N) ∧ (∀ w ∈ u_ws C T N, w ∈ wTb) ∧ (∀ k, k < N → parseFieldDescriptor (T k).2.2.1 = some (ty0 k)) ∧ (∀ a, a < N → ∀ b, b < N → a ≠ b → (T a).2.1 ≠ (T b).2.1) ∧ k < N ∧ Cond.fieldLink own idx (T k).1 (T k).2.1 (T k).2.2.1 ∈ wTb ∧ ty0 k = ty ∧ (T k).2.2.2 = fn
section GM
variable {G : Sh} {l : Launch} {mi : MI} {pc : Nat} {lv st : List Value} {M : Mm} {Q : Rr → Mm → Prop}
theorem g_get {idx ci k kd h : Nat} {ks : List Nat} {ty : FieldType} {fn : Bool} {v : Value} (n : Nat) (hn : pc + 3 = n) (hf : FL (mNm mi).cls idx ci k ty fn) (hg : G[h]? = some (.inr (ci, ks))) (hk : ks[k]? = some kd) (hv : ∀ ad, slV ad M h k kd = tr ad v) (hd : decode (mBy mi) pc = .ok (.getfield idx, 3)) (kk : Go G l mi n lv (v :: st) M Q) : Go G l mi pc lv (.ref h :: st) M Q := by
  intro p e s m args below meth c dC dI cA ad A H locs ls hC hW hL
  subst hn
  obtain ⟨C, T, N, ty0, h1, h2, h3, h4, h5, h6, h7, h8⟩ := hf
  exact va_get (D := (dC, dI)) (ci := ci) (v := tr ad v) (C := C) (T := T) (N := N) hC.1 hC.2.1 hC.2.2.2.2.2.1 h2 hC.2.2.2.2.1 hC.2.2.2.2.2.2.2.2 hW.1 h (wW_at hg) h1 k h5 (hC.2.2.2.2.2.1 _ h6) (fun _ z => z) (by rw [fs_at hk, hv]) hd (kk p e s m args below meth c dC dI cA ad A H locs ls hC hW hL)
theorem g_getI {idx ci k h : Nat} {ks : List Nat} {ty : FieldType} {fn : Bool} (n : Nat) (hn : pc + 3 = n) (hf : FL (mNm mi).cls idx ci k ty fn) (hg : G[h]? = some (.inr (ci, ks))) (hk : ks[k]? = some 0) (hd : decode (mBy mi) pc = .ok (.getfield idx, 3)) (kk : Go G l mi n lv (.int (M.1 h k) :: st) M Q) : Go G l mi pc lv (.ref h :: st) M Q :=
  g_get n hn hf hg hk (fun _ => rfl) hd kk
theorem g_getL {idx ci k h : Nat} {ks : List Nat} {ty : FieldType} {fn : Bool} (n : Nat) (hn : pc + 3 = n) (hf : FL (mNm mi).cls idx ci k ty fn) (hg : G[h]? = some (.inr (ci, ks))) (hk : ks[k]? = some 1) (hd : decode (mBy mi) pc = .ok (.getfield idx, 3)) (kk : Go G l mi n lv (.long (M.2 h k) :: st) M Q) : Go G l mi pc lv (.ref h :: st) M Q :=
  g_get n hn hf hg hk (fun _ => rfl) hd kk
theorem g_getR {idx ci k h h' : Nat} {ks : List Nat} {ty : FieldType} {fn : Bool} (n : Nat) (hn : pc + 3 = n) (hf : FL (mNm mi).cls idx ci k ty fn) (hg : G[h]? = some (.inr (ci, ks))) (hk : ks[k]? = some (h' + 2)) (hd : decode (mBy mi) pc = .ok (.getfield idx, 3)) (kk : Go G l mi n lv (.ref h' :: st) M Q) : Go G l mi pc lv (.ref h :: st) M Q :=
  g_get n hn hf hg hk (fun _ => rfl) hd kk
theorem g_putB {idx ci k h : Nat} {ks : List Nat} {ty : FieldType} {x : Int32} (n : Nat) (hn : pc + 3 = n) (hf : FL (mNm mi).cls idx ci k ty false) (hg : G[h]? = some (.inr (ci, ks))) (hk : ks[k]? = some 0) (hd : decode (mBy mi) pc = .ok (.putfield idx, 3)) (hx : narrow ty (.int x) = .int x) (hx2 : fits ty (.int x) = true) (kk : Go G l mi n lv st (setA M h (upd (M.1 h) k x)) Q) : Go G l mi pc lv (.int x :: .ref h :: st) M Q := by
  intro p e s m args below meth c dC dI cA ad A H locs ls hC hW hL
  subst hn
  obtain ⟨C, T, N, ty0, h1, h2, h3, h4, h5, h6, h7, h8⟩ := hf
  refine va_put (D := (dC, dI)) (ci := ci) (v := .int x) (ty := ty) (C := C) (T := T) (N := N) hC.1 hC.2.1 hC.2.2.2.2.2.1 h2 ty0 h3 h4 hC.2.2.2.2.1 hC.2.2.2.2.2.2.2.2 hW.1 hW.2.1 hW.2.2 h (wW_at hg) h1 k h5 (hC.2.2.2.2.2.1 _ h6) (fun _ z => z) h8 (by rw [h3 k h5, h7]) hx hx2 (by have := (List.getElem?_eq_some_iff.mp hk).1; simpa using this) hd (fun H1 locs1 hP hD hS => ?_)
  have e1 : (wW G cA ad M).set h (ad h, .inr (ci, (ks.mapIdx (fun k kd => slV ad M h k kd)).set k (.int x))) = wW G cA ad (setA M h (upd (M.1 h) k x)) := wW_set hg (fun h' g' hne => cW_setA_ne hne) (by rw [fs_setA hk]; rfl)
  rw [e1] at hP hD
  exact kk p e s m args below meth c dC dI cA ad A H1 locs1 ls hC ⟨hP, hD, hS⟩ hL
theorem g_putI {idx ci k h : Nat} {ks : List Nat} {x : Int32} (n : Nat) (hn : pc + 3 = n) (hf : FL (mNm mi).cls idx ci k .int false) (hg : G[h]? = some (.inr (ci, ks))) (hk : ks[k]? = some 0) (hd : decode (mBy mi) pc = .ok (.putfield idx, 3)) (kk : Go G l mi n lv st (setA M h (upd (M.1 h) k x)) Q) : Go G l mi pc lv (.int x :: .ref h :: st) M Q :=
  g_putB n hn hf hg hk hd rfl rfl kk
theorem nar_b {x : Int32} (h : x = 0 ∨ x = 1) : narrow .boolean (.int x) = .int x ∧ fits .boolean (.int x) = true := by
  rcases h with rfl | rfl <;> decide
theorem g_putZ {idx ci k h : Nat} {ks : List Nat} {x : Int32} (n : Nat) (hn : pc + 3 = n) (hf : FL (mNm mi).cls idx ci k .boolean false) (hg : G[h]? = some (.inr (ci, ks))) (hk : ks[k]? = some 0) (hd : decode (mBy mi) pc = .ok (.putfield idx, 3)) (hx : x = 0 ∨ x = 1) (kk : Go G l mi n lv st (setA M h (upd (M.1 h) k x)) Q) : Go G l mi pc lv (.int x :: .ref h :: st) M Q :=
  g_putB n hn hf hg hk hd (nar_b hx).1 (nar_b hx).2 kk
theorem g_putL {idx ci k h : Nat} {ks : List Nat} {x : Int64} (n : Nat) (hn : pc + 3 = n) (hf : FL (mNm mi).cls idx ci k .long false) (hg : G[h]? = some (.inr (ci, ks))) (hk : ks[k]? = some 1) (hd : decode (mBy mi) pc = .ok (.putfield idx, 3)) (kk : Go G l mi n lv st (setL M h k x) Q) : Go G l mi pc lv (.long x :: .ref h :: st) M Q := by
  intro p e s m args below meth c dC dI cA ad A H locs ls hC hW hL
  subst hn
  obtain ⟨C, T, N, ty0, h1, h2, h3, h4, h5, h6, h7, h8⟩ := hf
  refine va_put (D := (dC, dI)) (ci := ci) (v := .long x) (ty := .long) (C := C) (T := T) (N := N) hC.1 hC.2.1 hC.2.2.2.2.2.1 h2 ty0 h3 h4 hC.2.2.2.2.1 hC.2.2.2.2.2.2.2.2 hW.1 hW.2.1 hW.2.2 h (wW_at hg) h1 k h5 (hC.2.2.2.2.2.1 _ h6) (fun _ z => z) h8 (by rw [h3 k h5, h7]) rfl rfl (by have := (List.getElem?_eq_some_iff.mp hk).1; simpa using this) hd (fun H1 locs1 hP hD hS => ?_)
  have e1 : (wW G cA ad M).set h (ad h, .inr (ci, (ks.mapIdx (fun k kd => slV ad M h k kd)).set k (.long x))) = wW G cA ad (setL M h k x) := wW_set hg (fun h' g' hne => cW_setL_ne hne) (by rw [fs_setL hk]; rfl)
  rw [e1] at hP hD
  exact kk p e s m args below meth c dC dI cA ad A H1 locs1 ls hC ⟨hP, hD, hS⟩ hL
/-! arrays -/
theorem g_iald0 {h N : Nat} {i : Int32} (n : Nat) (hn : pc + 1 = n) (hd : decode (mBy mi) pc = .ok (.iaload, 1)) (hg : G[h]? = some (.inl (0, N))) (hi : vp_in i N) (kk : Go G l mi n lv (.int (M.1 h i.toNatClampNeg) :: st) M Q) : Go G l mi pc lv (.int i :: .ref h :: st) M Q := by
  intro p e s m args below meth c dC dI cA ad A H locs ls hC hW hL
  subst hn
  exact va_iald hC.1 hC.2.1 hC.2.2.2.2.2.2.2.2 hW.1 h 0 (wW_at hg) rfl hi hd (kk p e s m args below meth c dC dI cA ad A H locs ls hC hW hL)
theorem g_iald {h N k : Nat} {i : Int32} (n : Nat) (hn : pc + 1 = n) (hd : decode (mBy mi) pc = .ok (.iaload, 1)) (hg : G[h]? = some (.inl (0, N))) (hb : Nat.ble N 2147483647 = true) (he : i = nI k) (hk : k < N) (kk : Go G l mi n lv (.int (M.1 h k) :: st) M Q) : Go G l mi pc lv (.int i :: .ref h :: st) M Q := by
  subst he
  have hb := Nat.le_of_ble_eq_true hb
  refine g_iald0 n hn hd hg (vp_in_nI hk (by omega)) ?_
  rw [nI_clamp (by omega)]
  exact kk
theorem g_zald {h N k : Nat} {i : Int32} (n : Nat) (hn : pc + 1 = n) (hd : decode (mBy mi) pc = .ok (.baload, 1)) (hg : G[h]? = some (.inl (1, N))) (hb : Nat.ble N 2147483647 = true) (he : i = nI k) (hk : k < N) (kk : Go G l mi n lv (.int (M.1 h k) :: st) M Q) : Go G l mi pc lv (.int i :: .ref h :: st) M Q := by
  subst he
  have hb := Nat.le_of_ble_eq_true hb
  intro p e s m args below meth c dC dI cA ad A H locs ls hC hW hL
  subst hn
  refine va_zald hC.1 hC.2.1 hC.2.2.2.2.2.2.2.2 hW.1 h 1 (wW_at hg) rfl (vp_in_nI hk (by omega)) hd ?_
  rw [nI_clamp (by omega)]
  exact kk p e s m args below meth c dC dI cA ad A H locs ls hC hW hL
theorem g_bald {h N k : Nat} {i : Int32} (n : Nat) (hn : pc + 1 = n) (hd : decode (mBy mi) pc = .ok (.baload, 1)) (hg : G[h]? = some (.inl (2, N))) (hb : Nat.ble N 2147483647 = true) (he : i = nI k) (hk : k < N) (kk : Go G l mi n lv (.int (M.1 h k) :: st) M Q) : Go G l mi pc lv (.int i :: .ref h :: st) M Q := by
  subst he
  have hb := Nat.le_of_ble_eq_true hb
  intro p e s m args below meth c dC dI cA ad A H locs ls hC hW hL
  subst hn
  refine va_bald hC.1 hC.2.1 hC.2.2.2.2.2.2.2.2 hW.1 h 2 (wW_at hg) rfl (vp_in_nI hk (by omega)) hd ?_
  rw [nI_clamp (by omega)]
  exact kk p e s m args below meth c dC dI cA ad A H locs ls hC hW hL
theorem g_iast {h N k : Nat} {i x : Int32} (n : Nat) (hn : pc + 1 = n) (hd : decode (mBy mi) pc = .ok (.iastore, 1)) (hg : G[h]? = some (.inl (0, N))) (hb : Nat.ble N 2147483647 = true) (he : i = nI k) (hk : k < N) (kk : Go G l mi n lv st (setA M h (upd (M.1 h) k x)) Q) : Go G l mi pc lv (.int x :: .int i :: .ref h :: st) M Q := by
  subst he
  have hb := Nat.le_of_ble_eq_true hb
  intro p e s m args below meth c dC dI cA ad A H locs ls hC hW hL
  subst hn
  refine va_iast hC.1 hC.2.1 hC.2.2.2.2.2.2.2.2 hW.1 hW.2.1 hW.2.2 h 0 (wW_at hg) rfl (vp_in_nI hk (by omega)) hd (fun H1 locs1 hP hD hS => ?_)
  rw [nI_clamp (by omega)] at hP hD
  have e1 : (wW G cA ad M).set h (ad h, .inl (cA 0, N, .inl (upd (M.1 h) k x))) = wW G cA ad (setA M h (upd (M.1 h) k x)) := wW_set hg (fun h' g' hne => cW_setA_ne hne) (by simp [cW, setA])
  rw [e1] at hP hD
  exact kk p e s m args below meth c dC dI cA ad A H1 locs1 ls hC ⟨hP, hD, hS⟩ hL
theorem nar_z {x : Int32} (h : x = 0 ∨ x = 1) : vp_nar .boolean x = x := by
  rcases h with rfl | rfl <;> decide
theorem g_zast {h N k : Nat} {i x : Int32} (n : Nat) (hn : pc + 1 = n) (hd : decode (mBy mi) pc = .ok (.bastore, 1)) (hg : G[h]? = some (.inl (1, N))) (hb : Nat.ble N 2147483647 = true) (he : i = nI k) (hk : k < N) (hx : x = 0 ∨ x = 1) (kk : Go G l mi n lv st (setA M h (upd (M.1 h) k x)) Q) : Go G l mi pc lv (.int x :: .int i :: .ref h :: st) M Q := by
  subst he
  have hb := Nat.le_of_ble_eq_true hb
  intro p e s m args below meth c dC dI cA ad A H locs ls hC hW hL
  subst hn
  refine va_zast hC.1 hC.2.1 hC.2.2.2.2.2.2.2.2 hW.1 hW.2.1 hW.2.2 h 1 (wW_at hg) rfl (vp_in_nI hk (by omega)) hd (fun H1 locs1 hP hD hS => ?_)
  rw [nI_clamp (by omega), nar_z hx] at hP hD
  have e1 : (wW G cA ad M).set h (ad h, .inl (cA 1, N, .inl (upd (M.1 h) k x))) = wW G cA ad (setA M h (upd (M.1 h) k x)) := wW_set hg (fun h' g' hne => cW_setA_ne hne) (by simp [cW, setA])
  rw [e1] at hP hD
  exact kk p e s m args below meth c dC dI cA ad A H1 locs1 ls hC ⟨hP, hD, hS⟩ hL
theorem g_bast {h N k : Nat} {i x : Int32} (n : Nat) (hn : pc + 1 = n) (hd : decode (mBy mi) pc = .ok (.bastore, 1)) (hg : G[h]? = some (.inl (2, N))) (hb : Nat.ble N 2147483647 = true) (he : i = nI k) (hk : k < N) (kk : Go G l mi n lv st (setA M h (upd (M.1 h) k (vp_nar .byte x))) Q) : Go G l mi pc lv (.int x :: .int i :: .ref h :: st) M Q := by
  subst he
  have hb := Nat.le_of_ble_eq_true hb
  intro p e s m args below meth c dC dI cA ad A H locs ls hC hW hL
  subst hn
  refine va_bast hC.1 hC.2.1 hC.2.2.2.2.2.2.2.2 hW.1 hW.2.1 hW.2.2 h 2 (wW_at hg) rfl (vp_in_nI hk (by omega)) hd (fun H1 locs1 hP hD hS => ?_)
  rw [nI_clamp (by omega)] at hP hD
  have e1 : (wW G cA ad M).set h (ad h, .inl (cA 2, N, .inl (upd (M.1 h) k (vp_nar .byte x)))) = wW G cA ad (setA M h (upd (M.1 h) k (vp_nar .byte x))) := wW_set hg (fun h' g' hne => cW_setA_ne hne) (by simp [cW, setA])
  rw [e1] at hP hD
  exact kk p e s m args below meth c dC dI cA ad A H1 locs1 ls hC ⟨hP, hD, hS⟩ hL
theorem g_alen {h N t : Nat} {ty : FieldType} (n : Nat) (hn : pc + 1 = n) (hd : decode (mBy mi) pc = .ok (.arraylength, 1)) (hg : G[h]? = some (.inl (t, N))) (ht : ∀ cA, (tysA cA)[t]? = some (cA t, ty)) (kk : Go G l mi n lv (.int (nI N) :: st) M Q) : Go G l mi pc lv (.ref h :: st) M Q := by
  intro p e s m args below meth c dC dI cA ad A H locs ls hC hW hL
  subst hn
  exact va_alen hC.1 hC.2.1 hC.2.2.2.2.2.2.2.2 hW.1 h t (wW_at hg) (ht cA) rfl hd (kk p e s m args below meth c dC dI cA ad A H locs ls hC hW hL)
/-! answers -/
theorem g_iret {x : Int32} (hr : mRt mi = some .int) (hd : decode (mBy mi) pc = .ok (.ireturn, 1)) (hq : Q (some (.inl x)) M) : Go G l mi pc lv [.int x] M Q := by
  intro p e s m args below meth c dC dI cA ad A H locs ls hC hW hL
  have hlocks := hC.2.2.2.2.2.2.1
  exact W.iret (v := x) hC.1 hC.2.1 (hC.2.2.1.trans hr) (fun t ht hW2 => ⟨⟨some (.inl x), M, rfl, hq, by rw [ht]; exact hW.1, va_K.moved hW2.alike hC.2.2.2.2.2.2.2.2, hW.2.1⟩, hW.2.2.F ht⟩) hW.2.2.2.2 hd
theorem g_zret {x : Int32} (hr : mRt mi = some .boolean) (hd : decode (mBy mi) pc = .ok (.ireturn, 1)) (hx : x = 0 ∨ x = 1) (hq : Q (some (.inl x)) M) : Go G l mi pc lv [.int x] M Q := by
  intro p e s m args below meth c dC dI cA ad A H locs ls hC hW hL
  have hlocks := hC.2.2.2.2.2.2.1
  exact W.zret (v := x) hC.1 hC.2.1 (hC.2.2.1.trans hr) (nar_b hx).1 (fun t ht hW2 => ⟨⟨some (.inl x), M, rfl, hq, by rw [ht]; exact hW.1, va_K.moved hW2.alike hC.2.2.2.2.2.2.2.2, hW.2.1⟩, hW.2.2.F ht⟩) hW.2.2.2.2 hd
theorem g_lret {x : Int64} (hr : mRt mi = some .long) (hd : decode (mBy mi) pc = .ok (.lreturn, 1)) (hq : Q (some (.inr x)) M) : Go G l mi pc lv [.long x] M Q := by
  intro p e s m args below meth c dC dI cA ad A H locs ls hC hW hL
  have hlocks := hC.2.2.2.2.2.2.1
  exact W.lret (v := x) hC.1 hC.2.1 (hC.2.2.1.trans hr) (fun t ht hW2 => ⟨⟨some (.inr x), M, rfl, hq, by rw [ht]; exact hW.1, va_K.moved hW2.alike hC.2.2.2.2.2.2.2.2, hW.2.1⟩, hW.2.2.F ht⟩) hW.2.2.2.2 hd
theorem g_vret (hr : mRt mi = none) (hd : decode (mBy mi) pc = .ok (.return_, 1)) (hq : Q none M) : Go G l mi pc lv [] M Q := by
  intro p e s m args below meth c dC dI cA ad A H locs ls hC hW hL
  have hlocks := hC.2.2.2.2.2.2.1
  exact W.vret hC.1 hC.2.1 (hC.2.2.1.trans hr) (fun t ht hW2 => ⟨⟨none, M, rfl, hq, by rw [ht]; exact hW.1, va_K.moved hW2.alike hC.2.2.2.2.2.2.2.2, hW.2.1⟩, hW.2.2.F ht⟩) hW.2.2.2.2 hd
/-! other words for the same -/
theorem g_top {x : Int32} (y : Int32) (h : x = y) (k : Go G l mi pc lv (.int y :: st) M Q) : Go G l mi pc lv (.int x :: st) M Q := by subst h; exact k
theorem g_topL {x : Int64} (y : Int64) (h : x = y) (k : Go G l mi pc lv (.long y :: st) M Q) : Go G l mi pc lv (.long x :: st) M Q := by subst h; exact k
theorem g_mem (M' : Mm) (h : M = M') (k : Go G l mi pc lv st M' Q) : Go G l mi pc lv st M Q := by subst h; exact k
theorem g_lv (lv' : List Value) (h : lv = lv') (k : Go G l mi pc lv' st M Q) : Go G l mi pc lv st M Q := by subst h; exact k
/-- forget a local -/
theorem g_fg (i : Nat) (k : Go G l mi pc (lv.set i .null) st M Q) : Go G l mi pc lv st M Q := by
  intro p e s m args below meth c dC dI cA ad A H locs ls hC hW hL
  refine k p e s m args below meth c dC dI cA ad A H locs ls hC hW ⟨hL.1, hL.2.1, fun q hq => hL.2.2 q ?_⟩
  obtain ⟨u, h1, h2, h3⟩ := asl_mem.mp hq
  refine asl_mem.mpr ⟨u, ?_, h2, h3⟩
  rw [List.getElem?_set] at h1
  split at h1
  · split at h1
    · cases h1; exact absurd rfl h2
    · cases h1
  · exact h1
theorem g_post {Q' : Rr → Mm → Prop} (h : ∀ r M, Q' r M → Q r M) (k : Go G l mi pc lv st M Q') : Go G l mi pc lv st M Q := by
  intro p e s m args below meth c dC dI cA ad A H locs ls hC hW hL T hT X
  obtain ⟨t, h1, o, h2, h3, ⟨⟨r, M', h4, h5, h6⟩, h8⟩, h7⟩ := k p e s m args below meth c dC dI cA ad A H locs ls hC hW hL T hT X
  exact ⟨t, h1, o, h2, h3, ⟨⟨r, M', h4, h r M' h5, h6⟩, h8⟩, h7⟩
end GM
/-- counting up: at the head with i, out of the head with i + 1 -/
theorem loop_up {P : Nat → Prop} (N : Nat) (last : P N) (step : ∀ i, i < N → P (i + 1) → P i) : ∀ i, i ≤ N → P i := by
  intro i hi
  obtain ⟨d, hd⟩ : ∃ d, N = i + d := ⟨N - i, by omega⟩
  induction d generalizing i with
  | zero => rw [show i = N by omega]; exact last
  | succ d ih => exact step i (by omega) (ih (i + 1) (by omega) (by omega))
