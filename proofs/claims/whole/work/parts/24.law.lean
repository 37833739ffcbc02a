/-! the law (written by gen_law.py; the claim's own words stand ahead, as the skeleton has them) -/
def R_law : String := "RammedCobblesLaw"
def lw_P (b : Addr) (xs : List Int32) (args : Array Value) (s : State) : Prop := args = #[.ref b] ∧ s.IntsAt b xs ∧ xs.length ≤ 2560 ∧ (Jvm.Cond.and given_1 narrow_1).before args s = true
def lw_Q (_ : Array Value) (s : State) (o : Outcome) (t : State) : Prop := o = .returned (some (.int 1)) ∧ Framed s o t [] 66 1751
def lw_Z (below : List Frame) (a : Array Value) (s : State) : State → Prop := fun t => ∃ o, t.status = .running ∧ Ended t below o ∧ lw_Q a s o t
/-- the law's own end, with 1 on the stack, nothing written that was there before, its room as the claim has it -/
theorem lw_ret {p : Program} {l : Launch} {e : Env} {s : State} {m : MethodId} {below : List Frame} {meth : Method} {c : Code} {b : Nat} (hx : p.tables.exec = Jvm.exec) (hb : c.code = code) (hr : meth.sig.returnType = ret) (hlocks : meth.locks = false) {pc : Nat} {H : Heap} {ls : Array Slot} (hdg : decode code pc = .ok (.ireturn, 1)) : W p l e room_1 s m #[Value.ref b] below meth c H [] 66 1751 (lw_Z below #[Value.ref b] s) (F0 m pc ls [.int 1]) := by
  intro T hT X
  obtain ⟨fs, hret, hrun, hended, hW, hframe⟩ := X.leave (v := some (.int 1)) (hlocks := hlocks) (fun h => by rw [hr] at h; cases h)
  have hmeth' : T.vm.method? m = some meth := X.method'
  refine ⟨T.setFrames fs, ?_, .returned (some (.int 1)), hrun, hended, rfl, ⟨_, rfl⟩, hW, hframe⟩
  jvm_step X.here [X.here.top, hx, hb, hdg, hmeth', hr, ret, narrow_b1]
  (try refine ⟨rfl, ?_⟩); (try refine ⟨rfl, ?_⟩)
  first | (intro acts; rw [hret _ acts rfl rfl rfl]) | rw [hret _ _ rfl rfl rfl]
  exact Steps.refl _
/-- what holds at the law's entry: the machine, the code, the tables' words (any of lw_tbl by 'hts w (by decide +kernel)'), the script of L ints xs at the cell b, what the Statement gives of the start (any of its parts by flat_of_before) -/
def lw_At (p : Program) (s : State) (m : MethodId) (meth : Method) (c : Code) (b L : Nat) (xs : Nat → Int32) : Prop :=
  p.tables.exec = Jvm.exec ∧ c.code = code ∧ meth.sig.returnType = ret ∧ c.maxLocals = 4 ∧ s.vm.findClass R_law = some m.cls ∧ (∀ w ∈ lw_tbl, w.before #[Value.ref b] s = true) ∧ va_X b L xs s s.heap ∧ b < s.heap.size ∧ meth.locks = false ∧ (Jvm.Cond.and given_1 narrow_1).before #[Value.ref b] s = true
/-- where the law's values lie: the class's object 0, the reference's 1, the script 2 -/
def adL (ad1 ad2 : Nat → Nat) (b : Nat) : Nat → Nat := fun h => if h = 0 then ad1 0 else if h = 1 then ad2 0 else b
/-- from here the law comes to its end with true -/
def LG (l : Launch) (b L : Nat) (xs : Nat → Int32) (pc : Nat) (lv st : List Value) (M1 M2 : Mm) : Prop :=
  ∀ (p : Program) (e : Env) (s : State) (m : MethodId) (below : List Frame) (meth : Method) (c : Code) (dC : Nat → ClassId) (dI : Nat → Nat → Nat) (cA : Nat → ClassId) (ad1 ad2 : Nat → Nat) (H : Heap) (locs : List Loc) (ls : Array Slot),
    lw_At p s m meth c b L xs → va_K (dC, dI) vwCl (tysA cA) s → va_P (dC, dI) vwCl (wW GC cA ad1 M1) H → va_P (dC, dI) vwCl (wW GM cA ad2 M2) H → va_D (fun q => s.heap.size ≤ q) (wW GC cA ad1 M1 ++ wW GM cA ad2 M2) → va_S (fun q => s.heap.size ≤ q) s.heap H locs → lv_has ls 4 (asl (adL ad1 ad2 b) lv) →
    W p l e room_1 s m #[Value.ref b] below meth c H locs 66 1751 (lw_Z below #[Value.ref b] s) (F0 m pc ls (st.map (tr (adL ad1 ad2 b))))
section LGR
variable {l : Launch} {b L : Nat} {xs : Nat → Int32} {pc : Nat} {lv st stk As : List Value} {M1 M2 : Mm} {Q2 : Rr → Mm → Prop} {mi2 : MI}
theorem lg_aload0 {x : Nat} (n : Nat) (hn : pc + 1 = n) (hd : decode code pc = .ok (.aload_n 0, 1)) (k : LG l b L xs n (.ref x :: lv) (.ref x :: st) M1 M2) : LG l b L xs pc (.ref x :: lv) st M1 M2 := by
  intro p e s m below meth c dC dI cA ad1 ad2 H locs ls C0 hK hP1 hP2 hD hS hL
  subst hn
  exact lv_aload_n C0.1 C0.2.1 (i := 0) hd rfl (lv_get (i := 0) (v := .ref x) hL rfl (fun h => by cases h)) (k p e s m below meth c dC dI cA ad1 ad2 H locs ls C0 hK hP1 hP2 hD hS hL)
theorem lg_aload1 {x : Nat} {x0 : Value} (n : Nat) (hn : pc + 1 = n) (hd : decode code pc = .ok (.aload_n 1, 1)) (k : LG l b L xs n (x0 :: .ref x :: lv) (.ref x :: st) M1 M2) : LG l b L xs pc (x0 :: .ref x :: lv) st M1 M2 := by
  intro p e s m below meth c dC dI cA ad1 ad2 H locs ls C0 hK hP1 hP2 hD hS hL
  subst hn
  exact lv_aload_n C0.1 C0.2.1 (i := 1) hd rfl (lv_get (i := 1) (v := .ref x) hL rfl (fun h => by cases h)) (k p e s m below meth c dC dI cA ad1 ad2 H locs ls C0 hK hP1 hP2 hD hS hL)
theorem lg_aload2 {x : Nat} {x0 x1 : Value} (n : Nat) (hn : pc + 1 = n) (hd : decode code pc = .ok (.aload_n 2, 1)) (k : LG l b L xs n (x0 :: x1 :: .ref x :: lv) (.ref x :: st) M1 M2) : LG l b L xs pc (x0 :: x1 :: .ref x :: lv) st M1 M2 := by
  intro p e s m below meth c dC dI cA ad1 ad2 H locs ls C0 hK hP1 hP2 hD hS hL
  subst hn
  exact lv_aload_n C0.1 C0.2.1 (i := 2) hd rfl (lv_get (i := 2) (v := .ref x) hL rfl (fun h => by cases h)) (k p e s m below meth c dC dI cA ad1 ad2 H locs ls C0 hK hP1 hP2 hD hS hL)
theorem lg_iload3 {x : Int32} {x0 x1 x2 : Value} (n : Nat) (hn : pc + 1 = n) (hd : decode code pc = .ok (.iload_n 3, 1)) (k : LG l b L xs n (x0 :: x1 :: x2 :: .int x :: lv) (.int x :: st) M1 M2) : LG l b L xs pc (x0 :: x1 :: x2 :: .int x :: lv) st M1 M2 := by
  intro p e s m below meth c dC dI cA ad1 ad2 H locs ls C0 hK hP1 hP2 hD hS hL
  subst hn
  exact lv_iload_n C0.1 C0.2.1 (i := 3) hd rfl (lv_get (i := 3) (v := .int x) hL rfl (fun h => by cases h)) (k p e s m below meth c dC dI cA ad1 ad2 H locs ls C0 hK hP1 hP2 hD hS hL)
theorem lg_iconst {a : Int} {v : Int32} (n : Nat) (hn : pc + 1 = n) (hd : decode code pc = .ok (.iconst a, 1)) (hv : Int32.ofInt a = v) (k : LG l b L xs n lv (.int v :: st) M1 M2) : LG l b L xs pc lv st M1 M2 := by
  intro p e s m below meth c dC dI cA ad1 ad2 H locs ls C0 hK hP1 hP2 hD hS hL
  subst hn
  exact lv_iconst C0.1 C0.2.1 hd hv (k p e s m below meth c dC dI cA ad1 ad2 H locs ls C0 hK hP1 hP2 hD hS hL)
theorem lg_bipush {a : Int} {v : Int32} (n : Nat) (hn : pc + 2 = n) (hd : decode code pc = .ok (.bipush a, 2)) (hv : (Int8.ofInt a).toInt32 = v) (k : LG l b L xs n lv (.int v :: st) M1 M2) : LG l b L xs pc lv st M1 M2 := by
  intro p e s m below meth c dC dI cA ad1 ad2 H locs ls C0 hK hP1 hP2 hD hS hL
  subst hn
  exact lv_bipush C0.1 C0.2.1 hd hv (k p e s m below meth c dC dI cA ad1 ad2 H locs ls C0 hK hP1 hP2 hD hS hL)
theorem lg_iadd {x y : Int32} (n : Nat) (hn : pc + 1 = n) (hd : decode code pc = .ok (.iadd, 1)) (k : LG l b L xs n lv (.int (x + y) :: st) M1 M2) : LG l b L xs pc lv (.int y :: .int x :: st) M1 M2 := by
  intro p e s m below meth c dC dI cA ad1 ad2 H locs ls C0 hK hP1 hP2 hD hS hL
  subst hn
  exact lv_iadd C0.1 C0.2.1 hd (k p e s m below meth c dC dI cA ad1 ad2 H locs ls C0 hK hP1 hP2 hD hS hL)
theorem lg_isub {x y : Int32} (n : Nat) (hn : pc + 1 = n) (hd : decode code pc = .ok (.isub, 1)) (k : LG l b L xs n lv (.int (x - y) :: st) M1 M2) : LG l b L xs pc lv (.int y :: .int x :: st) M1 M2 := by
  intro p e s m below meth c dC dI cA ad1 ad2 H locs ls C0 hK hP1 hP2 hD hS hL
  subst hn
  exact lv_isub C0.1 C0.2.1 hd (k p e s m below meth c dC dI cA ad1 ad2 H locs ls C0 hK hP1 hP2 hD hS hL)
theorem lg_iand {x y : Int32} (n : Nat) (hn : pc + 1 = n) (hd : decode code pc = .ok (.iand, 1)) (k : LG l b L xs n lv (.int (x &&& y) :: st) M1 M2) : LG l b L xs pc lv (.int y :: .int x :: st) M1 M2 := by
  intro p e s m below meth c dC dI cA ad1 ad2 H locs ls C0 hK hP1 hP2 hD hS hL
  subst hn
  exact lv_iand C0.1 C0.2.1 hd (k p e s m below meth c dC dI cA ad1 ad2 H locs ls C0 hK hP1 hP2 hD hS hL)
theorem lg_land {x y : Int64} (n : Nat) (hn : pc + 1 = n) (hd : decode code pc = .ok (.land, 1)) (k : LG l b L xs n lv (.long (x &&& y) :: st) M1 M2) : LG l b L xs pc lv (.long y :: .long x :: st) M1 M2 := by
  intro p e s m below meth c dC dI cA ad1 ad2 H locs ls C0 hK hP1 hP2 hD hS hL
  subst hn
  exact lv_land C0.1 C0.2.1 hd (k p e s m below meth c dC dI cA ad1 ad2 H locs ls C0 hK hP1 hP2 hD hS hL)
theorem lg_lor {x y : Int64} (n : Nat) (hn : pc + 1 = n) (hd : decode code pc = .ok (.lor, 1)) (k : LG l b L xs n lv (.long (x ||| y) :: st) M1 M2) : LG l b L xs pc lv (.long y :: .long x :: st) M1 M2 := by
  intro p e s m below meth c dC dI cA ad1 ad2 H locs ls C0 hK hP1 hP2 hD hS hL
  subst hn
  exact lv_lor C0.1 C0.2.1 hd (k p e s m below meth c dC dI cA ad1 ad2 H locs ls C0 hK hP1 hP2 hD hS hL)
theorem lg_i2l {x : Int32} (n : Nat) (hn : pc + 1 = n) (hd : decode code pc = .ok (.i2l, 1)) (k : LG l b L xs n lv (.long x.toInt64 :: st) M1 M2) : LG l b L xs pc lv (.int x :: st) M1 M2 := by
  intro p e s m below meth c dC dI cA ad1 ad2 H locs ls C0 hK hP1 hP2 hD hS hL
  subst hn
  exact lv_i2l C0.1 C0.2.1 hd rfl (k p e s m below meth c dC dI cA ad1 ad2 H locs ls C0 hK hP1 hP2 hD hS hL)
theorem lg_lshl {x : Int64} {y : Int32} (n : Nat) (hn : pc + 1 = n) (hd : decode code pc = .ok (.lshl, 1)) (k : LG l b L xs n lv (.long (x <<< (y.toInt64 &&& 63)) :: st) M1 M2) : LG l b L xs pc lv (.int y :: .long x :: st) M1 M2 := by
  intro p e s m below meth c dC dI cA ad1 ad2 H locs ls C0 hK hP1 hP2 hD hS hL
  subst hn
  exact lv_lshl C0.1 C0.2.1 hd rfl (k p e s m below meth c dC dI cA ad1 ad2 H locs ls C0 hK hP1 hP2 hD hS hL)
theorem lg_lcmp {x y : Int64} (n : Nat) (hn : pc + 1 = n) (hd : decode code pc = .ok (.lcmp, 1)) (k : LG l b L xs n lv (.int (lg_cmp x y) :: st) M1 M2) : LG l b L xs pc lv (.long y :: .long x :: st) M1 M2 := by
  intro p e s m below meth c dC dI cA ad1 ad2 H locs ls C0 hK hP1 hP2 hD hS hL
  subst hn
  exact W.lcmp C0.1 C0.2.1 hd (k p e s m below meth c dC dI cA ad1 ad2 H locs ls C0 hK hP1 hP2 hD hS hL)
theorem lg_ldc2 {ix : Nat} {v : Int64} (n : Nat) (hn : pc + 3 = n) (hd : decode code pc = .ok (.ldc2_w ix, 3)) (hc : Cond.constantLong RL ix v ∈ wTb) (k : LG l b L xs n lv (.long v :: st) M1 M2) : LG l b L xs pc lv st M1 M2 := by
  intro p e s m below meth c dC dI cA ad1 ad2 H locs ls C0 hK hP1 hP2 hD hS hL
  subst hn
  exact lv_ldc2 C0.1 C0.2.1 C0.2.2.2.2.1 (C0.2.2.2.2.2.1 _ (wT_of hc)) hd (k p e s m below meth c dC dI cA ad1 ad2 H locs ls C0 hK hP1 hP2 hD hS hL)
theorem lg_sld {i : Int32} {k : Nat} (n : Nat) (hn : pc + 1 = n) (hd : decode code pc = .ok (.iaload, 1)) (he : i = nI k) (hk : k < L) (hL2 : L ≤ 2560) (kk : LG l b L xs n lv (.int (xs k) :: st) M1 M2) : LG l b L xs pc lv (.int i :: .ref 2 :: st) M1 M2 := by
  intro p e s m below meth c dC dI cA ad1 ad2 H locs ls C0 hK hP1 hP2 hD hS hL
  subst hn
  subst he
  refine va_sld C0.1 C0.2.1 C0.2.2.2.2.2.2.1 C0.2.2.2.2.2.2.2.1 (A := fun q => s.heap.size ≤ q) (Nat.not_le.mpr C0.2.2.2.2.2.2.2.1) hS (vp_in_nI hk (by omega)) hd ?_
  rw [nI_clamp (by omega)]
  exact kk p e s m below meth c dC dI cA ad1 ad2 H locs ls C0 hK hP1 hP2 hD hS hL
theorem lg_slen (n : Nat) (hn : pc + 1 = n) (hd : decode code pc = .ok (.arraylength, 1)) (kk : LG l b L xs n lv (.int (nI L) :: st) M1 M2) : LG l b L xs pc lv (.ref 2 :: st) M1 M2 := by
  intro p e s m below meth c dC dI cA ad1 ad2 H locs ls C0 hK hP1 hP2 hD hS hL
  subst hn
  exact va_slen C0.1 C0.2.1 C0.2.2.2.2.2.2.1 C0.2.2.2.2.2.2.2.1 (A := fun q => s.heap.size ≤ q) (Nat.not_le.mpr C0.2.2.2.2.2.2.2.1) hS hd (kk p e s m below meth c dC dI cA ad1 ad2 H locs ls C0 hK hP1 hP2 hD hS hL)
theorem lg_cmpeq {x y : Int32} {off : Int} (tgt n : Nat) (hn : pc + 3 = n) (hd : decode code pc = .ok (.if_icmp .eq off, 3)) (ht : (pc : Int) + off = (tgt : Int)) (kt : x = y → LG l b L xs tgt lv st M1 M2) (kf : ¬ x = y → LG l b L xs n lv st M1 M2) : LG l b L xs pc lv (.int y :: .int x :: st) M1 M2 := by
  intro p e s m below meth c dC dI cA ad1 ad2 H locs ls C0 hK hP1 hP2 hD hS hL
  subst hn
  exact lv_icmp_eq C0.1 C0.2.1 hd ht (fun h => kt h p e s m below meth c dC dI cA ad1 ad2 H locs ls C0 hK hP1 hP2 hD hS hL) (fun h => kf h p e s m below meth c dC dI cA ad1 ad2 H locs ls C0 hK hP1 hP2 hD hS hL)
theorem lg_cmpgt {x y : Int32} {off : Int} (tgt n : Nat) (hn : pc + 3 = n) (hd : decode code pc = .ok (.if_icmp .gt off, 3)) (ht : (pc : Int) + off = (tgt : Int)) (kt : y < x → LG l b L xs tgt lv st M1 M2) (kf : ¬ y < x → LG l b L xs n lv st M1 M2) : LG l b L xs pc lv (.int y :: .int x :: st) M1 M2 := by
  intro p e s m below meth c dC dI cA ad1 ad2 H locs ls C0 hK hP1 hP2 hD hS hL
  subst hn
  exact lv_icmp_gt C0.1 C0.2.1 hd ht (fun h => kt h p e s m below meth c dC dI cA ad1 ad2 H locs ls C0 hK hP1 hP2 hD hS hL) (fun h => kf h p e s m below meth c dC dI cA ad1 ad2 H locs ls C0 hK hP1 hP2 hD hS hL)
theorem lg_ifeq {x : Int32} {off : Int} (tgt n : Nat) (hn : pc + 3 = n) (hd : decode code pc = .ok (.ifCond .eq off, 3)) (ht : (pc : Int) + off = (tgt : Int)) (kt : x = 0 → LG l b L xs tgt lv st M1 M2) (kf : ¬ x = 0 → LG l b L xs n lv st M1 M2) : LG l b L xs pc lv (.int x :: st) M1 M2 := by
  intro p e s m below meth c dC dI cA ad1 ad2 H locs ls C0 hK hP1 hP2 hD hS hL
  subst hn
  exact lv_if_eq C0.1 C0.2.1 hd ht (fun h => kt h p e s m below meth c dC dI cA ad1 ad2 H locs ls C0 hK hP1 hP2 hD hS hL) (fun h => kf h p e s m below meth c dC dI cA ad1 ad2 H locs ls C0 hK hP1 hP2 hD hS hL)
theorem lg_goto {off : Int} (tgt : Nat) (hd : decode code pc = .ok (.goto off, 3)) (ht : (pc : Int) + off = (tgt : Int)) (k : LG l b L xs tgt lv st M1 M2) : LG l b L xs pc lv st M1 M2 := by
  intro p e s m below meth c dC dI cA ad1 ad2 H locs ls C0 hK hP1 hP2 hD hS hL
  exact lv_goto C0.1 C0.2.1 hd ht (k p e s m below meth c dC dI cA ad1 ad2 H locs ls C0 hK hP1 hP2 hD hS hL)
theorem lg_iinc3 {x0 x1 x2 : Value} {x : Int32} {a : Int} (n : Nat) (hn : pc + 3 = n) (hd : decode code pc = .ok (.iinc 3 a, 3)) (hp : x2.category = 1) (v : Int32) (hv : x + Int32.ofInt a = v) (k : LG l b L xs n (x0 :: x1 :: x2 :: .int v :: lv) st M1 M2) : LG l b L xs pc (x0 :: x1 :: x2 :: .int x :: lv) st M1 M2 := by
  intro p e s m below meth c dC dI cA ad1 ad2 H locs ls C0 hK hP1 hP2 hD hS hL
  subst hn
  obtain ⟨z, hz⟩ := List.getElem?_of_mem (asl_mem (ad := adL ad1 ad2 b) (lv := x0 :: x1 :: x2 :: .int x :: lv) (q := (3, .int x)) |>.mpr ⟨.int x, rfl, (fun h => by cases h), rfl⟩)
  exact lv_iinc (i := 3) C0.1 C0.2.1 hd hL hz hv (by decide) rfl (fun ls' hl' => k p e s m below meth c dC dI cA ad1 ad2 H locs ls' C0 hK hP1 hP2 hD hS (lv_put1 (i := 3) (v := .int v) (lv := x0 :: x1 :: x2 :: .int x :: lv) (fun u h0 hu => by (first | (cases hu; exact hp) | (exact absurd h0 (by decide)))) hl'))
theorem lg_istore3 {x0 x1 x2 y : Value} {x : Int32} (n : Nat) (hn : pc + 1 = n) (hd : decode code pc = .ok (.istore_n 3, 1)) (hp : x2.category = 1) (k : LG l b L xs n (x0 :: x1 :: x2 :: .int x :: lv) st M1 M2) : LG l b L xs pc (x0 :: x1 :: x2 :: y :: lv) (.int x :: st) M1 M2 := by
  intro p e s m below meth c dC dI cA ad1 ad2 H locs ls C0 hK hP1 hP2 hD hS hL
  subst hn
  exact lv_istore_n (i := 3) C0.1 C0.2.1 hd rfl hL (by decide) rfl (fun ls' hl' => k p e s m below meth c dC dI cA ad1 ad2 H locs ls' C0 hK hP1 hP2 hD hS (lv_put1 (i := 3) (v := .int x) (lv := x0 :: x1 :: x2 :: y :: lv) (fun u h0 hu => by (first | (cases hu; exact hp) | (exact absurd h0 (by decide)))) hl'))
theorem lg_tabOut {x : Int32} {df lo hi : Int} {offs : Array Int} {len : Nat} (tgt : Nat) (hd : decode code pc = .ok (.tableswitch df lo hi offs, len)) (h : x.toInt < lo ∨ hi < x.toInt) (ht : (pc : Int) + df = (tgt : Int)) (k : LG l b L xs tgt lv st M1 M2) : LG l b L xs pc lv (.int x :: st) M1 M2 := by
  intro p e s m below meth c dC dI cA ad1 ad2 H locs ls C0 hK hP1 hP2 hD hS hL
  exact lv_tableOut C0.1 C0.2.1 hd h ht (k p e s m below meth c dC dI cA ad1 ad2 H locs ls C0 hK hP1 hP2 hD hS hL)
theorem lg_tabIn {x : Int32} {df lo hi off : Int} {offs : Array Int} {len : Nat} (tgt : Nat) (hd : decode code pc = .ok (.tableswitch df lo hi offs, len)) (h1 : ¬ x.toInt < lo) (h2 : ¬ hi < x.toInt) (ho : offs[(x.toInt - lo).toNat]? = some off) (ht : (pc : Int) + off = (tgt : Int)) (k : LG l b L xs tgt lv st M1 M2) : LG l b L xs pc lv (.int x :: st) M1 M2 := by
  intro p e s m below meth c dC dI cA ad1 ad2 H locs ls C0 hK hP1 hP2 hD hS hL
  exact lv_tableIn C0.1 C0.2.1 hd h1 h2 ho ht (k p e s m below meth c dC dI cA ad1 ad2 H locs ls C0 hK hP1 hP2 hD hS hL)
theorem lg_top {x : Int32} (y : Int32) (h : x = y) (k : LG l b L xs pc lv (.int y :: st) M1 M2) : LG l b L xs pc lv (.int x :: st) M1 M2 := by subst h; exact k
theorem lg_ret (hd : decode code pc = .ok (.ireturn, 1)) : LG l b L xs pc lv [.int 1] M1 M2 := by
  intro p e s m below meth c dC dI cA ad1 ad2 H locs ls C0 hK hP1 hP2 hD hS hL
  refine va_forget (fun q hq => hS.2.2 q hq) ?_
  exact lw_ret C0.1 C0.2.1 C0.2.2.1 C0.2.2.2.2.2.2.2.2.1 hd
theorem lg_aux {G : Sh} {M : Mm} {w0 : va_W} {p : Program} {e : Env} {s : State} {m : MethodId} {args a : Array Value} {below : List Frame} {meth : Method} {c : Code} {dC : Nat → ClassId} {dI : Nat → Nat → Nat} {cA : Nat → ClassId} {ad : Nat → Nat} {A : Nat → Prop} {H : Heap} {locs : List Loc} {ls : Array Slot} {st0 rest : List Value} {R : Room} {Z : State → Prop} {cells slots : Nat}
    (hr : va_Run p l e R s m args below meth c H locs cells slots 0 0 (F0 m pc ls st0) rest (QQ G dC dI cA ad (va_A (wW G cA ad M) H.size) Q2 a) (va_A (wW G cA ad M) H.size)) (hP0 : va_P (dC, dI) vwCl w0 H) (hD : va_D A (w0 ++ wW G cA ad M)) (hS : va_S A s.heap H locs) (hA : ∀ q, s.heap.size ≤ q → A q)
    (kk : ∀ (r : Rr) (N : Mm) (H1 : Heap) (locs1 : List Loc), Q2 r N → va_P (dC, dI) vwCl w0 H1 → va_P (dC, dI) vwCl (wW G cA ad N) H1 → va_D A (w0 ++ wW G cA ad N) → va_S A s.heap H1 locs1 → W p l e R s m args below meth c H1 locs1 cells slots Z (F0 m (pc + 3) ls ((rV r).toList ++ rest))) : W p l e R s m args below meth c H locs cells slots Z (F0 m pc ls st0) := by
  intro T hT X
  have hA1 := aw_r hD hS hA
  obtain ⟨v, st₀, t, T', L, h0, X', hL, e1, e2, ⟨⟨r, N, hv, hq, hP1, hK, hD1⟩, hz, hk⟩, stp⟩ := hr T hT X
  have hv2 : v = rV r := by injection hv
  subst hv2
  rw [h0] at hz hk
  obtain ⟨j1, j2⟩ := sep_join hP0 hD hk hA1 hD1
  obtain ⟨t2, a1, b1⟩ := kk r N T'.heap (locs ++ L) hq (by rw [e1]; exact j1) (by rw [e1]; exact hP1) j2 ⟨Nat.le_trans hS.1 (by rw [e1]; exact hz), fun q h1 h2 => by rw [e1, hk q (Nat.lt_of_lt_of_le h1 hS.1) (fun z => h2 (hA1 q z))]; exact hS.2.1 q h1 h2, fun q hq => by
      rcases List.mem_append.mp hq with h | h
      · exact hS.2.2 q h
      · exact hA1 _ (hL q h)⟩ T' rfl X'
  exact ⟨t2, stp t2 a1, b1⟩
theorem lg_callC {idx : Nat} (n na : Nat) (hn : pc + 3 = n) (hl : LkV RL idx mi2 na 10) (hd : decode code pc = .ok (.invokevirtual idx, 3)) (hR : Nat.ble (mFr mi2 + 1) 11 = true ∧ Nat.ble (8 + (mMx mi2 + 11) + mLo mi2) 430 = true) (hAs : ∀ ad, As.map (tr ad) = As) (ok : Ok GC l mi2 (.ref 0 :: As) M1 Q2) (hs : stk = As.reverse ++ .ref 0 :: st) (ha : As.length = na) (hw : Nat.ble ((st.map fun v => v.category).sum) 8 = true) (kk : ∀ (r : Rr) (N1 : Mm), Q2 r N1 → LG l b L xs n lv ((rV r).toList ++ st) N1 M2) : LG l b L xs pc lv stk M1 M2 := by
  intro p e s m below meth c dC dI cA ad1 ad2 H locs ls C0 hK hP1 hP2 hD hS hL
  subst hn
  subst hs
  obtain ⟨⟨l1, l2, l3, l4⟩, l5, l6, l7, T, N, l8⟩ := hl
  have hts : ∀ w ∈ wTb, w.before #[Value.ref b] s = true := fun w hw => C0.2.2.2.2.2.1 w (wT_of hw)
  refine lg_aux (Q2 := Q2) (rest := st.map (tr (adL ad1 ad2 b))) (va_runV (As := As.map (tr ad1)) (b := ad1 0) (C := (mNm mi2).cls) (Ts := wTb) (n := na) (ws := mWs mi2) (rm := mRm mi2) ⟨C0.1, C0.2.1, C0.2.2.2.1, C0.2.2.2.2.1, hts⟩ (ok dC dI cA ad1 H.size) ⟨⟨rfl, rfl, Nat.le_of_ble_eq_true hR.1, Nat.le_of_ble_eq_true hR.2, ?_, List.mem_cons_self, hts _ l1, hts _ l2, l3, desc_n l4, hts _ l5⟩, hts _ l6, hts _ l7⟩ ⟨pp_blind, va_recv hK hP1 l8 (wW_at (G := GC) (h := 0) rfl), fun U hU hv => ?_⟩ rfl (by rw [List.length_map]; exact ha) hL.1 ?_ (lv_room (by rw [tr_sum]; exact Nat.le_of_ble_eq_true hw)) hd ⟨Nat.le_refl _, Nat.le_refl _⟩) hP2 (va_D_sw hD) hS (fun q h => h) (fun r N1 H1 locs1 hq hP0n hP1n hDn hSn => ?_)
  · intro w hw a' U hv
    rcases List.mem_cons.mp hw with rfl | hw
    · exact wT_warm hts _ l1 a' U hv
    · exact wT_warm hts _ hw a' U hv
  · exact ⟨rfl, by rw [hU], by rw [hU]; exact hP1, va_K.moved hv.alike hK, (va_D_l hD).weaken (fun _ _ _ _ => trivial)⟩
  · show (As.reverse ++ Value.ref 0 :: st).map (tr (adL ad1 ad2 b)) = (As.map (tr ad1)).reverse ++ Value.ref (ad1 0) :: st.map (tr (adL ad1 ad2 b))
    rw [List.map_append, List.map_reverse, hAs, hAs]
    rfl
  · rw [rV_tr]
    exact kk r N1 hq p e s m below meth c dC dI cA ad1 ad2 H1 locs1 ls C0 hK hP1n hP0n (va_D_sw hDn) hSn hL
theorem lg_callM {idx : Nat} (n na : Nat) (hn : pc + 3 = n) (hl : LkV RL idx mi2 na 11) (hd : decode code pc = .ok (.invokevirtual idx, 3)) (hR : Nat.ble (mFr mi2 + 1) 11 = true ∧ Nat.ble (8 + (mMx mi2 + 11) + mLo mi2) 430 = true) (hAs : ∀ ad, As.map (tr ad) = As) (ok : Ok GM l mi2 (.ref 0 :: As) M2 Q2) (hs : stk = As.reverse ++ .ref 1 :: st) (ha : As.length = na) (hw : Nat.ble ((st.map fun v => v.category).sum) 8 = true) (kk : ∀ (r : Rr) (N1 : Mm), Q2 r N1 → LG l b L xs n lv ((rV r).toList ++ st) M1 N1) : LG l b L xs pc lv stk M1 M2 := by
  intro p e s m below meth c dC dI cA ad1 ad2 H locs ls C0 hK hP1 hP2 hD hS hL
  subst hn
  subst hs
  obtain ⟨⟨l1, l2, l3, l4⟩, l5, l6, l7, T, N, l8⟩ := hl
  have hts : ∀ w ∈ wTb, w.before #[Value.ref b] s = true := fun w hw => C0.2.2.2.2.2.1 w (wT_of hw)
  refine lg_aux (Q2 := Q2) (rest := st.map (tr (adL ad1 ad2 b))) (va_runV (As := As.map (tr ad2)) (b := ad2 0) (C := (mNm mi2).cls) (Ts := wTb) (n := na) (ws := mWs mi2) (rm := mRm mi2) ⟨C0.1, C0.2.1, C0.2.2.2.1, C0.2.2.2.2.1, hts⟩ (ok dC dI cA ad2 H.size) ⟨⟨rfl, rfl, Nat.le_of_ble_eq_true hR.1, Nat.le_of_ble_eq_true hR.2, ?_, List.mem_cons_self, hts _ l1, hts _ l2, l3, desc_n l4, hts _ l5⟩, hts _ l6, hts _ l7⟩ ⟨pp_blind, va_recv hK hP2 l8 (wW_at (G := GM) (h := 0) rfl), fun U hU hv => ?_⟩ rfl (by rw [List.length_map]; exact ha) hL.1 ?_ (lv_room (by rw [tr_sum]; exact Nat.le_of_ble_eq_true hw)) hd ⟨Nat.le_refl _, Nat.le_refl _⟩) hP1 hD hS (fun q h => h) (fun r N1 H1 locs1 hq hP0n hP1n hDn hSn => ?_)
  · intro w hw a' U hv
    rcases List.mem_cons.mp hw with rfl | hw
    · exact wT_warm hts _ l1 a' U hv
    · exact wT_warm hts _ hw a' U hv
  · exact ⟨rfl, by rw [hU], by rw [hU]; exact hP2, va_K.moved hv.alike hK, (va_D_r hD).weaken (fun _ _ _ _ => trivial)⟩
  · show (As.reverse ++ Value.ref 1 :: st).map (tr (adL ad1 ad2 b)) = (As.map (tr ad2)).reverse ++ Value.ref (ad2 0) :: st.map (tr (adL ad1 ad2 b))
    rw [List.map_append, List.map_reverse, hAs, hAs]
    rfl
  · rw [rV_tr]
    exact kk r N1 hq p e s m below meth c dC dI cA ad1 ad2 H1 locs1 ls C0 hK hP0n hP1n hDn hSn hL
end LGR
