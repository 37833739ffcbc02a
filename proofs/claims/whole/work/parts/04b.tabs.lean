theorem g_tab3 {G : Sh} {l : Launch} {mi : MI} {pc : Nat} {lv st : List Value} {M : Mm} {Q : Rr → Mm → Prop} {x : Int32} {df lo hi : Int} {len : Nat} {o0 o1 o2 : Int} (v0 v1 v2 : Int32) (td t0 t1 t2 : Nat) (hd : decode (mBy mi) pc = .ok (.tableswitch df lo hi #[o0, o1, o2], len)) (hh : hi = lo + 2) (htd : (pc : Int) + df = (td : Int)) (ht0 : (pc : Int) + o0 = (t0 : Int)) (ht1 : (pc : Int) + o1 = (t1 : Int)) (ht2 : (pc : Int) + o2 = (t2 : Int)) (hv0 : v0.toInt = lo + 0) (hv1 : v1.toInt = lo + 1) (hv2 : v2.toInt = lo + 2) (kd : (x.toInt < lo ∨ hi < x.toInt) → Go G l mi td lv st M Q) (k0 : x = v0 → Go G l mi t0 lv st M Q) (k1 : x = v1 → Go G l mi t1 lv st M Q) (k2 : x = v2 → Go G l mi t2 lv st M Q) : Go G l mi pc lv (.int x :: st) M Q := by
  by_cases h : x.toInt < lo ∨ hi < x.toInt
  · exact g_tabOut td hd h htd (kd h)
  · have h1 : ¬ x.toInt < lo := fun z => h (Or.inl z)
    have h2 : ¬ hi < x.toInt := fun z => h (Or.inr z)
    obtain ⟨k, hk, h3⟩ : ∃ k : Nat, k < 3 ∧ x.toInt = lo + (k : Int) := ⟨(x.toInt - lo).toNat, by omega, by omega⟩
    match k, hk, h3 with
    | 0, _, h3 =>
      have h3 : x.toInt = lo + 0 := h3
      exact g_tabIn t0 hd h1 h2 (by rw [h3, show (lo + (0 : Int) - lo).toNat = 0 by omega]; rfl) ht0 (k0 (Int32.toInt_inj.mp (h3.trans hv0.symm)))
    | 1, _, h3 =>
      have h3 : x.toInt = lo + 1 := h3
      exact g_tabIn t1 hd h1 h2 (by rw [h3, show (lo + (1 : Int) - lo).toNat = 1 by omega]; rfl) ht1 (k1 (Int32.toInt_inj.mp (h3.trans hv1.symm)))
    | 2, _, h3 =>
      have h3 : x.toInt = lo + 2 := h3
      exact g_tabIn t2 hd h1 h2 (by rw [h3, show (lo + (2 : Int) - lo).toNat = 2 by omega]; rfl) ht2 (k2 (Int32.toInt_inj.mp (h3.trans hv2.symm)))
theorem g_tab4 {G : Sh} {l : Launch} {mi : MI} {pc : Nat} {lv st : List Value} {M : Mm} {Q : Rr → Mm → Prop} {x : Int32} {df lo hi : Int} {len : Nat} {o0 o1 o2 o3 : Int} (v0 v1 v2 v3 : Int32) (td t0 t1 t2 t3 : Nat) (hd : decode (mBy mi) pc = .ok (.tableswitch df lo hi #[o0, o1, o2, o3], len)) (hh : hi = lo + 3) (htd : (pc : Int) + df = (td : Int)) (ht0 : (pc : Int) + o0 = (t0 : Int)) (ht1 : (pc : Int) + o1 = (t1 : Int)) (ht2 : (pc : Int) + o2 = (t2 : Int)) (ht3 : (pc : Int) + o3 = (t3 : Int)) (hv0 : v0.toInt = lo + 0) (hv1 : v1.toInt = lo + 1) (hv2 : v2.toInt = lo + 2) (hv3 : v3.toInt = lo + 3) (kd : (x.toInt < lo ∨ hi < x.toInt) → Go G l mi td lv st M Q) (k0 : x = v0 → Go G l mi t0 lv st M Q) (k1 : x = v1 → Go G l mi t1 lv st M Q) (k2 : x = v2 → Go G l mi t2 lv st M Q) (k3 : x = v3 → Go G l mi t3 lv st M Q) : Go G l mi pc lv (.int x :: st) M Q := by
  by_cases h : x.toInt < lo ∨ hi < x.toInt
  · exact g_tabOut td hd h htd (kd h)
  · have h1 : ¬ x.toInt < lo := fun z => h (Or.inl z)
    have h2 : ¬ hi < x.toInt := fun z => h (Or.inr z)
    obtain ⟨k, hk, h3⟩ : ∃ k : Nat, k < 4 ∧ x.toInt = lo + (k : Int) := ⟨(x.toInt - lo).toNat, by omega, by omega⟩
    match k, hk, h3 with
    | 0, _, h3 =>
      have h3 : x.toInt = lo + 0 := h3
      exact g_tabIn t0 hd h1 h2 (by rw [h3, show (lo + (0 : Int) - lo).toNat = 0 by omega]; rfl) ht0 (k0 (Int32.toInt_inj.mp (h3.trans hv0.symm)))
    | 1, _, h3 =>
      have h3 : x.toInt = lo + 1 := h3
      exact g_tabIn t1 hd h1 h2 (by rw [h3, show (lo + (1 : Int) - lo).toNat = 1 by omega]; rfl) ht1 (k1 (Int32.toInt_inj.mp (h3.trans hv1.symm)))
    | 2, _, h3 =>
      have h3 : x.toInt = lo + 2 := h3
      exact g_tabIn t2 hd h1 h2 (by rw [h3, show (lo + (2 : Int) - lo).toNat = 2 by omega]; rfl) ht2 (k2 (Int32.toInt_inj.mp (h3.trans hv2.symm)))
    | 3, _, h3 =>
      have h3 : x.toInt = lo + 3 := h3
      exact g_tabIn t3 hd h1 h2 (by rw [h3, show (lo + (3 : Int) - lo).toNat = 3 by omega]; rfl) ht3 (k3 (Int32.toInt_inj.mp (h3.trans hv3.symm)))
theorem g_tab5 {G : Sh} {l : Launch} {mi : MI} {pc : Nat} {lv st : List Value} {M : Mm} {Q : Rr → Mm → Prop} {x : Int32} {df lo hi : Int} {len : Nat} {o0 o1 o2 o3 o4 : Int} (v0 v1 v2 v3 v4 : Int32) (td t0 t1 t2 t3 t4 : Nat) (hd : decode (mBy mi) pc = .ok (.tableswitch df lo hi #[o0, o1, o2, o3, o4], len)) (hh : hi = lo + 4) (htd : (pc : Int) + df = (td : Int)) (ht0 : (pc : Int) + o0 = (t0 : Int)) (ht1 : (pc : Int) + o1 = (t1 : Int)) (ht2 : (pc : Int) + o2 = (t2 : Int)) (ht3 : (pc : Int) + o3 = (t3 : Int)) (ht4 : (pc : Int) + o4 = (t4 : Int)) (hv0 : v0.toInt = lo + 0) (hv1 : v1.toInt = lo + 1) (hv2 : v2.toInt = lo + 2) (hv3 : v3.toInt = lo + 3) (hv4 : v4.toInt = lo + 4) (kd : (x.toInt < lo ∨ hi < x.toInt) → Go G l mi td lv st M Q) (k0 : x = v0 → Go G l mi t0 lv st M Q) (k1 : x = v1 → Go G l mi t1 lv st M Q) (k2 : x = v2 → Go G l mi t2 lv st M Q) (k3 : x = v3 → Go G l mi t3 lv st M Q) (k4 : x = v4 → Go G l mi t4 lv st M Q) : Go G l mi pc lv (.int x :: st) M Q := by
  by_cases h : x.toInt < lo ∨ hi < x.toInt
  · exact g_tabOut td hd h htd (kd h)
  · have h1 : ¬ x.toInt < lo := fun z => h (Or.inl z)
    have h2 : ¬ hi < x.toInt := fun z => h (Or.inr z)
    obtain ⟨k, hk, h3⟩ : ∃ k : Nat, k < 5 ∧ x.toInt = lo + (k : Int) := ⟨(x.toInt - lo).toNat, by omega, by omega⟩
    match k, hk, h3 with
    | 0, _, h3 =>
      have h3 : x.toInt = lo + 0 := h3
      exact g_tabIn t0 hd h1 h2 (by rw [h3, show (lo + (0 : Int) - lo).toNat = 0 by omega]; rfl) ht0 (k0 (Int32.toInt_inj.mp (h3.trans hv0.symm)))
    | 1, _, h3 =>
      have h3 : x.toInt = lo + 1 := h3
      exact g_tabIn t1 hd h1 h2 (by rw [h3, show (lo + (1 : Int) - lo).toNat = 1 by omega]; rfl) ht1 (k1 (Int32.toInt_inj.mp (h3.trans hv1.symm)))
    | 2, _, h3 =>
      have h3 : x.toInt = lo + 2 := h3
      exact g_tabIn t2 hd h1 h2 (by rw [h3, show (lo + (2 : Int) - lo).toNat = 2 by omega]; rfl) ht2 (k2 (Int32.toInt_inj.mp (h3.trans hv2.symm)))
    | 3, _, h3 =>
      have h3 : x.toInt = lo + 3 := h3
      exact g_tabIn t3 hd h1 h2 (by rw [h3, show (lo + (3 : Int) - lo).toNat = 3 by omega]; rfl) ht3 (k3 (Int32.toInt_inj.mp (h3.trans hv3.symm)))
    | 4, _, h3 =>
      have h3 : x.toInt = lo + 4 := h3
      exact g_tabIn t4 hd h1 h2 (by rw [h3, show (lo + (4 : Int) - lo).toNat = 4 by omega]; rfl) ht4 (k4 (Int32.toInt_inj.mp (h3.trans hv4.symm)))
theorem g_tab6 {G : Sh} {l : Launch} {mi : MI} {pc : Nat} {lv st : List Value} {M : Mm} {Q : Rr → Mm → Prop} {x : Int32} {df lo hi : Int} {len : Nat} {o0 o1 o2 o3 o4 o5 : Int} (v0 v1 v2 v3 v4 v5 : Int32) (td t0 t1 t2 t3 t4 t5 : Nat) (hd : decode (mBy mi) pc = .ok (.tableswitch df lo hi #[o0, o1, o2, o3, o4, o5], len)) (hh : hi = lo + 5) (htd : (pc : Int) + df = (td : Int)) (ht0 : (pc : Int) + o0 = (t0 : Int)) (ht1 : (pc : Int) + o1 = (t1 : Int)) (ht2 : (pc : Int) + o2 = (t2 : Int)) (ht3 : (pc : Int) + o3 = (t3 : Int)) (ht4 : (pc : Int) + o4 = (t4 : Int)) (ht5 : (pc : Int) + o5 = (t5 : Int)) (hv0 : v0.toInt = lo + 0) (hv1 : v1.toInt = lo + 1) (hv2 : v2.toInt = lo + 2) (hv3 : v3.toInt = lo + 3) (hv4 : v4.toInt = lo + 4) (hv5 : v5.toInt = lo + 5) (kd : (x.toInt < lo ∨ hi < x.toInt) → Go G l mi td lv st M Q) (k0 : x = v0 → Go G l mi t0 lv st M Q) (k1 : x = v1 → Go G l mi t1 lv st M Q) (k2 : x = v2 → Go G l mi t2 lv st M Q) (k3 : x = v3 → Go G l mi t3 lv st M Q) (k4 : x = v4 → Go G l mi t4 lv st M Q) (k5 : x = v5 → Go G l mi t5 lv st M Q) : Go G l mi pc lv (.int x :: st) M Q := by
  by_cases h : x.toInt < lo ∨ hi < x.toInt
  · exact g_tabOut td hd h htd (kd h)
  · have h1 : ¬ x.toInt < lo := fun z => h (Or.inl z)
    have h2 : ¬ hi < x.toInt := fun z => h (Or.inr z)
    obtain ⟨k, hk, h3⟩ : ∃ k : Nat, k < 6 ∧ x.toInt = lo + (k : Int) := ⟨(x.toInt - lo).toNat, by omega, by omega⟩
    match k, hk, h3 with
    | 0, _, h3 =>
      have h3 : x.toInt = lo + 0 := h3
      exact g_tabIn t0 hd h1 h2 (by rw [h3, show (lo + (0 : Int) - lo).toNat = 0 by omega]; rfl) ht0 (k0 (Int32.toInt_inj.mp (h3.trans hv0.symm)))
    | 1, _, h3 =>
      have h3 : x.toInt = lo + 1 := h3
      exact g_tabIn t1 hd h1 h2 (by rw [h3, show (lo + (1 : Int) - lo).toNat = 1 by omega]; rfl) ht1 (k1 (Int32.toInt_inj.mp (h3.trans hv1.symm)))
    | 2, _, h3 =>
      have h3 : x.toInt = lo + 2 := h3
      exact g_tabIn t2 hd h1 h2 (by rw [h3, show (lo + (2 : Int) - lo).toNat = 2 by omega]; rfl) ht2 (k2 (Int32.toInt_inj.mp (h3.trans hv2.symm)))
    | 3, _, h3 =>
      have h3 : x.toInt = lo + 3 := h3
      exact g_tabIn t3 hd h1 h2 (by rw [h3, show (lo + (3 : Int) - lo).toNat = 3 by omega]; rfl) ht3 (k3 (Int32.toInt_inj.mp (h3.trans hv3.symm)))
    | 4, _, h3 =>
      have h3 : x.toInt = lo + 4 := h3
      exact g_tabIn t4 hd h1 h2 (by rw [h3, show (lo + (4 : Int) - lo).toNat = 4 by omega]; rfl) ht4 (k4 (Int32.toInt_inj.mp (h3.trans hv4.symm)))
    | 5, _, h3 =>
      have h3 : x.toInt = lo + 5 := h3
      exact g_tabIn t5 hd h1 h2 (by rw [h3, show (lo + (5 : Int) - lo).toNat = 5 by omega]; rfl) ht5 (k5 (Int32.toInt_inj.mp (h3.trans hv5.symm)))
theorem g_tab8 {G : Sh} {l : Launch} {mi : MI} {pc : Nat} {lv st : List Value} {M : Mm} {Q : Rr → Mm → Prop} {x : Int32} {df lo hi : Int} {len : Nat} {o0 o1 o2 o3 o4 o5 o6 o7 : Int} (v0 v1 v2 v3 v4 v5 v6 v7 : Int32) (td t0 t1 t2 t3 t4 t5 t6 t7 : Nat) (hd : decode (mBy mi) pc = .ok (.tableswitch df lo hi #[o0, o1, o2, o3, o4, o5, o6, o7], len)) (hh : hi = lo + 7) (htd : (pc : Int) + df = (td : Int)) (ht0 : (pc : Int) + o0 = (t0 : Int)) (ht1 : (pc : Int) + o1 = (t1 : Int)) (ht2 : (pc : Int) + o2 = (t2 : Int)) (ht3 : (pc : Int) + o3 = (t3 : Int)) (ht4 : (pc : Int) + o4 = (t4 : Int)) (ht5 : (pc : Int) + o5 = (t5 : Int)) (ht6 : (pc : Int) + o6 = (t6 : Int)) (ht7 : (pc : Int) + o7 = (t7 : Int)) (hv0 : v0.toInt = lo + 0) (hv1 : v1.toInt = lo + 1) (hv2 : v2.toInt = lo + 2) (hv3 : v3.toInt = lo + 3) (hv4 : v4.toInt = lo + 4) (hv5 : v5.toInt = lo + 5) (hv6 : v6.toInt = lo + 6) (hv7 : v7.toInt = lo + 7) (kd : (x.toInt < lo ∨ hi < x.toInt) → Go G l mi td lv st M Q) (k0 : x = v0 → Go G l mi t0 lv st M Q) (k1 : x = v1 → Go G l mi t1 lv st M Q) (k2 : x = v2 → Go G l mi t2 lv st M Q) (k3 : x = v3 → Go G l mi t3 lv st M Q) (k4 : x = v4 → Go G l mi t4 lv st M Q) (k5 : x = v5 → Go G l mi t5 lv st M Q) (k6 : x = v6 → Go G l mi t6 lv st M Q) (k7 : x = v7 → Go G l mi t7 lv st M Q) : Go G l mi pc lv (.int x :: st) M Q := by
  by_cases h : x.toInt < lo ∨ hi < x.toInt
  · exact g_tabOut td hd h htd (kd h)
  · have h1 : ¬ x.toInt < lo := fun z => h (Or.inl z)
    have h2 : ¬ hi < x.toInt := fun z => h (Or.inr z)
    obtain ⟨k, hk, h3⟩ : ∃ k : Nat, k < 8 ∧ x.toInt = lo + (k : Int) := ⟨(x.toInt - lo).toNat, by omega, by omega⟩
    match k, hk, h3 with
    | 0, _, h3 =>
      have h3 : x.toInt = lo + 0 := h3
      exact g_tabIn t0 hd h1 h2 (by rw [h3, show (lo + (0 : Int) - lo).toNat = 0 by omega]; rfl) ht0 (k0 (Int32.toInt_inj.mp (h3.trans hv0.symm)))
    | 1, _, h3 =>
      have h3 : x.toInt = lo + 1 := h3
      exact g_tabIn t1 hd h1 h2 (by rw [h3, show (lo + (1 : Int) - lo).toNat = 1 by omega]; rfl) ht1 (k1 (Int32.toInt_inj.mp (h3.trans hv1.symm)))
    | 2, _, h3 =>
      have h3 : x.toInt = lo + 2 := h3
      exact g_tabIn t2 hd h1 h2 (by rw [h3, show (lo + (2 : Int) - lo).toNat = 2 by omega]; rfl) ht2 (k2 (Int32.toInt_inj.mp (h3.trans hv2.symm)))
    | 3, _, h3 =>
      have h3 : x.toInt = lo + 3 := h3
      exact g_tabIn t3 hd h1 h2 (by rw [h3, show (lo + (3 : Int) - lo).toNat = 3 by omega]; rfl) ht3 (k3 (Int32.toInt_inj.mp (h3.trans hv3.symm)))
    | 4, _, h3 =>
      have h3 : x.toInt = lo + 4 := h3
      exact g_tabIn t4 hd h1 h2 (by rw [h3, show (lo + (4 : Int) - lo).toNat = 4 by omega]; rfl) ht4 (k4 (Int32.toInt_inj.mp (h3.trans hv4.symm)))
    | 5, _, h3 =>
      have h3 : x.toInt = lo + 5 := h3
      exact g_tabIn t5 hd h1 h2 (by rw [h3, show (lo + (5 : Int) - lo).toNat = 5 by omega]; rfl) ht5 (k5 (Int32.toInt_inj.mp (h3.trans hv5.symm)))
    | 6, _, h3 =>
      have h3 : x.toInt = lo + 6 := h3
      exact g_tabIn t6 hd h1 h2 (by rw [h3, show (lo + (6 : Int) - lo).toNat = 6 by omega]; rfl) ht6 (k6 (Int32.toInt_inj.mp (h3.trans hv6.symm)))
    | 7, _, h3 =>
      have h3 : x.toInt = lo + 7 := h3
      exact g_tabIn t7 hd h1 h2 (by rw [h3, show (lo + (7 : Int) - lo).toNat = 7 by omega]; rfl) ht7 (k7 (Int32.toInt_inj.mp (h3.trans hv7.symm)))
theorem g_tab10 {G : Sh} {l : Launch} {mi : MI} {pc : Nat} {lv st : List Value} {M : Mm} {Q : Rr → Mm → Prop} {x : Int32} {df lo hi : Int} {len : Nat} {o0 o1 o2 o3 o4 o5 o6 o7 o8 o9 : Int} (v0 v1 v2 v3 v4 v5 v6 v7 v8 v9 : Int32) (td t0 t1 t2 t3 t4 t5 t6 t7 t8 t9 : Nat) (hd : decode (mBy mi) pc = .ok (.tableswitch df lo hi #[o0, o1, o2, o3, o4, o5, o6, o7, o8, o9], len)) (hh : hi = lo + 9) (htd : (pc : Int) + df = (td : Int)) (ht0 : (pc : Int) + o0 = (t0 : Int)) (ht1 : (pc : Int) + o1 = (t1 : Int)) (ht2 : (pc : Int) + o2 = (t2 : Int)) (ht3 : (pc : Int) + o3 = (t3 : Int)) (ht4 : (pc : Int) + o4 = (t4 : Int)) (ht5 : (pc : Int) + o5 = (t5 : Int)) (ht6 : (pc : Int) + o6 = (t6 : Int)) (ht7 : (pc : Int) + o7 = (t7 : Int)) (ht8 : (pc : Int) + o8 = (t8 : Int)) (ht9 : (pc : Int) + o9 = (t9 : Int)) (hv0 : v0.toInt = lo + 0) (hv1 : v1.toInt = lo + 1) (hv2 : v2.toInt = lo + 2) (hv3 : v3.toInt = lo + 3) (hv4 : v4.toInt = lo + 4) (hv5 : v5.toInt = lo + 5) (hv6 : v6.toInt = lo + 6) (hv7 : v7.toInt = lo + 7) (hv8 : v8.toInt = lo + 8) (hv9 : v9.toInt = lo + 9) (kd : (x.toInt < lo ∨ hi < x.toInt) → Go G l mi td lv st M Q) (k0 : x = v0 → Go G l mi t0 lv st M Q) (k1 : x = v1 → Go G l mi t1 lv st M Q) (k2 : x = v2 → Go G l mi t2 lv st M Q) (k3 : x = v3 → Go G l mi t3 lv st M Q) (k4 : x = v4 → Go G l mi t4 lv st M Q) (k5 : x = v5 → Go G l mi t5 lv st M Q) (k6 : x = v6 → Go G l mi t6 lv st M Q) (k7 : x = v7 → Go G l mi t7 lv st M Q) (k8 : x = v8 → Go G l mi t8 lv st M Q) (k9 : x = v9 → Go G l mi t9 lv st M Q) : Go G l mi pc lv (.int x :: st) M Q := by
  by_cases h : x.toInt < lo ∨ hi < x.toInt
  · exact g_tabOut td hd h htd (kd h)
  · have h1 : ¬ x.toInt < lo := fun z => h (Or.inl z)
    have h2 : ¬ hi < x.toInt := fun z => h (Or.inr z)
    obtain ⟨k, hk, h3⟩ : ∃ k : Nat, k < 10 ∧ x.toInt = lo + (k : Int) := ⟨(x.toInt - lo).toNat, by omega, by omega⟩
    match k, hk, h3 with
    | 0, _, h3 =>
      have h3 : x.toInt = lo + 0 := h3
      exact g_tabIn t0 hd h1 h2 (by rw [h3, show (lo + (0 : Int) - lo).toNat = 0 by omega]; rfl) ht0 (k0 (Int32.toInt_inj.mp (h3.trans hv0.symm)))
    | 1, _, h3 =>
      have h3 : x.toInt = lo + 1 := h3
      exact g_tabIn t1 hd h1 h2 (by rw [h3, show (lo + (1 : Int) - lo).toNat = 1 by omega]; rfl) ht1 (k1 (Int32.toInt_inj.mp (h3.trans hv1.symm)))
    | 2, _, h3 =>
      have h3 : x.toInt = lo + 2 := h3
      exact g_tabIn t2 hd h1 h2 (by rw [h3, show (lo + (2 : Int) - lo).toNat = 2 by omega]; rfl) ht2 (k2 (Int32.toInt_inj.mp (h3.trans hv2.symm)))
    | 3, _, h3 =>
      have h3 : x.toInt = lo + 3 := h3
      exact g_tabIn t3 hd h1 h2 (by rw [h3, show (lo + (3 : Int) - lo).toNat = 3 by omega]; rfl) ht3 (k3 (Int32.toInt_inj.mp (h3.trans hv3.symm)))
    | 4, _, h3 =>
      have h3 : x.toInt = lo + 4 := h3
      exact g_tabIn t4 hd h1 h2 (by rw [h3, show (lo + (4 : Int) - lo).toNat = 4 by omega]; rfl) ht4 (k4 (Int32.toInt_inj.mp (h3.trans hv4.symm)))
    | 5, _, h3 =>
      have h3 : x.toInt = lo + 5 := h3
      exact g_tabIn t5 hd h1 h2 (by rw [h3, show (lo + (5 : Int) - lo).toNat = 5 by omega]; rfl) ht5 (k5 (Int32.toInt_inj.mp (h3.trans hv5.symm)))
    | 6, _, h3 =>
      have h3 : x.toInt = lo + 6 := h3
      exact g_tabIn t6 hd h1 h2 (by rw [h3, show (lo + (6 : Int) - lo).toNat = 6 by omega]; rfl) ht6 (k6 (Int32.toInt_inj.mp (h3.trans hv6.symm)))
    | 7, _, h3 =>
      have h3 : x.toInt = lo + 7 := h3
      exact g_tabIn t7 hd h1 h2 (by rw [h3, show (lo + (7 : Int) - lo).toNat = 7 by omega]; rfl) ht7 (k7 (Int32.toInt_inj.mp (h3.trans hv7.symm)))
    | 8, _, h3 =>
      have h3 : x.toInt = lo + 8 := h3
      exact g_tabIn t8 hd h1 h2 (by rw [h3, show (lo + (8 : Int) - lo).toNat = 8 by omega]; rfl) ht8 (k8 (Int32.toInt_inj.mp (h3.trans hv8.symm)))
    | 9, _, h3 =>
      have h3 : x.toInt = lo + 9 := h3
      exact g_tabIn t9 hd h1 h2 (by rw [h3, show (lo + (9 : Int) - lo).toNat = 9 by omega]; rfl) ht9 (k9 (Int32.toInt_inj.mp (h3.trans hv9.symm)))
