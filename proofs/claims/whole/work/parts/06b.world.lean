theorem ng_body_i {l : Launch} {y : MethodName} {bytes : ByteArray} {nL : Nat} {ret : Option FieldType} {k : Nat} {D : va_G} {cI cZ cA : ClassId} {N : Nat} {cf : Nat → (Nat → Int32) → va_E} {h : Nat → Nat} {as : List Value} {σ σ' : nS} {r : Int32} (hy : plainName y.cls = true) (hi : nInj N h) (hn : (lg_sl as).length ≤ nL)
    (body : ∀ (p : Program) (e : Env) (R : Room) (s : State) (m : MethodId) (args : Array Value) (below : List Frame) (meth : Method) (c : Code) (sz : Nat) (Q : State → Prop) (ls : Array Slot), p.tables.exec = Jvm.exec → c.code = bytes → c.maxLocals = nL → meth.sig.returnType = ret → meth.locks = false → (∀ w ∈ wsL_law, w.before args s = true) → s.vm.findClass y.cls = some m.cls → nKK D cI cZ cA s → R = nRm k → Q = MQ below (nQi D N cf h sz r σ') args s 0 0 (nAd N h sz) → lv_has ls nL (lv_args 0 as) → nH D N cf h (nAd N h sz) s.heap σ s.heap [] → W p l e R s m args below meth c s.heap [] 0 0 Q (F0 m 0 ls [])) : nMi l y bytes nL ret k D cI cZ cA N cf h as σ r σ' := by
  intro sz
  refine Met.ofW (cc := bytes) (maxL := nL) (ret := ret) hy rfl ?_
  intro p e s m args below meth c s₁ B hml hv
  obtain ⟨hx, hb, hr, hts, hown, hlk, ha, hK, hH⟩ := ng_start hi B hv
  show W p l e (nRm k) s m args below meth c s.heap [] 0 0 (MQ below (nQi D N cf h sz r σ') args s 0 0 (nAd N h sz)) (entryFrame m args nL)
  have e1 : entryFrame m args nL = entryFrame m as.toArray nL := by rw [ha]
  rw [e1]
  exact ng_entry as hn (fun ls hl => body p e (nRm k) s m args below meth c sz _ ls hx hb hml hr hlk hts hown hK rfl rfl hl hH)
theorem ng_body_v {l : Launch} {y : MethodName} {bytes : ByteArray} {nL : Nat} {ret : Option FieldType} {k : Nat} {D : va_G} {cI cZ cA : ClassId} {N : Nat} {cf : Nat → (Nat → Int32) → va_E} {h : Nat → Nat} {as : List Value} {σ σ' : nS} (hy : plainName y.cls = true) (hi : nInj N h) (hn : (lg_sl as).length ≤ nL)
    (body : ∀ (p : Program) (e : Env) (R : Room) (s : State) (m : MethodId) (args : Array Value) (below : List Frame) (meth : Method) (c : Code) (sz : Nat) (Q : State → Prop) (ls : Array Slot), p.tables.exec = Jvm.exec → c.code = bytes → c.maxLocals = nL → meth.sig.returnType = ret → meth.locks = false → (∀ w ∈ wsL_law, w.before args s = true) → s.vm.findClass y.cls = some m.cls → nKK D cI cZ cA s → R = nRm k → Q = MQ below (nQv D N cf h sz σ') args s 0 0 (nAd N h sz) → lv_has ls nL (lv_args 0 as) → nH D N cf h (nAd N h sz) s.heap σ s.heap [] → W p l e R s m args below meth c s.heap [] 0 0 Q (F0 m 0 ls [])) : nMv l y bytes nL ret k D cI cZ cA N cf h as σ σ' := by
  intro sz
  refine Met.ofW (cc := bytes) (maxL := nL) (ret := ret) hy rfl ?_
  intro p e s m args below meth c s₁ B hml hv
  obtain ⟨hx, hb, hr, hts, hown, hlk, ha, hK, hH⟩ := ng_start hi B hv
  show W p l e (nRm k) s m args below meth c s.heap [] 0 0 (MQ below (nQv D N cf h sz σ') args s 0 0 (nAd N h sz)) (entryFrame m args nL)
  have e1 : entryFrame m args nL = entryFrame m as.toArray nL := by rw [ha]
  rw [e1]
  exact ng_entry as hn (fun ls hl => body p e (nRm k) s m args below meth c sz _ ls hx hb hml hr hlk hts hown hK rfl rfl hl hH)
/-- the cells of NetCuts: 0 it, 1 the Net with its rows 2 .. 8, 9 the Search with its rows 10 .. 44, 45 the Halvings and 46, 47 the pairs -/
def cfC (cI cZ cA : ClassId) (h : Nat → Nat) (c : Nat) (f : Nat → Int32) : va_E := match c with
  | 0 => .inr (3, [.ref (h 1), .ref (h 9), .ref (h 45), .ref (h 47), .int (f 4), .int (f 5)])
  | 1 => .inr (1, [.ref (h 2), .ref (h 3), .ref (h 4), .ref (h 5), .ref (h 6), .int (f 5), .int (f 6), .ref (h 7), .ref (h 8)])
  | 2 => .inl (cI, 24, .inl f)
  | 3 => .inl (cI, 24, .inl f)
  | 4 => .inl (cI, 24, .inl f)
  | 5 => .inl (cZ, 24, .inl f)
  | 6 => .inl (cZ, 24, .inl f)
  | 9 => .inr (2, [.ref (h 10), .ref (h 20), .ref (h 30), .ref (h 40), .ref (h 41), .ref (h 42), .ref (h 43), .ref (h 44), .int (f 8), .int (f 9), .int (f 10), .int (f 11)])
  | 10 => .inl (cA, 9, .inr (.inr (.inr (.inr (fun j => some (h (11 + j)))))))
  | 20 => .inl (cA, 9, .inr (.inr (.inr (.inr (fun j => some (h (21 + j)))))))
  | 30 => .inl (cA, 9, .inr (.inr (.inr (.inr (fun j => some (h (31 + j)))))))
  | 45 => .inr (0, [.ref (h 46), .int (f 1)])
  | 46 => .inl (cI, 256, .inl f)
  | _ => .inl (cI, 9, .inl f)
def cfM (cI cZ : ClassId) (h : Nat → Nat) (c : Nat) (f : Nat → Int32) : va_E := match c with
  | 0 => .inr (4, [.ref (h 1), .ref (h 2), .int (f 2), .ref (h 3), .ref (h 4), .ref (h 5), .ref (h 6), .ref (h 7), .int (f 8), .ref (h 8), .ref (h 9), .int (f 11), .ref (h 10), .ref (h 11), .int (f 14), .int (f 15), .int (f 16), .int (f 17), .int (f 18), .int (f 19), .int (f 20), .ref (h 12), .ref (h 13)])
  | 2 => .inl (cZ, 9, .inl f)
  | 3 => .inl (cI, 24, .inl f)
  | 4 => .inl (cI, 24, .inl f)
  | 5 => .inl (cI, 24, .inl f)
  | 6 => .inl (cZ, 24, .inl f)
  | 7 => .inl (cZ, 24, .inl f)
  | 8 => .inl (cI, 8, .inl f)
  | 9 => .inl (cI, 8, .inl f)
  | 12 => .inl (cI, 24, .inl f)
  | 13 => .inl (cZ, 9, .inl f)
  | _ => .inl (cI, 9, .inl f)
theorem inb_lt {i : Int32} {n : Nat} (h : inb i n) : i.toNatClampNeg < n := Nat.not_le.mp fun q => inb_vp h (Or.inr q)
theorem rwC_lt11 {i : Int32} (hi : inb i 9) : 11 + i.toNatClampNeg < 48 := by have := inb_lt hi; omega
theorem rwC_lt21 {i : Int32} (hi : inb i 9) : 21 + i.toNatClampNeg < 48 := by have := inb_lt hi; omega
theorem rwC_lt31 {i : Int32} (hi : inb i 9) : 31 + i.toNatClampNeg < 48 := by have := inb_lt hi; omega
theorem rwC_9 {P : Nat → Prop} (h0 : P 0) (h1 : P 1) (h2 : P 2) (h3 : P 3) (h4 : P 4) (h5 : P 5) (h6 : P 6) (h7 : P 7) (h8 : P 8) {j : Nat} (hj : j < 9) : P j := by
  rcases (show j = 0 ∨ j = 1 ∨ j = 2 ∨ j = 3 ∨ j = 4 ∨ j = 5 ∨ j = 6 ∨ j = 7 ∨ j = 8 by omega) with rfl | rfl | rfl | rfl | rfl | rfl | rfl | rfl | rfl <;> assumption
theorem rwC_cf11 {cI cZ cA : ClassId} {h : Nat → Nat} {i : Int32} (hi : inb i 9) (f : Nat → Int32) : cfC cI cZ cA h (11 + i.toNatClampNeg) f = .inl (cI, 9, .inl f) := rwC_9 (P := fun j => cfC cI cZ cA h (11 + j) f = .inl (cI, 9, .inl f)) rfl rfl rfl rfl rfl rfl rfl rfl rfl (inb_lt hi)
theorem rwC_cf21 {cI cZ cA : ClassId} {h : Nat → Nat} {i : Int32} (hi : inb i 9) (f : Nat → Int32) : cfC cI cZ cA h (21 + i.toNatClampNeg) f = .inl (cI, 9, .inl f) := rwC_9 (P := fun j => cfC cI cZ cA h (21 + j) f = .inl (cI, 9, .inl f)) rfl rfl rfl rfl rfl rfl rfl rfl rfl (inb_lt hi)
theorem rwC_cf31 {cI cZ cA : ClassId} {h : Nat → Nat} {i : Int32} (hi : inb i 9) (f : Nat → Int32) : cfC cI cZ cA h (31 + i.toNatClampNeg) f = .inl (cI, 9, .inl f) := rwC_9 (P := fun j => cfC cI cZ cA h (31 + j) f = .inl (cI, 9, .inl f)) rfl rfl rfl rfl rfl rfl rfl rfl rfl (inb_lt hi)
