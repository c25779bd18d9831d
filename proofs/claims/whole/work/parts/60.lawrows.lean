def nL2 (D : va_G) (cI cZ cA : ClassId) (h h' : Nat → Nat) (A : Nat → Prop) (H0 : Heap) (σ τ : nS) (H : Heap) (locs : List Loc) : Prop := nH D 48 (cfC cI cZ cA h) h A H0 σ H locs ∧ nH D 14 (cfM cI cZ h') h' A H0 τ H locs ∧ ∀ c c', c < 48 → c' < 14 → h c ≠ h' c'
theorem nl_keep {D : va_G} {N N' : Nat} {cf' : Nat → (Nat → Int32) → va_E} {h h' : Nat → Nat} {τ : nS} {H H1 : Heap} (hP : va_P D ncl (nW N' cf' h' τ) H) (hne : ∀ c c', c < N → c' < N' → h c ≠ h' c') (hk : ∀ q : Nat, q < H.size → ¬ nAd N h H.size q → H1[q]? = H[q]?) : va_P D ncl (nW N' cf' h' τ) H1 := fun k q hq => by
  obtain ⟨hk', rfl⟩ := nW_some hq
  have h0 := hP k _ hq
  have hlt := h0.lt
  refine h0.kept (hk _ hlt ?_)
  intro hh
  rcases hh with ⟨c, hc, e⟩ | e
  · exact hne c k hc hk' e.symm
  · exact absurd hlt (Nat.not_lt.mpr e)
section NLAW
variable {p : Program} {l : Launch} {e : Env} {R : Room} {s : State} {m : MethodId} {args : Array Value} {below : List Frame} {meth : Method} {c : Code} {H : Heap} {locs : List Loc} {cells slots : Nat} {Q : State → Prop}
variable {cc : ByteArray} {pc : Nat} {ls : Array Slot} {rest : List Value} {D : va_G} {cI cZ cA : ClassId} {h h' : Nat → Nat} {A : Nat → Prop} {H0 : Heap} {σ τ : nS}
theorem nl_cC {st0 : List Value} {a : Array Value} {r : Int32} {σ' : nS} (hr : va_Run p l e R s m args below meth c H locs cells slots 0 0 (F0 m pc ls st0) rest (nQi D 48 (cfC cI cZ cA h) h H.size r σ' a) (nAd 48 h H.size)) (hL : nL2 D cI cZ cA h h' A H0 σ τ H locs)
    (kk : ∀ (H1 : Heap) (locs1 : List Loc), nL2 D cI cZ cA h h' A H0 σ' τ H1 locs1 → W p l e R s m args below meth c H1 locs1 cells slots Q (F0 m (pc + 3) ls (.int r :: rest))) : W p l e R s m args below meth c H locs cells slots Q (F0 m pc ls st0) :=
  va_calli hr hL.1.2.2.1 (fun q _ hq => hL.1.sub q hq) hL.1.sub (fun r' u t H1 locs1 ht hvm hw hB hz1 hk1 hS => by
    subst hw
    exact kk H1 locs1 ⟨⟨by rw [← ht]; exact hB, nW_DA hL.1.2.1, hS, hL.1.2.2.2⟩, ⟨nl_keep hL.2.1.1 hL.2.2 hk1, hL.2.1.2.1, hS, hL.1.2.2.2⟩, hL.2.2⟩)
theorem nl_cM {st0 : List Value} {a : Array Value} {r : Int32} {τ' : nS} (hr : va_Run p l e R s m args below meth c H locs cells slots 0 0 (F0 m pc ls st0) rest (nQi D 14 (cfM cI cZ h') h' H.size r τ' a) (nAd 14 h' H.size)) (hL : nL2 D cI cZ cA h h' A H0 σ τ H locs)
    (kk : ∀ (H1 : Heap) (locs1 : List Loc), nL2 D cI cZ cA h h' A H0 σ τ' H1 locs1 → W p l e R s m args below meth c H1 locs1 cells slots Q (F0 m (pc + 3) ls (.int r :: rest))) : W p l e R s m args below meth c H locs cells slots Q (F0 m pc ls st0) :=
  va_calli hr hL.2.1.2.2.1 (fun q _ hq => hL.2.1.sub q hq) hL.2.1.sub (fun r' u t H1 locs1 ht hvm hw hB hz1 hk1 hS => by
    subst hw
    exact kk H1 locs1 ⟨⟨nl_keep hL.1.1 (fun a b ha hb e => hL.2.2 b a hb ha e.symm) hk1, hL.1.2.1, hS, hL.1.2.2.2⟩, ⟨by rw [← ht]; exact hB, nW_DA hL.2.1.2.1, hS, hL.1.2.2.2⟩, hL.2.2⟩)
theorem nl_arg (hx : p.tables.exec = Jvm.exec) (hb : c.code = cc) {b L n : Nat} {xs : Nat → Int32} (hX : va_X b L xs s H0) (hbl : b < H0.size) (hbA : ¬ A b) (hS : va_S A H0 H locs) (l0 : ls[0]? = some (.val (.ref b))) (l3 : ls[3]? = some (.val (.int (nI n)))) (k : Nat) (hn : n + k < L) (hL : L ≤ 2560) {kz : Int} (d0 : decode cc pc = .ok (.aload_n 0, 1)) (d1 : decode cc (pc + 1) = .ok (.iload_n 3, 1)) (d2 : decode cc (pc + 2) = .ok (.iconst kz, 1)) (hk : Int32.ofInt kz = nI k) (d3 : decode cc (pc + 3) = .ok (.iadd, 1)) (d4 : decode cc (pc + 4) = .ok (.iaload, 1))
    (kk : W p l e R s m args below meth c H locs cells slots Q (F0 m (pc + 5) ls (.int (xs (n + k)) :: rest))) : W p l e R s m args below meth c H locs cells slots Q (F0 m pc ls rest) := by
  refine lv_aload_n hx hb d0 rfl l0 ?_
  refine lv_iload_n hx hb d1 rfl l3 ?_
  refine lv_iconst (v := nI k) hx hb d2 hk ?_
  refine lv_iadd hx hb d3 ?_
  rw [nI_add]
  refine va_sld hx hb hX hbl hbA hS (vp_in_nI hn (by omega)) d4 ?_
  rw [nI_clamp (by omega)]
  exact kk
theorem nl_bool (hx : p.tables.exec = Jvm.exec) (hb : c.code = cc) {v : Int32} (d0 : decode cc pc = .ok (.ifCond .eq 7, 3)) (d1 : decode cc (pc + 3) = .ok (.iconst 1, 1)) (d2 : decode cc (pc + 4) = .ok (.goto 4, 3)) (d3 : decode cc (pc + 7) = .ok (.iconst 0, 1))
    (kk : W p l e R s m args below meth c H locs cells slots Q (F0 m (pc + 8) ls (.int (zb (decide (v ≠ 0))) :: rest))) : W p l e R s m args below meth c H locs cells slots Q (F0 m pc ls (.int v :: rest)) := by
  refine lv_if_eq (tgt := pc + 7) hx hb d0 (by omega) (fun h => ?_) (fun h => ?_)
  · refine lv_iconst (v := 0) hx hb d3 (by decide) ?_
    have e : zb (decide (v ≠ 0)) = 0 := by rw [zb_0]; simp [h]
    rw [e] at kk
    exact kk
  · refine lv_iconst (v := 1) hx hb d1 (by decide) ?_
    refine lv_goto (tgt := pc + 8) hx hb d2 (by omega) ?_
    have e : zb (decide (v ≠ 0)) = 1 := by rw [zb_1]; simp [h]
    rw [e] at kk
    exact kk
theorem nl_callC (hx : p.tables.exec = Jvm.exec) (hb : c.code = cc) (hml : c.maxLocals = 4) (hown : s.vm.findClass RL = some m.cls) (hts : ∀ w ∈ wsL_law, w.before args s = true) (hK : nKK D cI cZ cA s) (hL : nL2 D cI cZ cA h h' A H0 σ τ H locs) {y : MethodName} {bytes : ByteArray} {maxL k idx : Nat} {ret : Option FieldType} {As st0 : List Value} {r : Int32} {σ' : nS} (hM : nMi l y bytes maxL ret k D cI cZ cA 48 (cfC cI cZ cA h) h (.ref (h 0) :: As) σ r σ') (w1 : Cond.methodLink RL idx y ∈ wsL_law) (w2 : Cond.instanceMethod y ∈ wsL_law) (w3 : Cond.selects RX3 y y ∈ wsL_law) (w5 : Cond.code y bytes maxL ret ∈ wsL_law)
    (hd : y.cls = RX3 ∧ y.cls ≠ "java/lang/invoke/MethodHandle" ∧ y.cls ≠ "java/lang/invoke/VarHandle" ∧ (parseMethodDescriptor y.desc).map (fun d => d.parameters.length) = some As.length) (hR : k + 1 ≤ R.frames ∧ 8 + (maxL + 11) + 64 * k ≤ R.locals) (hsize : ls.size = 4) (hst : st0 = As.reverse ++ .ref (h 0) :: rest) (hW : (rest.map fun v => v.category).sum ≤ 8) (hdg : decode cc pc = .ok (.invokevirtual idx, 3)) (hf : cells ≤ R.cells ∧ slots ≤ R.slots)
    (kk : ∀ (H1 : Heap) (locs1 : List Loc), nL2 D cI cZ cA h h' A H0 σ' τ H1 locs1 → W p l e R s m args below meth c H1 locs1 cells slots Q (F0 m (pc + 3) ls (.int r :: rest))) : W p l e R s m args below meth c H locs cells slots Q (F0 m pc ls st0) :=
  nl_cC (ng_rV hx hb hml hown hts hK hL.1 0 (hM H.size) (by decide) rfl rfl w1 w2 w3 mw_2 w5 hd hR hsize hst hW hdg hf) hL kk
theorem nl_callM (hx : p.tables.exec = Jvm.exec) (hb : c.code = cc) (hml : c.maxLocals = 4) (hown : s.vm.findClass RL = some m.cls) (hts : ∀ w ∈ wsL_law, w.before args s = true) (hK : nKK D cI cZ cA s) (hL : nL2 D cI cZ cA h h' A H0 σ τ H locs) {y : MethodName} {bytes : ByteArray} {maxL k idx : Nat} {ret : Option FieldType} {As st0 : List Value} {r : Int32} {τ' : nS} (hM : nMi l y bytes maxL ret k D cI cZ cA 14 (cfM cI cZ h') h' (.ref (h' 0) :: As) τ r τ') (w1 : Cond.methodLink RL idx y ∈ wsL_law) (w2 : Cond.instanceMethod y ∈ wsL_law) (w3 : Cond.selects RX4 y y ∈ wsL_law) (w5 : Cond.code y bytes maxL ret ∈ wsL_law)
    (hd : y.cls = RX4 ∧ y.cls ≠ "java/lang/invoke/MethodHandle" ∧ y.cls ≠ "java/lang/invoke/VarHandle" ∧ (parseMethodDescriptor y.desc).map (fun d => d.parameters.length) = some As.length) (hR : k + 1 ≤ R.frames ∧ 8 + (maxL + 11) + 64 * k ≤ R.locals) (hsize : ls.size = 4) (hst : st0 = As.reverse ++ .ref (h' 0) :: rest) (hW : (rest.map fun v => v.category).sum ≤ 8) (hdg : decode cc pc = .ok (.invokevirtual idx, 3)) (hf : cells ≤ R.cells ∧ slots ≤ R.slots)
    (kk : ∀ (H1 : Heap) (locs1 : List Loc), nL2 D cI cZ cA h h' A H0 σ τ' H1 locs1 → W p l e R s m args below meth c H1 locs1 cells slots Q (F0 m (pc + 3) ls (.int r :: rest))) : W p l e R s m args below meth c H locs cells slots Q (F0 m pc ls st0) :=
  nl_cM (ng_rV hx hb hml hown hts hK hL.2.1 0 (hM H.size) (by decide) rfl rfl w1 w2 w3 mw_5 w5 hd hR hsize hst hW hdg hf) hL kk
end NLAW
/-- what stands fast in the law's loop -/
def lE (p : Program) (s : State) (m : MethodId) (c : Code) (b L : Nat) (xs : Nat → Int32) (D : va_G) (cI cZ cA : ClassId) (A : Nat → Prop) (h h' : Nat → Nat) : Prop := p.tables.exec = Jvm.exec ∧ c.code = cL_law ∧ c.maxLocals = 4 ∧ s.vm.findClass RL = some m.cls ∧ (∀ w ∈ wsL_law, w.before #[Value.ref b] s = true) ∧ va_X b L xs s s.heap ∧ b < s.heap.size ∧ ¬ A b ∧ nKK D cI cZ cA s ∧ nInj 48 h ∧ nInj 14 h'
/-- one call of each side, from its place to the loop's step -/
def nOp (l : Launch) (pc0 : Nat) : Prop := ∀ (p : Program) (e : Env) (s : State) (m : MethodId) (below : List Frame) (meth : Method) (c : Code) (b L : Nat) (xs : Nat → Int32) (D : va_G) (cI cZ cA : ClassId) (A : Nat → Prop) (h h' : Nat → Nat) (Q : State → Prop) (cells slots n : Nat) (ls : Array Slot) (σ τ : nS) (t : Nt) (H : Heap) (locs : List Loc), lE p s m c b L xs D cI cZ cA A h h' → n + 4 < L → L ≤ 2560 → cells ≤ room_1.cells ∧ slots ≤ room_1.slots → lv_has ls 4 [(0, .ref b), (1, .ref (h 0)), (2, .ref (h' 0)), (3, .int (nI n))] → NtOK t → RC σ t → RM τ t → nL2 D cI cZ cA h h' A s.heap σ τ H locs →
  (∀ (σ' τ' : nS) (t' : Nt) (H1 : Heap) (locs1 : List Loc), NtOK t' → RC σ' t' → RM τ' t' → nL2 D cI cZ cA h h' A s.heap σ' τ' H1 locs1 → W p l e room_1 s m #[Value.ref b] below meth c H1 locs1 cells slots Q (F0 m 818 ls [])) → W p l e room_1 s m #[Value.ref b] below meth c H locs cells slots Q (F0 m pc0 ls [])
