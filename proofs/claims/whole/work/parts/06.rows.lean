/-! the pure store: cell, place -/
abbrev nS : Type := Nat → Nat → Int32
def nst (σ : nS) (c i : Nat) (v : Int32) : nS := fun c' => if c' = c then upd (σ c) i v else σ c'
abbrev inb (i : Int32) (n : Nat) : Prop := 0 ≤ i.toInt ∧ i.toInt < (n : Int)
theorem inb_vp {i : Int32} {n : Nat} (h : inb i n) : vp_in i n := vp_in_iff.mpr h
theorem ob_t {α : Type} {P : Prop} [Decidable P] {a b r : α} (h : P) (hg : (if P then a else b) = r) : a = r := by rwa [if_pos h] at hg
theorem ob_f {α : Type} {P : Prop} [Decidable P] {a b r : α} (h : ¬ P) (hg : (if P then a else b) = r) : b = r := by rwa [if_neg h] at hg
theorem ob_i {α : Type} {P : Prop} [Decidable P] {a : Option α} {r : α} (hg : (if P then a else none) = some r) : P ∧ a = some r := by
  by_cases h : P
  · rw [if_pos h] at hg; exact ⟨h, hg⟩
  · rw [if_neg h] at hg; cases hg
theorem ob_b {α β : Type} {x : Option α} {f : α → Option β} {r : β} (hg : x.bind f = some r) : ∃ q, x = some q ∧ f q = some r := Option.bind_eq_some_iff.mp hg
theorem ob_n {α : Type} {P : Prop} {r : α} (hg : (none : Option α) = some r) : P := by cases hg
/-! the words, the room, the classes -/
theorem nGood : ∀ w ∈ wsL_law, (w.onTables && w.keeps) = true ∨ ∃ ty, w = .arrayClass ty := fun w h => good_of_word (List.all_eq_true.mp (by decide +kernel : wsL_law.all goodWord = true) w h)
def nRm (k : Nat) : Room := { frames := k, cells := 0, slots := 0, locals := 64 * k }
abbrev ncl : List vw_C := [(RX0, TX0, 2), (RX1, TX1, 9), (RX2, TX2, 12), (RX3, TX3, 6), (RX4, TX4, 23)]
abbrev nty (cI cZ cA : ClassId) : List (ClassId × FieldType) := [(cI, .int), (cZ, .boolean), (cA, .array .int)]
def nN0 : Cond := .methodLinkNest RX0 33 yX3_holds "NetCuts"
def nN1 : Cond := .methodLinkNest RX1 52 yX3_holds "NetCuts"
def nKK (D : va_G) (cI cZ cA : ClassId) (U : State) : Prop := va_K D ncl (nty cI cZ cA) U ∧ va_Nw nN0 U ∧ va_Nw nN1 U
theorem nKK.warm {D : va_G} {cI cZ cA : ClassId} {s U : State} (hW : s.WarmedH U.vm) (h : nKK D cI cZ cA s) : nKK D cI cZ cA U := ⟨va_K.moved hW.alike h.1, va_Nw.warmM hW h.2.1, va_Nw.warmM hW h.2.2⟩
theorem nKK.same {D : va_G} {cI cZ cA : ClassId} {s U : State} (hW : s.vm = U.vm) (h : nKK D cI cZ cA s) : nKK D cI cZ cA U := ⟨va_K.moved (by rw [← hW]; exact Vm.Alike.refl s.vm) h.1, va_Nw.same rfl hW h.2.1, va_Nw.same rfl hW h.2.2⟩
/-! the world -/
def nW (N : Nat) (cf : Nat → (Nat → Int32) → va_E) (h : Nat → Nat) (σ : nS) : va_W := (List.range N).map (fun c => (h c, cf c (σ c)))
theorem nW_get {N : Nat} {cf : Nat → (Nat → Int32) → va_E} {h : Nat → Nat} {σ : nS} {c : Nat} (hc : c < N) : (nW N cf h σ)[c]? = some (h c, cf c (σ c)) := by
  unfold nW
  rw [List.getElem?_map, List.getElem?_range hc]
  rfl
theorem nW_some {N : Nat} {cf : Nat → (Nat → Int32) → va_E} {h : Nat → Nat} {σ : nS} {c : Nat} {q : Nat × va_E} (hq : (nW N cf h σ)[c]? = some q) : c < N ∧ q = (h c, cf c (σ c)) := by
  have hc : c < N := by
    have := (List.getElem?_eq_some_iff.mp hq).1
    simpa [nW] using this
  rw [nW_get hc] at hq
  exact ⟨hc, (Option.some.inj hq).symm⟩
theorem nW_set {N : Nat} {cf : Nat → (Nat → Int32) → va_E} {h : Nat → Nat} {σ : nS} {c i : Nat} {v : Int32} : (nW N cf h σ).set c (h c, cf c (upd (σ c) i v)) = nW N cf h (nst σ c i v) := by
  apply List.ext_getElem?
  intro j
  rw [List.getElem?_set]
  by_cases hj : c = j
  · subst hj
    by_cases hc : c < N
    · rw [nW_get hc]
      simp [nst, nW, hc]
    · have e : ∀ τ : nS, (nW N cf h τ)[c]? = none := fun τ => List.getElem?_eq_none (by simp [nW]; omega)
      rw [e]
      simp [nW, hc]
  · rw [if_neg hj]
    by_cases hc : j < N
    · rw [nW_get hc, nW_get hc]
      simp [nst, Ne.symm hj]
    · have e : ∀ τ : nS, (nW N cf h τ)[j]? = none := fun τ => List.getElem?_eq_none (by simp [nW]; omega)
      rw [e, e]
def nAd (N : Nat) (h : Nat → Nat) (sz : Nat) : Nat → Prop := fun q => (∃ c : Nat, c < N ∧ q = h c) ∨ sz ≤ q
def nInj (N : Nat) (h : Nat → Nat) : Prop := ∀ c c' : Nat, c < N → c' < N → h c = h c' → c = c'
theorem nW_D {N : Nat} {cf : Nat → (Nat → Int32) → va_E} {h : Nat → Nat} {σ : nS} {A : Nat → Prop} (hi : nInj N h) (hA : ∀ c, c < N → A (h c)) : va_D A (nW N cf h σ) := by
  refine ⟨fun i j p q hp hq e => ?_, fun k q hq => ?_⟩
  · obtain ⟨h1, rfl⟩ := nW_some hp
    obtain ⟨h2, rfl⟩ := nW_some hq
    exact hi i j h1 h2 e
  · obtain ⟨h1, rfl⟩ := nW_some hq
    exact hA k h1
theorem nW_DA {N : Nat} {cf : Nat → (Nat → Int32) → va_E} {h : Nat → Nat} {σ τ : nS} {A : Nat → Prop} (hD : va_D A (nW N cf h σ)) : va_D A (nW N cf h τ) :=
  nW_D (fun c c' h1 h2 e => hD.1 c c' _ _ (nW_get h1) (nW_get h2) e) (fun c hc => hD.2 c _ (nW_get hc))
def nH (D : va_G) (N : Nat) (cf : Nat → (Nat → Int32) → va_E) (h : Nat → Nat) (A : Nat → Prop) (H0 : Heap) (σ : nS) (H : Heap) (locs : List Loc) : Prop := va_P D ncl (nW N cf h σ) H ∧ va_D A (nW N cf h σ) ∧ va_S A H0 H locs ∧ ∀ q, H0.size ≤ q → A q
theorem nH.sub {D : va_G} {N : Nat} {cf : Nat → (Nat → Int32) → va_E} {h : Nat → Nat} {A : Nat → Prop} {H0 : Heap} {σ : nS} {H : Heap} {locs : List Loc} (hH : nH D N cf h A H0 σ H locs) : ∀ q, nAd N h H.size q → A q := by
  intro q hq
  rcases hq with ⟨c, hc, rfl⟩ | hq
  · exact hH.2.1.2 c _ (nW_get hc)
  · exact hH.2.2.2 q (Nat.le_trans hH.2.2.1.1 hq)
/-! contracts -/
def nPc (as : List Value) (D : va_G) (cI cZ cA : ClassId) (N : Nat) (cf : Nat → (Nat → Int32) → va_E) (h : Nat → Nat) (sz : Nat) (σ : nS) : Array Value → State → Prop := va_Pc as (fun U => U.heap.size = sz ∧ va_P D ncl (nW N cf h σ) U.heap ∧ nKK D cI cZ cA U)
def nQi (D : va_G) (N : Nat) (cf : Nat → (Nat → Int32) → va_E) (h : Nat → Nat) (sz : Nat) (r : Int32) (σ' : nS) : Array Value → State → Outcome → State → Prop := va_Qi (fun r' (_ : Unit) => r' = r) (fun _ t => va_P D ncl (nW N cf h σ') t.heap) (nAd N h sz)
def nQv (D : va_G) (N : Nat) (cf : Nat → (Nat → Int32) → va_E) (h : Nat → Nat) (sz : Nat) (σ' : nS) : Array Value → State → Outcome → State → Prop := va_Qv (fun (_ : Unit) => True) (fun _ t => va_P D ncl (nW N cf h σ') t.heap) (nAd N h sz)
def nMi (l : Launch) (y : MethodName) (bytes : ByteArray) (nL : Nat) (ret : Option FieldType) (k : Nat) (D : va_G) (cI cZ cA : ClassId) (N : Nat) (cf : Nat → (Nat → Int32) → va_E) (h : Nat → Nat) (as : List Value) (σ : nS) (r : Int32) (σ' : nS) : Prop :=
  ∀ sz : Nat, Met l y (.code y bytes nL ret :: wsL_law) (nRm k) (nPc as D cI cZ cA N cf h sz σ) (nQi D N cf h sz r σ') 0 0 (nAd N h sz)
def nMv (l : Launch) (y : MethodName) (bytes : ByteArray) (nL : Nat) (ret : Option FieldType) (k : Nat) (D : va_G) (cI cZ cA : ClassId) (N : Nat) (cf : Nat → (Nat → Int32) → va_E) (h : Nat → Nat) (as : List Value) (σ : nS) (σ' : nS) : Prop :=
  ∀ sz : Nat, Met l y (.code y bytes nL ret :: wsL_law) (nRm k) (nPc as D cI cZ cA N cf h sz σ) (nQv D N cf h sz σ') 0 0 (nAd N h sz)
theorem nPc_blind {as : List Value} {D : va_G} {cI cZ cA : ClassId} {N : Nat} {cf : Nat → (Nat → Int32) → va_E} {h : Nat → Nat} {sz : Nat} {σ : nS} : FrameBlind (nPc as D cI cZ cA N cf h sz σ) := fun a U g mk q => ⟨q.1, q.2.1, q.2.2.1, nKK.same (s := U) (U := U.calling g mk a) rfl q.2.2.2⟩
theorem ng_start {l : Launch} {y : MethodName} {bytes : ByteArray} {nL : Nat} {ret : Option FieldType} {k : Nat} {D : va_G} {cI cZ cA : ClassId} {N : Nat} {cf : Nat → (Nat → Int32) → va_E} {h : Nat → Nat} {σ : nS} {as : List Value} {sz : Nat} {p : Program} {e : Env} {s : State} {m : MethodId} {args : Array Value} {below : List Frame} {meth : Method} {c : Code} {s₁ : State} (hi : nInj N h)
    (B : BodyLoose p l y (headSpec (.code y bytes nL ret :: wsL_law) (nRm k)) bytes nL ret e s m args below meth c s₁) (hv : nPc as D cI cZ cA N cf h sz σ args s) :
    p.tables.exec = Jvm.exec ∧ c.code = bytes ∧ meth.sig.returnType = ret ∧ (∀ w ∈ wsL_law, w.before args s = true) ∧ s.vm.findClass y.cls = some m.cls ∧ meth.locks = false ∧ args = as.toArray ∧ nKK D cI cZ cA s ∧ nH D N cf h (nAd N h sz) s.heap σ s.heap [] := by
  obtain ⟨ha, hsz, hP, hK⟩ := hv
  refine ⟨B.exec, B.bytes, B.returns, fun w hw => atoms_spec (ws := Cond.code y bytes nL ret :: wsL_law) B.pre w (List.mem_cons_of_mem _ hw), findClass_of_methodNamed B.named, B.notSynchronized, ha, hK, hP, nW_D hi (fun c hc => Or.inl ⟨c, hc, rfl⟩), va_S.rf, fun q hq => Or.inr (by rw [← hsz]; exact hq)⟩
section NG
variable {p : Program} {l : Launch} {e : Env} {R : Room} {s : State} {m : MethodId} {args : Array Value} {below : List Frame} {meth : Method} {c : Code} {H : Heap} {locs : List Loc} {cells slots : Nat} {Q : State → Prop}
variable {cc : ByteArray} {pc : Nat} {ls : Array Slot} {rest : List Value} {D : va_G} {cI cZ cA : ClassId} {N : Nat} {cf : Nat → (Nat → Int32) → va_E} {h : Nat → Nat} {A : Nat → Prop} {H0 : Heap} {σ : nS}
theorem ng_entry (vs : List Value) {n : Nat} (hn : (lg_sl vs).length ≤ n) (kk : ∀ ls : Array Slot, lv_has ls n (lv_args 0 vs) → W p l e R s m args below meth c H locs cells slots Q (F0 m 0 ls [])) : W p l e R s m args below meth c H locs cells slots Q (entryFrame m vs.toArray n) := by
  rw [lg_entry_eq]
  exact kk _ (lv_entry vs hn)
theorem ng_get (hx : p.tables.exec = Jvm.exec) (hb : c.code = cc) {own C : String} {T : u_T} {NN ci index : Nat} (hts : ∀ w ∈ wsL_law, w.before args s = true) (hown : s.vm.findClass own = some m.cls) (hK : nKK D cI cZ cA s) (hH : nH D N cf h A H0 σ H locs) (q : Nat) (hq : q < N) {fs : List Value} (hcell : cf q (σ q) = .inr (ci, fs)) (hc : ncl[ci]? = some (C, T, NN)) (hin : ∀ w ∈ u_ws C T NN, w ∈ wsL_law) (k : Nat) (hk : k < NN) (hlink : (Cond.fieldLink own index (T k).1 (T k).2.1 (T k).2.2.1) ∈ wsL_law) {v : Value} (hv : fs[k]? = some v) (hdg : decode cc pc = .ok (.getfield index, 3))
    (kk : W p l e R s m args below meth c H locs cells slots Q (F0 m (pc + 3) ls (v :: rest))) : W p l e R s m args below meth c H locs cells slots Q (F0 m pc ls (.ref (h q) :: rest)) :=
  va_get (D := D) hx hb hts hin hown hK.1 hH.1 q (by rw [nW_get hq, hcell]) hc k hk (hts _ hlink) (fun _ h9 => h9) hv hdg kk
theorem ng_put (hx : p.tables.exec = Jvm.exec) (hb : c.code = cc) {own C : String} {T : u_T} {NN ci index : Nat} (hts : ∀ w ∈ wsL_law, w.before args s = true) (hown : s.vm.findClass own = some m.cls) (hK : nKK D cI cZ cA s) (hH : nH D N cf h A H0 σ H locs) (q : Nat) (hq : q < N) {fs : List Value} (hcell : cf q (σ q) = .inr (ci, fs)) (hc : ncl[ci]? = some (C, T, NN)) (hin : ∀ w ∈ u_ws C T NN, w ∈ wsL_law) (ty0 : Nat → FieldType) (hty : ∀ k, k < NN → parseFieldDescriptor (T k).2.2.1 = some (ty0 k)) (hnm : ∀ a, a < NN → ∀ b, b < NN → a ≠ b → (T a).2.1 ≠ (T b).2.1) (k : Nat) (hk : k < NN) (hlink : (Cond.fieldLink own index (T k).1 (T k).2.1 (T k).2.2.1) ∈ wsL_law) (hfin : (T k).2.2.2 = false) {x : Int32} (hd : parseFieldDescriptor (T k).2.2.1 = some .int) (hl : k < fs.length) (hset : cf q (upd (σ q) k x) = .inr (ci, fs.set k (.int x))) (hdg : decode cc pc = .ok (.putfield index, 3))
    (kk : ∀ (H1 : Heap) (locs1 : List Loc), nH D N cf h A H0 (nst σ q k x) H1 locs1 → W p l e R s m args below meth c H1 locs1 cells slots Q (F0 m (pc + 3) ls rest)) : W p l e R s m args below meth c H locs cells slots Q (F0 m pc ls (.int x :: .ref (h q) :: rest)) := by
  refine va_put (D := D) (ty := .int) (v := .int x) hx hb hts hin ty0 hty hnm hown hK.1 hH.1 hH.2.1 hH.2.2.1 q (by rw [nW_get hq, hcell]) hc k hk (hts _ hlink) (fun _ h9 => h9) hfin hd rfl rfl hl hdg (fun H1 locs1 hP hD hS => ?_)
  rw [← hset, nW_set] at hP hD
  exact kk H1 locs1 ⟨hP, hD, hS, hH.2.2.2⟩
theorem ng_iald (hx : p.tables.exec = Jvm.exec) (hb : c.code = cc) (hK : nKK D cI cZ cA s) (hH : nH D N cf h A H0 σ H locs) (q : Nat) (hq : q < N) {n : Nat} (hcell : ∀ f, cf q f = .inl (cI, n, .inl f)) {i : Int32} (hin : inb i n) (hdg : decode cc pc = .ok (.iaload, 1))
    (kk : W p l e R s m args below meth c H locs cells slots Q (F0 m (pc + 1) ls (.int (σ q i.toNatClampNeg) :: rest))) : W p l e R s m args below meth c H locs cells slots Q (F0 m pc ls (.int i :: .ref (h q) :: rest)) :=
  va_iald hx hb hK.1 hH.1 q 0 (by rw [nW_get hq, hcell]) rfl (inb_vp hin) hdg kk
theorem ng_zald (hx : p.tables.exec = Jvm.exec) (hb : c.code = cc) (hK : nKK D cI cZ cA s) (hH : nH D N cf h A H0 σ H locs) (q : Nat) (hq : q < N) {n : Nat} (hcell : ∀ f, cf q f = .inl (cZ, n, .inl f)) {i : Int32} (hin : inb i n) (hdg : decode cc pc = .ok (.baload, 1))
    (kk : W p l e R s m args below meth c H locs cells slots Q (F0 m (pc + 1) ls (.int (σ q i.toNatClampNeg) :: rest))) : W p l e R s m args below meth c H locs cells slots Q (F0 m pc ls (.int i :: .ref (h q) :: rest)) :=
  va_zald hx hb hK.1 hH.1 q 1 (by rw [nW_get hq, hcell]) rfl (inb_vp hin) hdg kk
theorem ng_aald (hx : p.tables.exec = Jvm.exec) (hb : c.code = cc) (hK : nKK D cI cZ cA s) (hH : nH D N cf h A H0 σ H locs) (q : Nat) (hq : q < N) (b : Nat) {n : Nat} (hcell : ∀ f, cf q f = .inl (cA, n, .inr (.inr (.inr (.inr (fun j => some (h (b + j)))))))) {i : Int32} (hin : inb i n) (hdg : decode cc pc = .ok (.aaload, 1))
    (kk : W p l e R s m args below meth c H locs cells slots Q (F0 m (pc + 1) ls (.ref (h (b + i.toNatClampNeg)) :: rest))) : W p l e R s m args below meth c H locs cells slots Q (F0 m pc ls (.int i :: .ref (h q) :: rest)) := by
  have hv := inb_vp hin
  have hlt : i.toNatClampNeg < n := Nat.not_le.mp fun q => hv (Or.inr q)
  have ha : (nW N cf h σ)[q]? = some (h q, .inl (cA, n, .inr (.inr (.inr (.inr (fun j => some (h (b + j)))))))) := by rw [nW_get hq, hcell]
  exact W.aald (v := va_rf (some (h (b + i.toNatClampNeg)))) (ty := .array .int) hx hb (hH.1 q _ ha) ((hK.1.2 2 _ rfl).1 n (fun j => va_rf (some (h (b + j))))) rfl (fun q => by cases q) (by show ¬ (i < 0 ∨ (arrV _ _ _).slots.size ≤ _); rw [arrV_size]; exact hv) (by show (arrV _ _ _).slots[_]? = _; rw [arrV_read _ _ hlt]) rfl rfl hdg kk
theorem ng_iast (hx : p.tables.exec = Jvm.exec) (hb : c.code = cc) (hK : nKK D cI cZ cA s) (hH : nH D N cf h A H0 σ H locs) (q : Nat) (hq : q < N) {n : Nat} (hcell : ∀ f, cf q f = .inl (cI, n, .inl f)) {i x : Int32} (hin : inb i n) (hdg : decode cc pc = .ok (.iastore, 1))
    (kk : ∀ (H1 : Heap) (locs1 : List Loc), nH D N cf h A H0 (nst σ q i.toNatClampNeg x) H1 locs1 → W p l e R s m args below meth c H1 locs1 cells slots Q (F0 m (pc + 1) ls rest)) : W p l e R s m args below meth c H locs cells slots Q (F0 m pc ls (.int x :: .int i :: .ref (h q) :: rest)) := by
  refine va_iast hx hb hK.1 hH.1 hH.2.1 hH.2.2.1 q 0 (by rw [nW_get hq, hcell]) rfl (inb_vp hin) hdg (fun H1 locs1 hP hD hS => ?_)
  rw [← hcell (upd (σ q) i.toNatClampNeg x), nW_set] at hP hD
  exact kk H1 locs1 ⟨hP, hD, hS, hH.2.2.2⟩
theorem ng_zast (hx : p.tables.exec = Jvm.exec) (hb : c.code = cc) (hK : nKK D cI cZ cA s) (hH : nH D N cf h A H0 σ H locs) (q : Nat) (hq : q < N) {n : Nat} (hcell : ∀ f, cf q f = .inl (cZ, n, .inl f)) {i x : Int32} (hin : inb i n) (hdg : decode cc pc = .ok (.bastore, 1))
    (kk : ∀ (H1 : Heap) (locs1 : List Loc), nH D N cf h A H0 (nst σ q i.toNatClampNeg (x &&& 1)) H1 locs1 → W p l e R s m args below meth c H1 locs1 cells slots Q (F0 m (pc + 1) ls rest)) : W p l e R s m args below meth c H locs cells slots Q (F0 m pc ls (.int x :: .int i :: .ref (h q) :: rest)) := by
  refine va_zast hx hb hK.1 hH.1 hH.2.1 hH.2.2.1 q 1 (by rw [nW_get hq, hcell]) rfl (inb_vp hin) hdg (fun H1 locs1 hP hD hS => ?_)
  rw [show vp_nar .boolean x = x &&& 1 from rfl, ← hcell (upd (σ q) i.toNatClampNeg (x &&& 1)), nW_set] at hP hD
  exact kk H1 locs1 ⟨hP, hD, hS, hH.2.2.2⟩
/-! calls -/
theorem nGIn {z : Cond} {y : MethodName} {bytes : ByteArray} {maxL : Nat} {ret : Option FieldType} (w : Cond.code y bytes maxL ret ∈ wsL_law) : GoodIn wsL_law (Cond.code y bytes maxL ret :: wsL_law) := fun v hv => by
  rcases List.mem_cons.mp hv with rfl | h
  · exact ⟨w, nGood _ w⟩
  · exact ⟨h, nGood _ h⟩
theorem ng_rV (hx : p.tables.exec = Jvm.exec) (hb : c.code = cc) {nL : Nat} (hml : c.maxLocals = nL) {own C : String} (hown : s.vm.findClass own = some m.cls) (hts : ∀ w ∈ wsL_law, w.before args s = true) (hK : nKK D cI cZ cA s) (hH : nH D N cf h A H0 σ H locs) {y : MethodName} {bytes : ByteArray} {maxL k idx : Nat} {ret : Option FieldType} {Qc : Array Value → State → Outcome → State → Prop} {As : List Value} {st0 : List Value} (q : Nat)
    (hM : Met l y (.code y bytes maxL ret :: wsL_law) (nRm k) (nPc (.ref (h q) :: As) D cI cZ cA N cf h H.size σ) Qc 0 0 (nAd N h H.size)) (hq : q < N) {ci NN : Nat} {T : u_T} {fs : List Value} (hcell : cf q (σ q) = .inr (ci, fs)) (hc : ncl[ci]? = some (C, T, NN))
    (w1 : Cond.methodLink own idx y ∈ wsL_law) (w2 : Cond.instanceMethod y ∈ wsL_law) (w3 : Cond.selects C y y ∈ wsL_law) (w4 : Cond.initialized C ∈ wsL_law) (w5 : Cond.code y bytes maxL ret ∈ wsL_law)
    (hd : y.cls = C ∧ y.cls ≠ "java/lang/invoke/MethodHandle" ∧ y.cls ≠ "java/lang/invoke/VarHandle" ∧ (parseMethodDescriptor y.desc).map (fun d => d.parameters.length) = some As.length) (hR : k + 1 ≤ R.frames ∧ 8 + (maxL + 11) + 64 * k ≤ R.locals) (hsize : ls.size = nL) (hst : st0 = As.reverse ++ .ref (h q) :: rest) (hW : (rest.map fun v => v.category).sum ≤ 8) (hdg : decode cc pc = .ok (.invokevirtual idx, 3)) (hf : cells ≤ R.cells ∧ slots ≤ R.slots) :
    va_Run p l e R s m args below meth c H locs cells slots 0 0 (F0 m pc ls st0) rest (Qc (Value.ref (h q) :: As).toArray) (nAd N h H.size) := by
  obtain ⟨hC, hd⟩ := hd
  refine va_runV (C := C) (b := h q) (As := As) (rest := rest) ⟨hx, hb, hml, hown, hts⟩ hM ⟨callB_of As.length hts (nGIn (z := .tt) w5) rfl rfl rfl (by rw [hC]; exact hts _ w4) (hts _ w1) hd hR, hts _ w2, hts _ w3⟩ ⟨nPc_blind, va_recv hK.1 hH.1 hc (q0 := q) (by rw [nW_get hq, hcell]), fun U hU hW => ⟨rfl, by rw [hU], by rw [hU]; exact hH.1, hK.warm hW⟩⟩ rfl rfl hsize hst (lv_room hW) hdg hf
theorem ng_rS (hx : p.tables.exec = Jvm.exec) (hb : c.code = cc) {nL : Nat} (hml : c.maxLocals = nL) {own : String} (hown : s.vm.findClass own = some m.cls) (hts : ∀ w ∈ wsL_law, w.before args s = true) (hK : nKK D cI cZ cA s) (hH : nH D N cf h A H0 σ H locs) {y : MethodName} {bytes : ByteArray} {maxL k idx : Nat} {ret : Option FieldType} {Qc : Array Value → State → Outcome → State → Prop} {As : List Value} {st0 : List Value}
    (hM : Met l y (.code y bytes maxL ret :: wsL_law) (nRm k) (nPc As D cI cZ cA N cf h H.size σ) Qc 0 0 (nAd N h H.size))
    (w1 : Cond.methodLink own idx y ∈ wsL_law) (w2 : Cond.static y ∈ wsL_law) (w4 : Cond.initialized y.cls ∈ wsL_law) (w5 : Cond.code y bytes maxL ret ∈ wsL_law)
    (hd : y.cls ≠ "java/lang/invoke/MethodHandle" ∧ y.cls ≠ "java/lang/invoke/VarHandle" ∧ (parseMethodDescriptor y.desc).map (fun d => d.parameters.length) = some As.length) (hR : k + 1 ≤ R.frames ∧ 8 + (maxL + 11) + 64 * k ≤ R.locals) (hsize : ls.size = nL) (hst : st0 = As.reverse ++ rest) (hW : (rest.map fun v => v.category).sum ≤ 8) (hdg : decode cc pc = .ok (.invokestatic idx, 3)) (hf : cells ≤ R.cells ∧ slots ≤ R.slots) :
    va_Run p l e R s m args below meth c H locs cells slots 0 0 (F0 m pc ls st0) rest (Qc As.toArray) (nAd N h H.size) :=
  va_runS (As := As) (rest := rest) ⟨hx, hb, hml, hown, hts⟩ hM ⟨callB_of As.length hts (nGIn (z := .tt) w5) rfl rfl rfl (hts _ w4) (hts _ w1) hd hR, hts _ w2⟩ ⟨nPc_blind, fun U hU hW => ⟨rfl, by rw [hU], by rw [hU]; exact hH.1, hK.warm hW⟩⟩ rfl rfl hsize hst (lv_room hW) hdg hf
theorem ng_rSN (hx : p.tables.exec = Jvm.exec) (hb : c.code = cc) {nL : Nat} (hml : c.maxLocals = nL) {own host : String} (hown : s.vm.findClass own = some m.cls) (hts : ∀ w ∈ wsL_law, w.before args s = true) (hK : nKK D cI cZ cA s) (hH : nH D N cf h A H0 σ H locs) {y : MethodName} {bytes : ByteArray} {maxL k idx : Nat} {ret : Option FieldType} {Qc : Array Value → State → Outcome → State → Prop} {As : List Value} {st0 : List Value}
    (hM : Met l y (.code y bytes maxL ret :: wsL_law) (nRm k) (nPc As D cI cZ cA N cf h H.size σ) Qc 0 0 (nAd N h H.size))
    (w1 : va_Nw (.methodLinkNest own idx y host) s) (w2 : Cond.static y ∈ wsL_law) (w4 : Cond.initialized y.cls ∈ wsL_law) (w5 : Cond.code y bytes maxL ret ∈ wsL_law)
    (hd : y.cls ≠ "java/lang/invoke/MethodHandle" ∧ y.cls ≠ "java/lang/invoke/VarHandle" ∧ (parseMethodDescriptor y.desc).map (fun d => d.parameters.length) = some As.length) (hR : k + 1 ≤ R.frames ∧ 8 + (maxL + 11) + 64 * k ≤ R.locals) (hsize : ls.size = nL) (hst : st0 = As.reverse ++ rest) (hW : (rest.map fun v => v.category).sum ≤ 8) (hdg : decode cc pc = .ok (.invokestatic idx, 3)) (hf : cells ≤ R.cells ∧ slots ≤ R.slots) :
    va_Run p l e R s m args below meth c H locs cells slots 0 0 (F0 m pc ls st0) rest (Qc As.toArray) (nAd N h H.size) :=
  va_runSN (host := host) (As := As) (rest := rest) ⟨hx, hb, hml, hown, hts⟩ hM ⟨va_cnB As.length hts (nGIn (z := .tt) w5) rfl rfl rfl w1 (hts _ w4) hd hR, hts _ w2, trivial⟩ ⟨nPc_blind, fun U hU hW => ⟨rfl, by rw [hU], by rw [hU]; exact hH.1, hK.warm hW⟩⟩ rfl rfl hsize hst (lv_room hW) hdg hf
theorem ng_ci {st0 : List Value} {a : Array Value} {r : Int32} {σ' : nS} (hr : va_Run p l e R s m args below meth c H locs cells slots 0 0 (F0 m pc ls st0) rest (nQi D N cf h H.size r σ' a) (nAd N h H.size)) (hH : nH D N cf h A H0 σ H locs)
    (kk : ∀ (H1 : Heap) (locs1 : List Loc), nH D N cf h A H0 σ' H1 locs1 → W p l e R s m args below meth c H1 locs1 cells slots Q (F0 m (pc + 3) ls (.int r :: rest))) : W p l e R s m args below meth c H locs cells slots Q (F0 m pc ls st0) :=
  va_calli hr hH.2.2.1 (fun q _ hq => hH.sub q hq) hH.sub (fun r' u t H1 locs1 ht hvm hw hB hz1 hk1 hS => by
    subst hw
    exact kk H1 locs1 ⟨by rw [← ht]; exact hB, nW_DA hH.2.1, hS, hH.2.2.2⟩)
theorem ng_cv {st0 : List Value} {a : Array Value} {σ' : nS} (hr : va_Run p l e R s m args below meth c H locs cells slots 0 0 (F0 m pc ls st0) rest (nQv D N cf h H.size σ' a) (nAd N h H.size)) (hH : nH D N cf h A H0 σ H locs)
    (kk : ∀ (H1 : Heap) (locs1 : List Loc), nH D N cf h A H0 σ' H1 locs1 → W p l e R s m args below meth c H1 locs1 cells slots Q (F0 m (pc + 3) ls rest)) : W p l e R s m args below meth c H locs cells slots Q (F0 m pc ls st0) :=
  va_callv hr hH.2.2.1 (fun q _ hq => hH.sub q hq) hH.sub (fun u t H1 locs1 ht hvm hw hB hz1 hk1 hS => by
    exact kk H1 locs1 ⟨by rw [← ht]; exact hB, nW_DA hH.2.1, hS, hH.2.2.2⟩)
theorem ng_iret (hx : p.tables.exec = Jvm.exec) (hb : c.code = cc) (hr : meth.sig.returnType = some .int) (hlk : meth.locks = false) {v r : Int32} {σ' : nS} {sz : Nat} (hv : v = r) (hs : σ = σ') (hH : nH D N cf h (nAd N h sz) s.heap σ H locs) (hdg : decode cc pc = .ok (.ireturn, 1)) : W p l e R s m args below meth c H locs 0 0 (MQ below (nQi D N cf h sz r σ') args s 0 0 (nAd N h sz)) (F0 m pc ls [.int v]) := by
  subst hv; subst hs
  exact W.iret hx hb hr (fun t ht hW => ⟨⟨v, (), rfl, rfl, by show va_P D ncl _ t.heap; rw [ht]; exact hH.1⟩, hH.2.2.1.F ht⟩) hH.2.2.1.2.2 hdg
theorem ng_zret (hx : p.tables.exec = Jvm.exec) (hb : c.code = cc) (hr : meth.sig.returnType = some .boolean) (hlk : meth.locks = false) {v r : Int32} {σ' : nS} {sz : Nat} (hz : v = 0 ∨ v = 1) (hv : v = r) (hs : σ = σ') (hH : nH D N cf h (nAd N h sz) s.heap σ H locs) (hdg : decode cc pc = .ok (.ireturn, 1)) : W p l e R s m args below meth c H locs 0 0 (MQ below (nQi D N cf h sz r σ') args s 0 0 (nAd N h sz)) (F0 m pc ls [.int v]) := by
  subst hv; subst hs
  exact W.zret hx hb hr (by rcases hz with rfl | rfl <;> rfl) (fun t ht hW => ⟨⟨v, (), rfl, rfl, by show va_P D ncl _ t.heap; rw [ht]; exact hH.1⟩, hH.2.2.1.F ht⟩) hH.2.2.1.2.2 hdg
theorem ng_vret (hx : p.tables.exec = Jvm.exec) (hb : c.code = cc) (hr : meth.sig.returnType = none) (hlk : meth.locks = false) {σ' : nS} {sz : Nat} (hs : σ = σ') (hH : nH D N cf h (nAd N h sz) s.heap σ H locs) (hdg : decode cc pc = .ok (.return_, 1)) : W p l e R s m args below meth c H locs 0 0 (MQ below (nQv D N cf h sz σ') args s 0 0 (nAd N h sz)) (F0 m pc ls []) := by
  subst hs
  exact W.vret hx hb hr (fun t ht hW => ⟨⟨(), rfl, trivial, by show va_P D ncl _ t.heap; rw [ht]; exact hH.1⟩, hH.2.2.1.F ht⟩) hH.2.2.1.2.2 hdg
theorem ng_table {x k : Int32} {n : Int} (hk : k.toInt = n) (h : ¬ x = k) : x.toInt ≠ n := fun e => h (Int32.toInt_inj.mp (e.trans hk.symm))
end NG
