def nI9 : Cond := .methodLinkNest RX3 9 yX1_init "NetCuts"
def nI18 : Cond := .methodLinkNest RX3 18 yX2_init "NetCuts"
def nI25 : Cond := .methodLinkNest RX3 25 yX0_init "NetCuts"
/-- what constructors need besides -/
def nKX (D : va_G) (cI cZ cA : ClassId) (U : State) : Prop := nKK D cI cZ cA U ∧ va_AOA .int U ∧ va_Nw nI9 U ∧ va_Nw nI18 U ∧ va_Nw nI25 U
theorem nKX.warm {D : va_G} {cI cZ cA : ClassId} {s U : State} (hW : s.WarmedH U.vm) (h : nKX D cI cZ cA s) : nKX D cI cZ cA U := ⟨h.1.warm hW, over_moved hW.alike h.2.1, va_Nw.warmM hW h.2.2.1, va_Nw.warmM hW h.2.2.2.1, va_Nw.warmM hW h.2.2.2.2⟩
theorem nKX.same {D : va_G} {cI cZ cA : ClassId} {s U : State} (hW : s.vm = U.vm) (h : nKX D cI cZ cA s) : nKX D cI cZ cA U := ⟨h.1.same hW, over_moved (by rw [← hW]; exact Vm.Alike.refl s.vm) h.2.1, va_Nw.same rfl hW h.2.2.1, va_Nw.same rfl hW h.2.2.2.1, va_Nw.same rfl hW h.2.2.2.2⟩
def nRb (k mc ms : Nat) : Room := { frames := k, cells := mc, slots := ms, locals := 64 * k }
def nPb (h0 : Nat) (e0 : va_E) (D : va_G) (cI cZ cA : ClassId) (sz : Nat) : Array Value → State → Prop := va_Pc [.ref h0] (fun U => U.heap.size = sz ∧ va_P D ncl [(h0, e0)] U.heap ∧ nKX D cI cZ cA U)
def nQb (h0 : Nat) (e0 : va_E) (D : va_G) {α : Type} (wf : α → va_W) (sz : Nat) : Array Value → State → Outcome → State → Prop := va_Qv (fun _ : α => True) (fun q t => va_P D ncl (wf q) t.heap ∧ va_D (va_A [(h0, e0)] sz) (wf q)) (va_A [(h0, e0)] sz)
/-- a constructor: from its blank cell to its world -/
def nMb (l : Launch) (y : MethodName) (bytes : ByteArray) (k mc ms : Nat) (D : va_G) (cI cZ cA : ClassId) (h0 : Nat) (e0 : va_E) {α : Type} (wf : α → va_W) : Prop :=
  ∀ sz : Nat, Met l y (.code y bytes 1 none :: wsL_law) (nRb k mc ms) (nPb h0 e0 D cI cZ cA sz) (nQb h0 e0 D wf sz) mc ms (va_A [(h0, e0)] sz)
theorem nPb_blind {h0 : Nat} {e0 : va_E} {D : va_G} {cI cZ cA : ClassId} {sz : Nat} : FrameBlind (nPb h0 e0 D cI cZ cA sz) := fun a U g mk q => ⟨q.1, q.2.1, q.2.2.1, nKX.same (s := U) (U := U.calling g mk a) rfl q.2.2.2⟩
theorem nb_body {l : Launch} {y : MethodName} {bytes : ByteArray} {k mc ms : Nat} {D : va_G} {cI cZ cA : ClassId} {h0 : Nat} {e0 : va_E} {α : Type} {wf : α → va_W} (hy : plainName y.cls = true) (hin : y.name = "<init>")
    (body : ∀ (p : Program) (e : Env) (R : Room) (s : State) (m : MethodId) (args : Array Value) (below : List Frame) (meth : Method) (c : Code) (A : Nat → Prop) (Q : State → Prop) (ls : Array Slot), p.tables.exec = Jvm.exec → c.code = bytes → c.maxLocals = 1 → meth.sig.returnType = none → meth.locks = false → (∀ w ∈ wsL_law, w.before args s = true) → s.vm.findClass y.cls = some m.cls → meth.name = "<init>" → nKX D cI cZ cA s → R = nRb k mc ms → Q = MQ below (nQb h0 e0 D wf s.heap.size) args s mc ms (va_A [(h0, e0)] s.heap.size) → A = va_A [(h0, e0)] s.heap.size → lv_has ls 1 [(0, .ref h0)] → va_P D ncl [(h0, e0)] s.heap → va_D A [(h0, e0)] → va_S A s.heap s.heap [] → (∀ q, s.heap.size ≤ q → A q) → W p l e R s m args below meth c s.heap [] 0 0 Q (F0 m 0 ls [])) : nMb l y bytes k mc ms D cI cZ cA h0 e0 wf := by
  intro sz
  refine Met.ofW (cc := bytes) (maxL := 1) (ret := none) hy rfl ?_
  intro p e s m args below meth c s₁ B hml hv
  obtain ⟨ha, hsz, hP, hK⟩ := hv
  subst hsz
  show W p l e (nRb k mc ms) s m args below meth c s.heap [] 0 0 (MQ below (nQb h0 e0 D wf s.heap.size) args s mc ms (va_A [(h0, e0)] s.heap.size)) (entryFrame m args 1)
  have e1 : entryFrame m args 1 = entryFrame m [Value.ref h0].toArray 1 := by rw [ha]
  rw [e1]
  refine ng_entry [Value.ref h0] (Nat.le_of_ble_eq_true rfl) (fun ls hl => ?_)
  have hD : va_D (va_A [(h0, e0)] s.heap.size) [(h0, e0)] := by
    refine ⟨fun i j p q hp hq _ => ?_, fun k q hq => va_A.in hq⟩
    have h1 : i < 1 := (List.getElem?_eq_some_iff.mp hp).1
    have h2 : j < 1 := (List.getElem?_eq_some_iff.mp hq).1
    omega
  exact body p e (nRb k mc ms) s m args below meth c _ _ ls B.exec B.bytes hml B.returns B.notSynchronized (fun w hw => atoms_spec (ws := Cond.code y bytes 1 none :: wsL_law) B.pre w (List.mem_cons_of_mem _ hw)) (findClass_of_methodNamed B.named) (by rw [(name_of_methodNamed B.named B.method).1, hin]) hK rfl rfl rfl hl hP hD va_S.rf (fun q hq => Or.inr hq)
section NB
variable {p : Program} {l : Launch} {e : Env} {R : Room} {s : State} {m : MethodId} {args : Array Value} {below : List Frame} {meth : Method} {c : Code} {H : Heap} {locs : List Loc} {cells slots : Nat} {Q : State → Prop}
variable {cc : ByteArray} {pc : Nat} {ls : Array Slot} {rest : List Value} {D : va_G} {cI cZ cA : ClassId} {A : Nat → Prop} {H0 : Heap} {ws : va_W}
theorem nb_newI (hx : p.tables.exec = Jvm.exec) (hb : c.code = cc) (hts : ∀ w ∈ wsL_law, w.before args s = true) (w1 : Cond.arrayClass .int ∈ wsL_law) (hK : nKK D cI cZ cA s) (hP : va_P D ncl ws H) (hD : va_D A ws) (hS : va_S A H0 H locs) (hA : ∀ q, H0.size ≤ q → A q) {n : Int32} (N' : Nat) (hn : ¬ n < 0) (hN : n.toNatClampNeg = N') (hbytes : N' * 4 ≤ 536870912) (hcells : cells + 1 ≤ R.cells) (hslots : slots + N' ≤ R.slots) (hdg : decode cc pc = .ok (.newarray .int, 2))
    (kk : ∀ (q : Nat) (H1 : Heap), va_P D ncl (ws ++ [(q, .inl (cI, N', .inl (fun _ => 0)))]) H1 → va_D A (ws ++ [(q, .inl (cI, N', .inl (fun _ => 0)))]) → va_S A H0 H1 locs → W p l e R s m args below meth c H1 locs (cells + 1) (slots + N') Q (F0 m (pc + 2) ls (.ref q :: rest))) : W p l e R s m args below meth c H locs cells slots Q (F0 m pc ls (.int n :: rest)) := by
  refine va_newa (atype := .int) (ty := .int) (a0 := (N', .inl (fun _ => 0))) hx hb (hts _ w1) rfl hK.1 hP hD hS hA (fun _ => rfl) hn hN hbytes hcells hslots hdg (fun q cA' H1 hK1 hP1 hD1 hS1 => ?_)
  have e1 : s.vm.findClass ("[" ++ FieldType.int.toString) = some cA' := (hK1.2 3 _ rfl).2
  have e2 : s.vm.findClass ("[" ++ FieldType.int.toString) = some cI := (hK.1.2 0 _ rfl).2
  have e3 : cA' = cI := Option.some.inj (e1.symm.trans e2)
  subst e3
  exact kk q H1 hP1 hD1 hS1
theorem nb_newZ (hx : p.tables.exec = Jvm.exec) (hb : c.code = cc) (hts : ∀ w ∈ wsL_law, w.before args s = true) (w1 : Cond.arrayClass .boolean ∈ wsL_law) (hK : nKK D cI cZ cA s) (hP : va_P D ncl ws H) (hD : va_D A ws) (hS : va_S A H0 H locs) (hA : ∀ q, H0.size ≤ q → A q) {n : Int32} (N' : Nat) (hn : ¬ n < 0) (hN : n.toNatClampNeg = N') (hbytes : N' * 1 ≤ 536870912) (hcells : cells + 1 ≤ R.cells) (hslots : slots + N' ≤ R.slots) (hdg : decode cc pc = .ok (.newarray .boolean, 2))
    (kk : ∀ (q : Nat) (H1 : Heap), va_P D ncl (ws ++ [(q, .inl (cZ, N', .inl (fun _ => 0)))]) H1 → va_D A (ws ++ [(q, .inl (cZ, N', .inl (fun _ => 0)))]) → va_S A H0 H1 locs → W p l e R s m args below meth c H1 locs (cells + 1) (slots + N') Q (F0 m (pc + 2) ls (.ref q :: rest))) : W p l e R s m args below meth c H locs cells slots Q (F0 m pc ls (.int n :: rest)) := by
  refine va_newa (atype := .boolean) (ty := .boolean) (a0 := (N', .inl (fun _ => 0))) hx hb (hts _ w1) rfl hK.1 hP hD hS hA (fun _ => rfl) hn hN hbytes hcells hslots hdg (fun q cA' H1 hK1 hP1 hD1 hS1 => ?_)
  have e1 : s.vm.findClass ("[" ++ FieldType.boolean.toString) = some cA' := (hK1.2 3 _ rfl).2
  have e2 : s.vm.findClass ("[" ++ FieldType.boolean.toString) = some cZ := (hK.1.2 1 _ rfl).2
  have e3 : cA' = cZ := Option.some.inj (e1.symm.trans e2)
  subst e3
  exact kk q H1 hP1 hD1 hS1
theorem nb_pl {l0 : List Nat} {e0 : va_E} : va_pl ([] ++ l0) (vr_up (fun _ => e0) l0 e0) = l0.map (fun a => (a, e0)) := by
  unfold va_pl vr_up
  simp
theorem nb_outer {cA : ClassId} {r : Nat → Nat} : vp_cell cA (9, .inr (.inr (.inr (.inr (fun i => if i < 9 then some (r i) else none))))) = vp_cell cA (9, .inr (.inr (.inr (.inr (fun i => some (r i)))))) := by
  rw [vp_cell_q, vp_cell_q]
  unfold arrV
  congr 1
theorem nb_mna (hx : p.tables.exec = Jvm.exec) (hb : c.code = cc) (hts : ∀ w ∈ wsL_law, w.before args s = true) {own : String} {index : Nat} (hown : s.vm.findClass own = some m.cls) (w0 : Cond.classLink own index "[[I" ∈ wsL_law) (w1 : Cond.arrayClass .int ∈ wsL_law) (hK : nKX D cI cZ cA s) (hP : va_P D ncl ws H) (hD : va_D A ws) (hS : va_S A H0 H locs) (hA : ∀ q, H0.size ≤ q → A q) {n k : Int32} (hn : ¬ n < 0) (hk : ¬ k < 0) (hN : n.toNatClampNeg = 9) (hM : k.toNatClampNeg = 9) (hcells : cells + 10 ≤ R.cells) (hslots : slots + 90 ≤ R.slots) (hdg : decode cc pc = .ok (.multianewarray index 2, 4))
    (kk : ∀ (q : Nat) (r : Nat → Nat) (H1 : Heap), va_P D ncl (ws ++ ((q, .inl (cA, 9, .inr (.inr (.inr (.inr (fun i => some (r i))))))) :: (List.range 9).map (fun i => (r i, .inl (cI, 9, .inl (fun _ => 0)))))) H1 → va_D A (ws ++ ((q, .inl (cA, 9, .inr (.inr (.inr (.inr (fun i => some (r i))))))) :: (List.range 9).map (fun i => (r i, .inl (cI, 9, .inl (fun _ => 0)))))) → va_S A H0 H1 locs → W p l e R s m args below meth c H1 locs (cells + 10) (slots + 90) Q (F0 m (pc + 4) ls (.ref q :: rest))) : W p l e R s m args below meth c H locs cells slots Q (F0 m pc ls (.int k :: .int n :: rest)) := by
  have hcl : (Cond.classLink own index ("[" ++ (FieldType.array .int).toString)).before args s = true := hts _ (show Cond.classLink own index ("[" ++ (FieldType.array .int).toString) ∈ wsL_law from (show "[" ++ (FieldType.array .int).toString = "[[I" by decide +kernel) ▸ w0)
  have hcy : s.vm.findClass (FieldType.array .int).toString = some cI := (hK.1.1.2 0 _ rfl).2
  refine va_mna (X := ws) (L := []) (f := fun _ => .inl (cI, 9, .inl (fun _ => 0))) (ty := .int) (z := (9, .inl (fun _ => 0))) hx hb hown hcl hK.2.1 (hts _ w1) hcy hK.1.1 (by simpa [va_pl] using hP) (by simpa [va_pl] using hD) hS hA hn hk hN hM (by decide) (by decide) (by decide) rfl rfl (by omega) (by omega) (fun cx => ?_) hdg (fun q r cA' H1 hr1 hr2 hK1 hP1 hD1 hS1 => ?_)
  · show _ = arrV cx 9 (fun _ => .int 0)
    rw [← arrV_new]
    rfl
  · have e1 : s.vm.findClass ("[" ++ (FieldType.array .int).toString) = some cA' := (hK1.2 3 _ rfl).2
    have e2 : s.vm.findClass ("[" ++ (FieldType.array .int).toString) = some cA := (hK.1.1.2 2 _ rfl).2
    have e3 : cA' = cA := Option.some.inj (e1.symm.trans e2)
    subst e3
    rw [nb_pl, List.map_map, List.append_assoc] at hP1 hD1
    refine kk q r H1 (fun k9 x hx9 => ?_) ?_ hS1
    · have hw : ∀ e9 : va_E, (ws ++ ((q, e9) :: (List.range 9).map (fun i => ((r i, .inl (cI, 9, .inl (fun _ => 0))) : Nat × va_E)))) = ws ++ ([(q, e9)] ++ (List.range 9).map ((fun a => ((a, .inl (cI, 9, .inl (fun _ => 0))) : Nat × va_E)) ∘ r)) := fun e9 => rfl
      rw [hw] at hx9
      by_cases g : k9 = ws.length
      · subst g
        rw [List.getElem?_append_right (Nat.le_refl _), Nat.sub_self] at hx9
        cases hx9
        have h0 := hP1 ws.length (q, .inl (cA', 9, .inr (.inr (.inr (.inr (fun i => if i < 9 then some (r i) else none)))))) (by rw [List.getElem?_append_right (Nat.le_refl _), Nat.sub_self]; rfl)
        show H1[q]? = some (vp_cell _ _)
        rw [← nb_outer]
        exact h0
      · refine hP1 k9 x ?_
        rw [← hx9]
        by_cases g2 : k9 < ws.length
        · rw [List.getElem?_append_left g2, List.getElem?_append_left g2]
        · rw [List.getElem?_append_right (l₁ := ws) (by omega), List.getElem?_append_right (l₁ := ws) (by omega)]
          obtain ⟨d, hd⟩ : ∃ d, k9 - ws.length = d + 1 := ⟨k9 - ws.length - 1, by omega⟩
          rw [hd]
          rfl
    · refine ⟨fun i j x y hx1 hy1 hxy => ?_, fun i x hx1 => ?_⟩
      · have nm : ∀ (e9 : va_E) (i : Nat), ((ws ++ ((q, e9) :: (List.range 9).map (fun i => ((r i, .inl (cI, 9, .inl (fun _ => 0))) : Nat × va_E))))[i]?).map Prod.fst = ((ws ++ ([(q, .inl (cA', 9, .inr (.inr (.inr (.inr (fun i => if i < 9 then some (r i) else none))))))] ++ (List.range 9).map ((fun a => ((a, .inl (cI, 9, .inl (fun _ => 0))) : Nat × va_E)) ∘ r)))[i]?).map Prod.fst := fun e9 i => by
          rw [← List.getElem?_map, ← List.getElem?_map]
          simp
          rfl
        have a1 := nm (.inl (cA', 9, .inr (.inr (.inr (.inr (fun i => some (r i))))))) i
        have a2 := nm (.inl (cA', 9, .inr (.inr (.inr (.inr (fun i => some (r i))))))) j
        rw [hx1] at a1
        rw [hy1] at a2
        obtain ⟨x', hx', ex⟩ := Option.map_eq_some_iff.mp a1.symm
        obtain ⟨y', hy', ey⟩ := Option.map_eq_some_iff.mp a2.symm
        exact hD1.1 i j x' y' hx' hy' (by rw [ex, ey, hxy])
      · have nm : ((ws ++ ((q, .inl (cA', 9, .inr (.inr (.inr (.inr (fun i => some (r i))))))) :: (List.range 9).map (fun i => ((r i, .inl (cI, 9, .inl (fun _ => 0))) : Nat × va_E))))[i]?).map Prod.fst = ((ws ++ ([(q, .inl (cA', 9, .inr (.inr (.inr (.inr (fun i => if i < 9 then some (r i) else none))))))] ++ (List.range 9).map ((fun a => ((a, .inl (cI, 9, .inl (fun _ => 0))) : Nat × va_E)) ∘ r)))[i]?).map Prod.fst := by
          rw [← List.getElem?_map, ← List.getElem?_map]
          simp
          rfl
        rw [hx1] at nm
        obtain ⟨x', hx', ex⟩ := Option.map_eq_some_iff.mp nm.symm
        have := hD1.2 i x' hx'
        rw [ex] at this
        exact this
/-- behind a constructor's call -/
theorem nb_call {st0 : List Value} {a : Array Value} {b mc ms : Nat} {e0 : va_E} {α : Type} {wf : α → va_W} (hr : va_Run p l e R s m args below meth c H locs cells slots mc ms (F0 m pc ls st0) rest (nQb b e0 D wf H.size a) (va_A [(b, e0)] H.size)) (hP : va_P D ncl (ws ++ [(b, e0)]) H) (hD : va_D A (ws ++ [(b, e0)])) (hS : va_S A H0 H locs) (hA : ∀ q, H0.size ≤ q → A q)
    (kk : ∀ (q : α) (H1 : Heap) (locs1 : List Loc), va_P D ncl (ws ++ wf q) H1 → va_D A (ws ++ wf q) → va_S A H0 H1 locs1 → W p l e R s m args below meth c H1 locs1 (cells + mc) (slots + ms) Q (F0 m (pc + 3) ls rest)) : W p l e R s m args below meth c H locs cells slots Q (F0 m pc ls st0) := by
  have hlast : (ws ++ [(b, e0)])[ws.length]? = some (b, e0) := by rw [List.getElem?_append_right (Nat.le_refl _), Nat.sub_self]; rfl
  have hleft : ∀ (k : Nat) (q : Nat × va_E), ws[k]? = some q → (ws ++ [(b, e0)])[k]? = some q := fun k q hq => by
    rw [List.getElem?_append_left (List.getElem?_eq_some_iff.mp hq).1]; exact hq
  have hF : ∀ q, va_A [(b, e0)] H.size q → A q := fun q h => by
    rcases h with ⟨k, e9, h⟩ | h
    · have h0 : k < 1 := (List.getElem?_eq_some_iff.mp h).1
      rw [show k = 0 by omega] at h
      cases h
      exact hD.2 ws.length _ hlast
    · exact hA q (Nat.le_trans hS.1 h)
  have apart : ∀ (k : Nat) (q : Nat × va_E), ws[k]? = some q → q.1 < H.size ∧ ¬ va_A [(b, e0)] H.size q.1 := fun k q hq => by
    have hl := (hP k q (hleft k q hq)).lt
    refine ⟨hl, fun h => ?_⟩
    rcases h with ⟨k2, e9, h⟩ | h
    · have h0 : k2 < 1 := (List.getElem?_eq_some_iff.mp h).1
      rw [show k2 = 0 by omega] at h
      have h9 : q.1 = b := by
        have := Option.some.inj h
        exact (congrArg Prod.fst this).symm
      have := hD.1 k ws.length q (b, e0) (hleft k q hq) hlast h9
      have h8 := (List.getElem?_eq_some_iff.mp hq).1
      omega
    · omega
  refine va_callv hr hS (fun q _ h => hF q h) hF (fun u t H1 locs1 ht hvm hw hB hz1 hk1 hS1 => ?_)
  obtain ⟨hP1, hD1⟩ := hB
  rw [ht] at hP1
  refine kk u H1 locs1 (va_P.app (fun k q hq => ?_) hP1) (va_D.app ⟨fun i j x y hx hy hxy => hD.1 i j x y (hleft i x hx) (hleft j y hy) hxy, fun k q hq => hD.2 k q (hleft k q hq)⟩ (hD1.weaken (fun k q _ h => hF q.1 h)) (fun i j x y hx hy hxy => ?_)) hS1
  · obtain ⟨g1, g2⟩ := apart k q hq
    exact (hP k q (hleft k q hq)).kept (hk1 q.1 g1 g2)
  · exact (apart i x hx).2 (by rw [hxy]; exact hD1.2 j y hy)
theorem nb_ret (hx : p.tables.exec = Jvm.exec) (hb : c.code = cc) (hr : meth.sig.returnType = none) (hlk : meth.locks = false) {h0 : Nat} {e0 : va_E} {α : Type} {wf : α → va_W} (q : α) (hP : va_P D ncl (wf q) H) (hD : va_D (va_A [(h0, e0)] s.heap.size) (wf q)) (hS : va_S (va_A [(h0, e0)] s.heap.size) s.heap H locs) (hdg : decode cc pc = .ok (.return_, 1)) : W p l e R s m args below meth c H locs cells slots (MQ below (nQb h0 e0 D wf s.heap.size) args s cells slots (va_A [(h0, e0)] s.heap.size)) (F0 m pc ls []) :=
  W.vret hx hb hr (fun t ht hW => ⟨⟨q, rfl, trivial, by show va_P D ncl _ t.heap; rw [ht]; exact hP, hD⟩, hS.F ht⟩) hS.2.2 hdg
end NB
