def nB (D : va_G) (A : Nat → Prop) (H0 : Heap) (ws : va_W) (H : Heap) (locs : List Loc) : Prop := va_P D ncl ws H ∧ va_D A ws ∧ va_S A H0 H locs ∧ ∀ q, H0.size ≤ q → A q
/-- a row of arrays may be told otherwise outside its length -/
theorem nb_rowf {cA : ClassId} {f g : Nat → Option Nat} (h : ∀ i, i < 9 → f i = g i) : vp_cell cA (9, .inr (.inr (.inr (.inr f)))) = vp_cell cA (9, .inr (.inr (.inr (.inr g)))) := by
  rw [vp_cell_q, vp_cell_q]
  unfold arrV
  have e : (fun j : Fin 9 => va_rf (f j.val)) = (fun j : Fin 9 => va_rf (g j.val)) := funext fun j => by rw [h j.val j.isLt]
  rw [e]
theorem nb_swap {D : va_G} {A : Nat → Prop} {H0 H : Heap} {locs : List Loc} {ws : va_W} {cA : ClassId} {a : Nat} {f : Nat → Option Nat} (k : Nat) (g : Nat → Option Nat) (hk : ws[k]? = some (a, .inl (cA, 9, .inr (.inr (.inr (.inr f)))))) (h : ∀ i, i < 9 → f i = g i) (hB : nB D A H0 ws H locs) : nB D A H0 (ws.set k (a, .inl (cA, 9, .inr (.inr (.inr (.inr g)))))) H locs := by
  have hlen : k < ws.length := (List.getElem?_eq_some_iff.mp hk).1
  have old : ∀ (i : Nat) (x : Nat × va_E), (ws.set k (a, .inl (cA, 9, .inr (.inr (.inr (.inr g))))))[i]? = some x → ∃ y : Nat × va_E, ws[i]? = some y ∧ y.1 = x.1 := fun i x hx => by
    by_cases e : k = i
    · subst e
      rw [List.getElem?_set_self hlen] at hx
      cases hx
      exact ⟨_, hk, rfl⟩
    · rw [List.getElem?_set_ne e] at hx
      exact ⟨x, hx, rfl⟩
  refine ⟨fun i x hx => ?_, ⟨fun i j x y hx hy e => ?_, fun i x hx => ?_⟩, hB.2.2⟩
  · by_cases e : k = i
    · subst e
      rw [List.getElem?_set_self hlen] at hx
      cases hx
      have h0 := hB.1 k _ hk
      show H[a]? = some (vp_cell _ _)
      rw [← nb_rowf h]
      exact h0
    · rw [List.getElem?_set_ne e] at hx
      exact hB.1 i x hx
  · obtain ⟨x', hx', ex⟩ := old i x hx
    obtain ⟨y', hy', ey⟩ := old j y hy
    exact hB.2.1.1 i j x' y' hx' hy' (by rw [ex, ey, e])
  · obtain ⟨x', hx', ex⟩ := old i x hx
    rw [← ex]
    exact hB.2.1.2 i x' hx'
section NC
variable {p : Program} {l : Launch} {e : Env} {R : Room} {s : State} {m : MethodId} {args : Array Value} {below : List Frame} {meth : Method} {c : Code} {H : Heap} {locs : List Loc} {cells slots : Nat} {Q : State → Prop}
variable {cc : ByteArray} {pc : Nat} {ls : Array Slot} {rest : List Value} {D : va_G} {cI cZ cA : ClassId} {A : Nat → Prop} {H0 : Heap} {ws : va_W} {h0 : Nat}
theorem nb_pF (hx : p.tables.exec = Jvm.exec) (hb : c.code = cc) {own : String} {T : u_T} {NN ci index : Nat} (hts : ∀ w ∈ wsL_law, w.before args s = true) (hown : s.vm.findClass own = some m.cls) (hin2 : meth.name = "<init>") (hK : nKK D cI cZ cA s) {fs : List Value} (hB : nB D A H0 ((h0, .inr (ci, fs)) :: ws) H locs) (hc : ncl[ci]? = some (own, T, NN)) (hin : ∀ w ∈ u_ws own T NN, w ∈ wsL_law) {ty0 : Nat → FieldType} (hty : ∀ k, k < NN → parseFieldDescriptor (T k).2.2.1 = some (ty0 k)) (hnm : ∀ a, a < NN → ∀ b, b < NN → a ≠ b → (T a).2.1 ≠ (T b).2.1) (k : Nat) (hk : k < NN) (hlink : (Cond.fieldLink own index (T k).1 (T k).2.1 (T k).2.2.1) ∈ wsL_law) (hfin : (T k).2.2.2 = true) (hdecl : (T k).1 = own) {v : Value} (hn : narrow (ty0 k) v = v) (hfit : fits (ty0 k) v = true) (hl : k < fs.length) (hdg : decode cc pc = .ok (.putfield index, 3))
    (kk : ∀ (H1 : Heap) (locs1 : List Loc), nB D A H0 ((h0, .inr (ci, fs.set k v)) :: ws) H1 locs1 → W p l e R s m args below meth c H1 locs1 cells slots Q (F0 m (pc + 3) ls rest)) : W p l e R s m args below meth c H locs cells slots Q (F0 m pc ls (v :: .ref h0 :: rest)) :=
  va_putF (D := D) (ty := ty0 k) (v := v) hx hb hts hin ty0 hty hnm hown hK.1 hB.1 hB.2.1 hB.2.2.1 0 rfl hc k hk (hts _ hlink) (fun _ h9 => h9) hfin hin2 hdecl (hty k hk) hn hfit hl hdg (fun H1 locs1 hP hD hS => kk H1 locs1 ⟨hP, hD, hS, hB.2.2.2⟩)
theorem nb_pI (hx : p.tables.exec = Jvm.exec) (hb : c.code = cc) {own : String} {T : u_T} {NN ci index : Nat} (hts : ∀ w ∈ wsL_law, w.before args s = true) (hown : s.vm.findClass own = some m.cls) (hK : nKK D cI cZ cA s) {fs : List Value} (hB : nB D A H0 ((h0, .inr (ci, fs)) :: ws) H locs) (hc : ncl[ci]? = some (own, T, NN)) (hin : ∀ w ∈ u_ws own T NN, w ∈ wsL_law) {ty0 : Nat → FieldType} (hty : ∀ k, k < NN → parseFieldDescriptor (T k).2.2.1 = some (ty0 k)) (hnm : ∀ a, a < NN → ∀ b, b < NN → a ≠ b → (T a).2.1 ≠ (T b).2.1) (k : Nat) (hk : k < NN) (hlink : (Cond.fieldLink own index (T k).1 (T k).2.1 (T k).2.2.1) ∈ wsL_law) (hfin : (T k).2.2.2 = false) {x : Int32} (hn : narrow (ty0 k) (.int x) = .int x) (hfit : fits (ty0 k) (.int x) = true) (hl : k < fs.length) (hdg : decode cc pc = .ok (.putfield index, 3))
    (kk : ∀ (H1 : Heap) (locs1 : List Loc), nB D A H0 ((h0, .inr (ci, fs.set k (.int x))) :: ws) H1 locs1 → W p l e R s m args below meth c H1 locs1 cells slots Q (F0 m (pc + 3) ls rest)) : W p l e R s m args below meth c H locs cells slots Q (F0 m pc ls (.int x :: .ref h0 :: rest)) :=
  va_put (D := D) (ty := ty0 k) (v := .int x) hx hb hts hin ty0 hty hnm hown hK.1 hB.1 hB.2.1 hB.2.2.1 0 rfl hc k hk (hts _ hlink) (fun _ h9 => h9) hfin (hty k hk) hn hfit hl hdg (fun H1 locs1 hP hD hS => kk H1 locs1 ⟨hP, hD, hS, hB.2.2.2⟩)
theorem nb_nI (hx : p.tables.exec = Jvm.exec) (hb : c.code = cc) (hts : ∀ w ∈ wsL_law, w.before args s = true) (hK : nKK D cI cZ cA s) {x : Nat × va_E} (hB : nB D A H0 (x :: ws) H locs) {n : Int32} (N' : Nat) (hn : ¬ n < 0) (hN : n.toNatClampNeg = N') (hbytes : N' * 4 ≤ 536870912) (hcells : cells + 1 ≤ R.cells) (hslots : slots + N' ≤ R.slots) (hdg : decode cc pc = .ok (.newarray .int, 2))
    (kk : ∀ (q : Nat) (H1 : Heap), nB D A H0 (x :: (ws ++ [(q, .inl (cI, N', .inl (fun _ => 0)))])) H1 locs → W p l e R s m args below meth c H1 locs (cells + 1) (slots + N') Q (F0 m (pc + 2) ls (.ref q :: rest))) : W p l e R s m args below meth c H locs cells slots Q (F0 m pc ls (.int n :: rest)) :=
  nb_newI hx hb hts mw_24 hK hB.1 hB.2.1 hB.2.2.1 hB.2.2.2 N' hn hN hbytes hcells hslots hdg (fun q H1 hP hD hS => kk q H1 ⟨hP, hD, hS, hB.2.2.2⟩)
theorem nb_nZ (hx : p.tables.exec = Jvm.exec) (hb : c.code = cc) (hts : ∀ w ∈ wsL_law, w.before args s = true) (hK : nKK D cI cZ cA s) {x : Nat × va_E} (hB : nB D A H0 (x :: ws) H locs) {n : Int32} (N' : Nat) (hn : ¬ n < 0) (hN : n.toNatClampNeg = N') (hbytes : N' * 1 ≤ 536870912) (hcells : cells + 1 ≤ R.cells) (hslots : slots + N' ≤ R.slots) (hdg : decode cc pc = .ok (.newarray .boolean, 2))
    (kk : ∀ (q : Nat) (H1 : Heap), nB D A H0 (x :: (ws ++ [(q, .inl (cZ, N', .inl (fun _ => 0)))])) H1 locs → W p l e R s m args below meth c H1 locs (cells + 1) (slots + N') Q (F0 m (pc + 2) ls (.ref q :: rest))) : W p l e R s m args below meth c H locs cells slots Q (F0 m pc ls (.int n :: rest)) :=
  nb_newZ hx hb hts mw_34 hK hB.1 hB.2.1 hB.2.2.1 hB.2.2.2 N' hn hN hbytes hcells hslots hdg (fun q H1 hP hD hS => kk q H1 ⟨hP, hD, hS, hB.2.2.2⟩)
theorem nb_nA (hx : p.tables.exec = Jvm.exec) (hb : c.code = cc) (hts : ∀ w ∈ wsL_law, w.before args s = true) {own : String} {index : Nat} (hown : s.vm.findClass own = some m.cls) (w0 : Cond.classLink own index "[[I" ∈ wsL_law) (hK : nKX D cI cZ cA s) {x : Nat × va_E} (hB : nB D A H0 (x :: ws) H locs) {n k : Int32} (hn : ¬ n < 0) (hk : ¬ k < 0) (hN : n.toNatClampNeg = 9) (hM : k.toNatClampNeg = 9) (hcells : cells + 10 ≤ R.cells) (hslots : slots + 90 ≤ R.slots) (hdg : decode cc pc = .ok (.multianewarray index 2, 4))
    (kk : ∀ (q : Nat) (r : Nat → Nat) (H1 : Heap), nB D A H0 (x :: (ws ++ ((q, .inl (cA, 9, .inr (.inr (.inr (.inr (fun i => some (r i))))))) :: (List.range 9).map (fun i => (r i, .inl (cI, 9, .inl (fun _ => 0))))))) H1 locs → W p l e R s m args below meth c H1 locs (cells + 10) (slots + 90) Q (F0 m (pc + 4) ls (.ref q :: rest))) : W p l e R s m args below meth c H locs cells slots Q (F0 m pc ls (.int k :: .int n :: rest)) :=
  nb_mna hx hb hts hown w0 mw_24 hK hB.1 hB.2.1 hB.2.2.1 hB.2.2.2 hn hk hN hM hcells hslots hdg (fun q r H1 hP hD hS => kk q r H1 ⟨hP, hD, hS, hB.2.2.2⟩)
theorem nb_obj (hx : p.tables.exec = Jvm.exec) (hb : c.code = cc) (hml : c.maxLocals = 1) (hts : ∀ w ∈ wsL_law, w.before args s = true) {own : String} {idx : Nat} (hown : s.vm.findClass own = some m.cls) (w1 : Cond.methodLink own idx objectInit ∈ wsL_law) (hl : lv_has ls 1 [(0, .ref h0)]) (hR : 1 ≤ R.frames ∧ 12 ≤ R.locals) (d0 : decode cc 0 = .ok (.aload_n 0, 1)) (d1 : decode cc 1 = .ok (.invokespecial idx, 3)) (kk : W p l e R s m args below meth c H locs cells slots Q (F0 m 4 ls [])) : W p l e R s m args below meth c H locs cells slots Q (F0 m 0 ls []) := by
  refine lv_aload_n hx hb d0 rfl (lv_at hl 0 rfl) ?_
  refine W.objInit hx hb hown (hts _ w1) (hts _ mw_10) (hts _ mw_11) rfl (by rw [hml]; exact hl.1) rfl d1 hR.1 hR.2 ?_
  exact W.eq (g2 := F0 m 4 ls []) rfl kk
/-- a nest mate's constructor is called -/
theorem nb_make (hx : p.tables.exec = Jvm.exec) (hb : c.code = cc) {nL : Nat} (hml : c.maxLocals = nL) (hts : ∀ w ∈ wsL_law, w.before args s = true) {own : String} (hown : s.vm.findClass own = some m.cls) (hK : nKX D cI cZ cA s) {e0 : va_E} {b : Nat} {x : Nat × va_E} (hB : nB D A H0 (x :: (ws ++ [(b, e0)])) H locs) {y : MethodName} {bytes : ByteArray} {k mc ms idx : Nat} {α : Type} {wf : α → va_W} (hM : nMb l y bytes k mc ms D cI cZ cA b e0 wf) (w1 : va_Nw (.methodLinkNest own idx y "NetCuts") s) (w2 : Cond.instanceMethod y ∈ wsL_law) (w4 : Cond.initialized y.cls ∈ wsL_law) (w5 : Cond.code y bytes 1 none ∈ wsL_law) (hi : y.name = "<init>") (hd : y.cls ≠ "java/lang/invoke/MethodHandle" ∧ y.cls ≠ "java/lang/invoke/VarHandle" ∧ (parseMethodDescriptor y.desc).map (fun d => d.parameters.length) = some 0) (hR : k + 1 ≤ R.frames ∧ 8 + (1 + 11) + 64 * k ≤ R.locals) (hsize : ls.size = nL) (hW : (rest.map fun v => v.category).sum ≤ 8) (hdg : decode cc pc = .ok (.invokespecial idx, 3)) (hf : cells + mc ≤ R.cells ∧ slots + ms ≤ R.slots)
    (kk : ∀ (q : α) (H1 : Heap) (locs1 : List Loc), nB D A H0 (x :: (ws ++ wf q)) H1 locs1 → W p l e R s m args below meth c H1 locs1 (cells + mc) (slots + ms) Q (F0 m (pc + 3) ls rest)) : W p l e R s m args below meth c H locs cells slots Q (F0 m pc ls (.ref b :: rest)) := by
  have hlast : (x :: (ws ++ [(b, e0)]))[ws.length + 1]? = some (b, e0) := by
    rw [List.getElem?_cons_succ, List.getElem?_append_right (Nat.le_refl _), Nat.sub_self]; rfl
  have hPc : va_P D ncl [(b, e0)] H := fun i z hz => by
    have h1 : i < 1 := (List.getElem?_eq_some_iff.mp hz).1
    rw [show i = 0 by omega] at hz
    cases hz
    exact hB.1 _ _ hlast
  refine nb_call (ws := x :: ws) (b := b) (e0 := e0) (wf := wf) (va_runIN (host := "NetCuts") (As := []) (rest := rest) ⟨hx, hb, hml, hown, hts⟩ (hM H.size) ⟨va_cnB 0 hts (nGIn (z := .tt) w5) rfl rfl rfl w1 (hts _ w4) hd hR, hi, hts _ w2⟩ ⟨nPb_blind, fun U hU hW => ⟨rfl, by rw [hU], by rw [hU]; exact hPc, hK.warm hW⟩⟩ rfl rfl hsize rfl (lv_room hW) hdg hf) hB.1 hB.2.1 hB.2.2.1 hB.2.2.2 (fun q H1 locs1 hP hD hS => kk q H1 locs1 ⟨hP, hD, hS, hB.2.2.2⟩)
/-- a class's own constructor is called, of another class -/
theorem nb_makeL (hx : p.tables.exec = Jvm.exec) (hb : c.code = cc) {nL : Nat} (hml : c.maxLocals = nL) (hts : ∀ w ∈ wsL_law, w.before args s = true) {own : String} (hown : s.vm.findClass own = some m.cls) (hK : nKX D cI cZ cA s) {e0 : va_E} {b : Nat} (hB : nB D A H0 (ws ++ [(b, e0)]) H locs) {y : MethodName} {bytes : ByteArray} {k mc ms idx : Nat} {α : Type} {wf : α → va_W} (hM : nMb l y bytes k mc ms D cI cZ cA b e0 wf) (w1 : Cond.methodLink own idx y ∈ wsL_law) (w2 : Cond.instanceMethod y ∈ wsL_law) (w4 : Cond.initialized y.cls ∈ wsL_law) (w5 : Cond.code y bytes 1 none ∈ wsL_law) (hi : y.name = "<init>") (hd : y.cls ≠ "java/lang/invoke/MethodHandle" ∧ y.cls ≠ "java/lang/invoke/VarHandle" ∧ (parseMethodDescriptor y.desc).map (fun d => d.parameters.length) = some 0) (hR : k + 1 ≤ R.frames ∧ 8 + (1 + 11) + 64 * k ≤ R.locals) (hsize : ls.size = nL) (hW : (rest.map fun v => v.category).sum ≤ 8) (hdg : decode cc pc = .ok (.invokespecial idx, 3)) (hf : cells + mc ≤ R.cells ∧ slots + ms ≤ R.slots)
    (kk : ∀ (q : α) (H1 : Heap) (locs1 : List Loc), nB D A H0 (ws ++ wf q) H1 locs1 → W p l e R s m args below meth c H1 locs1 (cells + mc) (slots + ms) Q (F0 m (pc + 3) ls rest)) : W p l e R s m args below meth c H locs cells slots Q (F0 m pc ls (.ref b :: rest)) := by
  have hlast : (ws ++ [(b, e0)])[ws.length]? = some (b, e0) := by
    rw [List.getElem?_append_right (Nat.le_refl _), Nat.sub_self]; rfl
  have hPc : va_P D ncl [(b, e0)] H := fun i z hz => by
    have h1 : i < 1 := (List.getElem?_eq_some_iff.mp hz).1
    rw [show i = 0 by omega] at hz
    cases hz
    exact hB.1 _ _ hlast
  refine nb_call (ws := ws) (b := b) (e0 := e0) (wf := wf) (va_runI (As := []) (rest := rest) ⟨hx, hb, hml, hown, hts⟩ (hM H.size) ⟨callB_of 0 hts (nGIn (z := .tt) w5) rfl rfl rfl (hts _ w4) (hts _ w1) hd hR, hi, hts _ w2⟩ ⟨nPb_blind, fun U hU hW => ⟨rfl, by rw [hU], by rw [hU]; exact hPc, hK.warm hW⟩⟩ rfl rfl hsize rfl (lv_room hW) hdg hf) hB.1 hB.2.1 hB.2.2.1 hB.2.2.2 (fun q H1 locs1 hP hD hS => kk q H1 locs1 ⟨hP, hD, hS, hB.2.2.2⟩)
/-- a blank cell -/
theorem nb_nO (hx : p.tables.exec = Jvm.exec) (hb : c.code = cc) (hts : ∀ w ∈ wsL_law, w.before args s = true) {own C : String} {T : u_T} {NN ci index : Nat} (hin : ∀ w ∈ u_ws C T NN, w ∈ wsL_law) {ty : Nat → FieldType} (hty : ∀ k, k < NN → parseFieldDescriptor (T k).2.2.1 = some (ty k)) (hown : s.vm.findClass own = some m.cls) (w1 : Cond.classLink own index C ∈ wsL_law) (w2 : Cond.instantiable C NN ∈ wsL_law) (w3 : Cond.initialized C ∈ wsL_law) (hK : nKK D cI cZ cA s) (hB : nB D A H0 ws H locs) (hc : ncl[ci]? = some (C, T, NN)) {fs : List Value} (hfs : ∀ j, j < NN → defaultValue (ty j) = vp_V fs j) (hcells : cells + 1 ≤ R.cells) (hslots : slots + NN ≤ R.slots) (hdg : decode cc pc = .ok (.new index, 3))
    (kk : ∀ (q : Nat) (H1 : Heap), nB D A H0 (ws ++ [(q, .inr (ci, fs))]) H1 locs → W p l e R s m args below meth c H1 locs (cells + 1) (slots + NN) Q (F0 m (pc + 3) ls (.ref q :: rest))) : W p l e R s m args below meth c H locs cells slots Q (F0 m pc ls rest) :=
  va_new (ci := ci) (fs := fs) (C := C) (T := T) (N := NN) hx hb hts hin ty hty hown (hts _ w1) (hts _ w2) (hts _ w3) hK.1 hB.1 hB.2.1 hB.2.2.1 hB.2.2.2 hc hfs hcells hslots hdg (fun q H1 hP hD hS => kk q H1 ⟨hP, hD, hS, hB.2.2.2⟩)
end NC
def fsX0 : List Value := [.null, .int 0]
def fsX1 : List Value := [.null, .null, .null, .null, .null, .int 0, .int 0, .null, .null]
def fsX2 : List Value := [.null, .null, .null, .null, .null, .null, .null, .null, .int 0, .int 0, .int 0, .int 0]
def fsX3 : List Value := [.null, .null, .null, .null, .int 0, .int 0]
def fsX4 : List Value := [.null, .null, .int 0, .null, .null, .null, .null, .null, .int 0, .null, .null, .int 0, .null, .null, .int 0, .int 0, .int 0, .int 0, .int 0, .int 0, .int 0, .null, .null]
abbrev zI (cI : ClassId) (n : Nat) : va_E := .inl (cI, n, .inl (fun _ => 0))
abbrev zA (cA : ClassId) (g : Nat → Nat) (b : Nat) : va_E := .inl (cA, 9, .inr (.inr (.inr (.inr (fun j => some (g (b + j)))))))
def wfX0 (cI : ClassId) (h0 : Nat) (q : Nat) : va_W := [(h0, .inr (0, [.ref q, .int 0])), (q, zI cI 256)]
def wfX1 (cI cZ : ClassId) (h0 : Nat) (q : Nat → Nat) : va_W := [(h0, .inr (1, [.ref (q 2), .ref (q 3), .ref (q 4), .ref (q 5), .ref (q 6), .int 0, .int 0, .ref (q 7), .ref (q 8)])), (q 2, zI cI 24), (q 3, zI cI 24), (q 4, zI cI 24), (q 5, zI cZ 24), (q 6, zI cZ 24), (q 7, zI cI 9), (q 8, zI cI 9)]
def wfX2 (cI cA : ClassId) (h0 : Nat) (q : Nat → Nat) : va_W := [(h0, .inr (2, [.ref (q 10), .ref (q 20), .ref (q 30), .ref (q 40), .ref (q 41), .ref (q 42), .ref (q 43), .ref (q 44), .int 0, .int 0, .int 0, .int 1000000])), (q 10, zA cA q 11)] ++ (List.range 9).map (fun i => (q (11 + i), zI cI 9)) ++ [(q 20, zA cA q 21)] ++ (List.range 9).map (fun i => (q (21 + i), zI cI 9)) ++ [(q 30, zA cA q 31)] ++ (List.range 9).map (fun i => (q (31 + i), zI cI 9)) ++ [(q 40, zI cI 9), (q 41, zI cI 9), (q 42, zI cI 9), (q 43, zI cI 9), (q 44, zI cI 9)]
