def t00 : Nt := mkT 0 0 0 (fun _ => 0) (fun _ => 0) (fun _ => 0) (fun _ => 0) (fun _ => false) (fun _ => false) (fun _ => false) (fun _ => 0) (fun _ => 0)
theorem t00_ok : NtOK t00 := ⟨by decide, by decide, by decide, fun i hi => absurd hi (Nat.not_lt_zero i), fun i hi => absurd hi (Nat.not_lt_zero i), fun i hi => absurd hi (by show ¬ (false = true); decide), fun i hi => absurd hi (Nat.not_lt_zero i), fun i j hi => absurd hi (Nat.not_lt_zero i)⟩
theorem t00_C : RC σ0 t00 := ⟨rfl, rfl, rfl, fun i hi => absurd hi (Nat.not_lt_zero i), fun i hi => absurd hi (Nat.not_lt_zero i), fun i _ => rfl, fun i => b_0 i, fun i j _ => ⟨fun hb => absurd hb (by show ¬ (bt 0 j = true); rw [b_0]; decide), fun ⟨s, hs, _⟩ => absurd hs (Nat.not_lt_zero s)⟩⟩
theorem t00_M : RM (fun _ _ => 0) t00 := ⟨rfl, rfl, rfl, fun i hi => absurd hi (Nat.not_lt_zero i), fun i hi => absurd hi (Nat.not_lt_zero i), fun i _ => rfl, fun i _ => rfl, fun i hi => absurd hi (Nat.not_lt_zero i)⟩
theorem nW_len {N : Nat} {cf : Nat → (Nat → Int32) → va_E} {h : Nat → Nat} {σ : nS} : (nW N cf h σ).length = N := by simp [nW]
theorem nl_split {D : va_G} {cI cZ cA : ClassId} {h h' : Nat → Nat} {A : Nat → Prop} {H0 H : Heap} {locs : List Loc} {σ τ : nS} (hB : nB D A H0 (nW 48 (cfC cI cZ cA h) h σ ++ nW 14 (cfM cI cZ h') h' τ) H locs) : nInj 48 h ∧ nInj 14 h' ∧ nL2 D cI cZ cA h h' A H0 σ τ H locs := by
  have hl : ∀ (k : Nat), k < 48 → (nW 48 (cfC cI cZ cA h) h σ ++ nW 14 (cfM cI cZ h') h' τ)[k]? = some (h k, cfC cI cZ cA h k (σ k)) := fun k hk => by
    rw [List.getElem?_append_left (by rw [nW_len]; exact hk), nW_get hk]
  have hr : ∀ (k : Nat), k < 14 → (nW 48 (cfC cI cZ cA h) h σ ++ nW 14 (cfM cI cZ h') h' τ)[48 + k]? = some (h' k, cfM cI cZ h' k (τ k)) := fun k hk => by
    rw [List.getElem?_append_right (by rw [nW_len]; omega), nW_len, show 48 + k - 48 = k by omega, nW_get hk]
  have i1 : nInj 48 h := fun a b ha hb e => hB.2.1.1 a b _ _ (hl a ha) (hl b hb) e
  have i2 : nInj 14 h' := fun a b ha hb e => by
    have := hB.2.1.1 (48 + a) (48 + b) _ _ (hr a ha) (hr b hb) e
    omega
  refine ⟨i1, i2, ⟨fun k q hq => ?_, nW_D i1 (fun k hk => hB.2.1.2 k _ (hl k hk)), hB.2.2⟩, ⟨fun k q hq => ?_, nW_D i2 (fun k hk => hB.2.1.2 (48 + k) _ (hr k hk)), hB.2.2⟩, fun a b ha hb e => ?_⟩
  · obtain ⟨hk, rfl⟩ := nW_some hq
    exact hB.1 k _ (hl k hk)
  · obtain ⟨hk, rfl⟩ := nW_some hq
    exact hB.1 (48 + k) _ (hr k hk)
  · have := hB.2.1.1 a (48 + b) _ _ (hl a ha) (hr b hb) e
    omega
theorem sx_arr {s : State} {args : Array Value} {t : FieldType} (h : (Cond.arrayClass t).before args s = true) : ∃ cA, ArrOfT s cA t ∧ s.vm.findClass ("[" ++ t.toString) = some cA := by
  obtain ⟨cA, kA, comp, hfind, hk, hkind⟩ := Cond.arrayClass_spec h
  exact ⟨cA, fun n z => ⟨fun k h => (by cases h), kA, hk, comp, hkind⟩, hfind⟩
theorem sx_over {s : State} {args : Array Value} (h : (Cond.arrayOver (.array .int)).before args s = true) : ∃ cA, ArrOfT s cA (.array .int) ∧ s.vm.findClass ("[" ++ (FieldType.array .int).toString) = some cA := by
  obtain ⟨comp, c, k, hcomp, -, hk, hkind, hn⟩ := arrayOverA_spec h
  exact ⟨c, fun n z => ⟨fun k h => (by cases h), k, hk, comp, hkind⟩, hn⟩
set_option maxRecDepth 100000 in
theorem lw_nI9 : nI9 ∈ lw_tbl := List.mem_of_getElem? (i := 44) rfl
set_option maxRecDepth 100000 in
theorem lw_nI18 : nI18 ∈ lw_tbl := List.mem_of_getElem? (i := 88) rfl
set_option maxRecDepth 100000 in
theorem lw_nI25 : nI25 ∈ lw_tbl := List.mem_of_getElem? (i := 134) rfl
set_option maxRecDepth 100000 in
theorem lw_nN0 : nN0 ∈ lw_tbl := List.mem_of_getElem? (i := 353) rfl
set_option maxRecDepth 100000 in
theorem lw_nN1 : nN1 ∈ lw_tbl := List.mem_of_getElem? (i := 358) rfl
set_option maxRecDepth 100000 in
theorem lw_AO : Cond.arrayOver (.array .int) ∈ lw_tbl := List.mem_of_getElem? (i := 93) rfl
