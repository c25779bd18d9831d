theorem z_end {L n : Nat} (hL : L ≤ 2560) (hn : n ≤ 2560) (h : ¬ (Int32.ofNat L - 5 < nI n)) : n + 5 ≤ L := by
  rw [Int32.lt_iff_toInt_lt, nI_toInt (by omega)] at h
  have e : (Int32.ofNat L - 5).toInt = (L : Int) - 5 := by
    rw [Int32.toInt_sub]
    have e1 : (Int32.ofNat L).toInt = (L : Int) := nI_toInt (by omega)
    have e2 : (5 : Int32).toInt = 5 := by decide
    rw [e1, e2, Int.bmod_eq_of_le] <;> omega
  omega
set_option maxHeartbeats 4000000 in
set_option maxRecDepth 100000 in
theorem law_loop {p : Program} {l : Launch} {e : Env} {s : State} {m : MethodId} {below : List Frame} {meth : Method} {c : Code} {b L : Nat} {xs : Nat → Int32} {D : va_G} {cI cZ cA : ClassId} {h h' : Nat → Nat} (hr : meth.sig.returnType = ret) (hlk : meth.locks = false) (hE : lE p s m c b L xs D cI cZ cA (fun q => s.heap.size ≤ q) h h') (hL : L ≤ 2560) {cells slots : Nat} (hf : cells ≤ room_1.cells ∧ slots ≤ room_1.slots) :
    ∀ (N n : Nat), L + 1 ≤ n + N → n ≤ L → ∀ (ls : Array Slot) (σ τ : nS) (t : Nt) (H : Heap) (locs : List Loc), lv_has ls 4 [(0, .ref b), (1, .ref (h 0)), (2, .ref (h' 0)), (3, .int (nI n))] → NtOK t → RC σ t → RM τ t → nL2 D cI cZ cA h h' (fun q => s.heap.size ≤ q) s.heap σ τ H locs → W p l e room_1 s m #[Value.ref b] below meth c H locs cells slots (lw_Z below #[Value.ref b] s) (F0 m 18 ls []) := by
  intro N
  induction N with
  | zero => intro n h1 h2; omega
  | succ N ih =>
    intro n h1 h2 ls σ τ t H locs hl O hC hM hW
    obtain ⟨hx, hb, hml, hown, hts, hX, hbl, hbA, hK, hi, hi'⟩ := id hE
    have hS := hW.1.2.2.1
    refine lv_iload_n hx hb dL_law_18 rfl (lv_at hl 3 rfl) ?_
    refine lv_aload_n hx hb dL_law_19 rfl (lv_at hl 0 rfl) ?_
    refine va_slen hx hb hX hbl hbA hS dL_law_20 ?_
    refine lv_iconst (v := 5) hx hb dL_law_21 (by decide) ?_
    refine lv_isub hx hb dL_law_22 ?_
    refine lv_icmp_gt (tgt := 824) hx hb dL_law_23 (by decide) (fun c1 => ?_) (fun c1 => ?_)
    · refine lv_iconst (v := 1) hx hb dL_law_824 (by decide) ?_
      refine va_forget hS.2.2 ?_
      refine W.widen (k := 600000) (n := 7302250) hf.1 hf.2 ?_
      exact lw_ret hx hb hr hlk dL_law_825
    · have h5 : n + 5 ≤ L := z_end hL (by omega) c1
      have fin : ∀ (σ' τ' : nS) (t' : Nt) (H1 : Heap) (locs1 : List Loc), NtOK t' → RC σ' t' → RM τ' t' → nL2 D cI cZ cA h h' (fun q => s.heap.size ≤ q) s.heap σ' τ' H1 locs1 → W p l e room_1 s m #[Value.ref b] below meth c H1 locs1 cells slots (lw_Z below #[Value.ref b] s) (F0 m 818 ls []) := by
        intro σ' τ' t' H1 locs1 O' hC' hM' hW'
        refine lv_iinc (v := nI (n + 5)) (lv' := [(3, .int (nI (n + 5))), (0, .ref b), (1, .ref (h 0)), (2, .ref (h' 0))]) hx hb dL_law_818 hl (k := 3) rfl (nI_add n 5) (by decide) rfl (fun ls hl => ?_)
        refine lv_goto (tgt := 18) hx hb dL_law_821 (by decide) ?_
        exact ih (n + 5) (by omega) h5 ls σ' τ' t' H1 locs1 (lv_sub hl [1, 2, 3, 0] rfl) O' hC' hM' hW'
      refine lv_aload_n hx hb dL_law_26 rfl (lv_at hl 0 rfl) ?_
      refine lv_iload_n hx hb dL_law_27 rfl (lv_at hl 3 rfl) ?_
      refine va_sld hx hb hX hbl hbA hS (vp_in_nI (by omega) (by omega)) dL_law_28 ?_
      refine lv_bipush (v := 31) hx hb dL_law_29 (by decide) ?_
      refine lv_iand hx hb dL_law_31 ?_
      generalize xs (nI n).toNatClampNeg &&& 31 = x
      by_cases hr9 : 0 ≤ x.toInt ∧ x.toInt ≤ 23
      · obtain ⟨k, hk, rfl⟩ : ∃ k : Nat, k < 24 ∧ x = nI k := z_of (n := 24) ⟨hr9.1, by omega⟩ (by decide)
        clear hr9
        rcases (show k = 0 ∨ k = 1 ∨ k = 2 ∨ k = 3 ∨ k = 4 ∨ k = 5 ∨ k = 6 ∨ k = 7 ∨ k = 8 ∨ k = 9 ∨ k = 10 ∨ k = 11 ∨ k = 12 ∨ k = 13 ∨ k = 14 ∨ k = 15 ∨ k = 16 ∨ k = 17 ∨ k = 18 ∨ k = 19 ∨ k = 20 ∨ k = 21 ∨ k = 22 ∨ k = 23 by omega) with rfl | rfl | rfl | rfl | rfl | rfl | rfl | rfl | rfl | rfl | rfl | rfl | rfl | rfl | rfl | rfl | rfl | rfl | rfl | rfl | rfl | rfl | rfl | rfl
        · exact lv_tableIn (tgt := 144) hx hb dL_law_32 (by decide) (by decide) rfl (by decide) (la_0 l p e s m below meth c b L xs D cI cZ cA _ h h' _ cells slots n ls σ τ t H locs hE (by omega) hL hf hl O hC hM hW fin)
        · exact lv_tableIn (tgt := 167) hx hb dL_law_32 (by decide) (by decide) rfl (by decide) (la_1 l p e s m below meth c b L xs D cI cZ cA _ h h' _ cells slots n ls σ τ t H locs hE (by omega) hL hf hl O hC hM hW fin)
        · exact lv_tableIn (tgt := 236) hx hb dL_law_32 (by decide) (by decide) rfl (by decide) (la_2 l p e s m below meth c b L xs D cI cZ cA _ h h' _ cells slots n ls σ τ t H locs hE (by omega) hL hf hl O hC hM hW fin)
        · exact lv_tableIn (tgt := 259) hx hb dL_law_32 (by decide) (by decide) rfl (by decide) (la_3 l p e s m below meth c b L xs D cI cZ cA _ h h' _ cells slots n ls σ τ t H locs hE (by omega) hL hf hl O hC hM hW fin)
        · exact lv_tableIn (tgt := 308) hx hb dL_law_32 (by decide) (by decide) rfl (by decide) (la_4 l p e s m below meth c b L xs D cI cZ cA _ h h' _ cells slots n ls σ τ t H locs hE (by omega) hL hf hl O hC hM hW fin)
        · exact lv_tableIn (tgt := 341) hx hb dL_law_32 (by decide) (by decide) rfl (by decide) (la_5 l p e s m below meth c b L xs D cI cZ cA _ h h' _ cells slots n ls σ τ t H locs hE (by omega) hL hf hl O hC hM hW fin)
        · exact lv_tableIn (tgt := 374) hx hb dL_law_32 (by decide) (by decide) rfl (by decide) (la_6 l p e s m below meth c b L xs D cI cZ cA _ h h' _ cells slots n ls σ τ t H locs hE (by omega) hL hf hl O hC hM hW fin)
        · exact lv_tableIn (tgt := 407) hx hb dL_law_32 (by decide) (by decide) rfl (by decide) (la_7 l p e s m below meth c b L xs D cI cZ cA _ h h' _ cells slots n ls σ τ t H locs hE (by omega) hL hf hl O hC hM hW fin)
        · exact lv_tableIn (tgt := 450) hx hb dL_law_32 (by decide) (by decide) rfl (by decide) (la_8 l p e s m below meth c b L xs D cI cZ cA _ h h' _ cells slots n ls σ τ t H locs hE (by omega) hL hf hl O hC hM hW fin)
        · exact lv_tableIn (tgt := 463) hx hb dL_law_32 (by decide) (by decide) rfl (by decide) (la_9 l p e s m below meth c b L xs D cI cZ cA _ h h' _ cells slots n ls σ τ t H locs hE (by omega) hL hf hl O hC hM hW fin)
        · exact lv_tableIn (tgt := 486) hx hb dL_law_32 (by decide) (by decide) rfl (by decide) (la_10 l p e s m below meth c b L xs D cI cZ cA _ h h' _ cells slots n ls σ τ t H locs hE (by omega) hL hf hl O hC hM hW fin)
        · exact lv_tableIn (tgt := 499) hx hb dL_law_32 (by decide) (by decide) rfl (by decide) (la_11 l p e s m below meth c b L xs D cI cZ cA _ h h' _ cells slots n ls σ τ t H locs hE (by omega) hL hf hl O hC hM hW fin)
        · exact lv_tableIn (tgt := 522) hx hb dL_law_32 (by decide) (by decide) rfl (by decide) (la_12 l p e s m below meth c b L xs D cI cZ cA _ h h' _ cells slots n ls σ τ t H locs hE (by omega) hL hf hl O hC hM hW fin)
        · exact lv_tableIn (tgt := 545) hx hb dL_law_32 (by decide) (by decide) rfl (by decide) (la_13 l p e s m below meth c b L xs D cI cZ cA _ h h' _ cells slots n ls σ τ t H locs hE (by omega) hL hf hl O hC hM hW fin)
        · exact lv_tableIn (tgt := 568) hx hb dL_law_32 (by decide) (by decide) rfl (by decide) (la_14 l p e s m below meth c b L xs D cI cZ cA _ h h' _ cells slots n ls σ τ t H locs hE (by omega) hL hf hl O hC hM hW fin)
        · exact lv_tableIn (tgt := 601) hx hb dL_law_32 (by decide) (by decide) rfl (by decide) (la_15 l p e s m below meth c b L xs D cI cZ cA _ h h' _ cells slots n ls σ τ t H locs hE (by omega) hL hf hl O hC hM hW fin)
        · exact lv_tableIn (tgt := 614) hx hb dL_law_32 (by decide) (by decide) rfl (by decide) (la_16 l p e s m below meth c b L xs D cI cZ cA _ h h' _ cells slots n ls σ τ t H locs hE (by omega) hL hf hl O hC hM hW fin)
        · exact lv_tableIn (tgt := 647) hx hb dL_law_32 (by decide) (by decide) rfl (by decide) (la_17 l p e s m below meth c b L xs D cI cZ cA _ h h' _ cells slots n ls σ τ t H locs hE (by omega) hL hf hl O hC hM hW fin)
        · exact lv_tableIn (tgt := 660) hx hb dL_law_32 (by decide) (by decide) rfl (by decide) (la_18 l p e s m below meth c b L xs D cI cZ cA _ h h' _ cells slots n ls σ τ t H locs hE (by omega) hL hf hl O hC hM hW fin)
        · exact lv_tableIn (tgt := 683) hx hb dL_law_32 (by decide) (by decide) rfl (by decide) (la_19 l p e s m below meth c b L xs D cI cZ cA _ h h' _ cells slots n ls σ τ t H locs hE (by omega) hL hf hl O hC hM hW fin)
        · exact lv_tableIn (tgt := 716) hx hb dL_law_32 (by decide) (by decide) rfl (by decide) (la_20 l p e s m below meth c b L xs D cI cZ cA _ h h' _ cells slots n ls σ τ t H locs hE (by omega) hL hf hl O hC hM hW fin)
        · exact lv_tableIn (tgt := 749) hx hb dL_law_32 (by decide) (by decide) rfl (by decide) (la_21 l p e s m below meth c b L xs D cI cZ cA _ h h' _ cells slots n ls σ τ t H locs hE (by omega) hL hf hl O hC hM hW fin)
        · exact lv_tableIn (tgt := 772) hx hb dL_law_32 (by decide) (by decide) rfl (by decide) (la_22 l p e s m below meth c b L xs D cI cZ cA _ h h' _ cells slots n ls σ τ t H locs hE (by omega) hL hf hl O hC hM hW fin)
        · exact lv_tableIn (tgt := 795) hx hb dL_law_32 (by decide) (by decide) rfl (by decide) (la_23 l p e s m below meth c b L xs D cI cZ cA _ h h' _ cells slots n ls σ τ t H locs hE (by omega) hL hf hl O hC hM hW fin)
      · refine lv_tableOut (tgt := 818) hx hb dL_law_32 (by omega) (by decide) ?_
        exact fin σ τ t H locs O hC hM hW
