theorem lw_known {s : State} {b : Nat} (hts : ∀ w ∈ lw_tbl, w.before #[Value.ref b] s = true) : ∃ (D : va_G) (cI cZ cA : ClassId), nKX D cI cZ cA s := by
  have ht : ∀ w ∈ wsL_law, w.before #[Value.ref b] s = true := fun w hw => hts w (wsL_law_in w hw)
  obtain ⟨c0, i0, h0⟩ := u_known (C := RX0) (T := TX0) (N := 2) (n := 2) ht inlX0 (ht _ mw_21)
  obtain ⟨c1, i1, h1⟩ := u_known (C := RX1) (T := TX1) (N := 9) (n := 9) ht inlX1 (ht _ mw_13)
  obtain ⟨c2, i2, h2⟩ := u_known (C := RX2) (T := TX2) (N := 12) (n := 12) ht inlX2 (ht _ mw_17)
  obtain ⟨c3, i3, h3⟩ := u_known (C := RX3) (T := TX3) (N := 6) (n := 6) ht inlX3 (ht _ mw_1)
  obtain ⟨c4, i4, h4⟩ := u_known (C := RX4) (T := TX4) (N := 23) (n := 23) ht inlX4 (ht _ mw_4)
  obtain ⟨cI, aI, fI⟩ := sx_arr (ht _ mw_24)
  obtain ⟨cZ, aZ, fZ⟩ := sx_arr (ht _ mw_34)
  obtain ⟨cA, aA, fA⟩ := sx_over (hts _ lw_AO)
  refine ⟨(fun k => match k with | 0 => c0 | 1 => c1 | 2 => c2 | 3 => c3 | _ => c4, fun k => match k with | 0 => i0 | 1 => i1 | 2 => i2 | 3 => i3 | _ => i4), cI, cZ, cA, ⟨⟨fun k q hq => ?_, fun k q hq => ?_⟩, va_Nw.of rfl (hts _ lw_nN0), va_Nw.of rfl (hts _ lw_nN1)⟩, hts _ lw_AO, va_Nw.of rfl (hts _ lw_nI9), va_Nw.of rfl (hts _ lw_nI18), va_Nw.of rfl (hts _ lw_nI25)⟩
  · match k, hq with
    | 0, hq => cases hq; exact h0
    | 1, hq => cases hq; exact h1
    | 2, hq => cases hq; exact h2
    | 3, hq => cases hq; exact h3
    | 4, hq => cases hq; exact h4
    | k + 5, hq => simp [ncl] at hq
  · match k, hq with
    | 0, hq => cases hq; exact ⟨aI, fI⟩
    | 1, hq => cases hq; exact ⟨aZ, fZ⟩
    | 2, hq => cases hq; exact ⟨aA, fA⟩
    | k + 3, hq => simp [nty] at hq
set_option maxHeartbeats 4000000 in
set_option maxRecDepth 100000 in
/-- from the entry, for every script of at most 2560 ints, the law comes to its end with true -/
theorem whole_start {p : Program} {e : Env} {s : State} {m : MethodId} {below : List Frame} {meth : Method} {c : Code} (l : Launch) {b L : Nat} {xs : Nat → Int32} (hL : L ≤ 2560) (C0 : lw_At p s m meth c b L xs) : W p l e room_1 s m #[Value.ref b] below meth c s.heap [] 0 0 (lw_Z below #[Value.ref b] s) (entryFrame m ([Value.ref b] : List Value).toArray 4) := by
  obtain ⟨hx, hb, hr, hml, hown, hts0, hX, hbl, hlocks, hgv⟩ := C0
  have hts : ∀ w ∈ wsL_law, w.before #[Value.ref b] s = true := fun w hw => hts0 w (wsL_law_in w hw)
  obtain ⟨D, cI, cZ, cA, hK⟩ := lw_known hts0
  have hB : nB D (fun q : Nat => s.heap.size ≤ q) s.heap [] s.heap [] := ⟨fun k q h => by simp at h, ⟨fun i j p q h => by simp at h, fun k q h => by simp at h⟩, va_S.rf, fun _ h => h⟩
  refine ng_entry [Value.ref b] (Nat.le_of_ble_eq_true rfl) (fun ls hl => ?_)
  have hl : lv_has ls 4 [(0, .ref b)] := hl
  refine nb_nO (ci := 3) (fs := fsX3) (C := RX3) (T := TX3) (NN := 6) (ws := []) hx hb hts inlX3 tyX3_ok hown mw_0 mw_1 mw_2 hK.1 hB rfl (by decide) (Nat.le_of_ble_eq_true rfl) (Nat.le_of_ble_eq_true rfl) dL_law_0 (fun b3 H hB => ?_)
  refine lv_dup hx hb dL_law_3 rfl ?_
  refine nb_makeL (ws := []) hx hb hml hts hown hK hB (bN_3 l D cI cZ cA b3) mw_6 mw_7 mw_2 mw_8 rfl (by decide +kernel) ⟨Nat.le_of_ble_eq_true rfl, Nat.le_of_ble_eq_true rfl⟩ hl.1 (Nat.le_of_ble_eq_true rfl) dL_law_4 ⟨Nat.le_of_ble_eq_true rfl, Nat.le_of_ble_eq_true rfl⟩ (fun u H locs hB => ?_)
  obtain ⟨h, eh⟩ := u
  subst eh
  have hB : nB D (fun q : Nat => s.heap.size ≤ q) s.heap (nW 48 (cfC cI cZ cA h) h σ0) H locs := hB
  refine lv_astore_n (lv' := [(1, .ref (h 0)), (0, .ref b)]) hx hb dL_law_7 rfl hl (by decide) rfl (fun ls hl => ?_)
  refine nb_nO (ci := 4) (fs := fsX4) (C := RX4) (T := TX4) (NN := 23) hx hb hts inlX4 tyX4_ok hown mw_3 mw_4 mw_5 hK.1 hB rfl (by decide) (Nat.le_of_ble_eq_true rfl) (Nat.le_of_ble_eq_true rfl) dL_law_8 (fun b4 H hB => ?_)
  refine lv_dup hx hb dL_law_11 rfl ?_
  refine nb_makeL (ws := nW 48 (cfC cI cZ cA h) h σ0) hx hb hml hts hown hK hB (bN_4 l D cI cZ cA b4) mw_63 mw_64 mw_5 mw_65 rfl (by decide +kernel) ⟨Nat.le_of_ble_eq_true rfl, Nat.le_of_ble_eq_true rfl⟩ hl.1 (Nat.le_of_ble_eq_true rfl) dL_law_12 ⟨Nat.le_of_ble_eq_true rfl, Nat.le_of_ble_eq_true rfl⟩ (fun u H locs hB => ?_)
  obtain ⟨h', eh⟩ := u
  subst eh
  obtain ⟨hi, hi', hW⟩ := nl_split hB
  refine lv_astore_n (lv' := [(2, .ref (h' 0)), (1, .ref (h 0)), (0, .ref b)]) hx hb dL_law_15 rfl hl (by decide) rfl (fun ls hl => ?_)
  refine lv_iconst (v := nI 0) hx hb dL_law_16 (by decide) ?_
  refine lv_istore_n (lv' := [(3, .int (nI 0)), (2, .ref (h' 0)), (1, .ref (h 0)), (0, .ref b)]) hx hb dL_law_17 rfl hl (by decide) rfl (fun ls hl => ?_)
  exact law_loop hr hlocks ⟨hx, hb, hml, hown, hts, hX, hbl, Nat.not_le.mpr hbl, hK.1, hi, hi'⟩ hL ⟨Nat.le_of_ble_eq_true rfl, Nat.le_of_ble_eq_true rfl⟩ (L + 1) 0 (by omega) (Nat.zero_le L) ls σ0 (fun _ _ => 0) t00 H locs (lv_sub hl [3, 2, 1, 0] rfl) t00_ok t00_C t00_M hW
