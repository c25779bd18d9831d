/-- the store of a fresh NetCuts -/
def σ0 : nS := fun c i => if c = 9 ∧ i = 11 then 1000000 else 0
set_option maxHeartbeats 4000000 in
set_option maxRecDepth 100000 in
theorem bN_3 (l : Launch) (D : va_G) (cI cZ cA : ClassId) (h0 : Nat) : nMb l yX3_init cX3_init 2 47 741 D cI cZ cA h0 (.inr (3, fsX3)) (fun u : {q : Nat → Nat // q 0 = h0} => nW 48 (cfC cI cZ cA u.1) u.1 σ0) := by
  refine nb_body (by decide) rfl ?_
  intro p e R s m args below meth c A Q ls hx hb hml hr hlk hts hown hin hK hR hQ hA0 hl hP hD hS hA
  subst hR
  have hB : nB D A s.heap [(h0, .inr (3, fsX3))] s.heap [] := ⟨hP, hD, hS, hA⟩
  clear hP hD hS
  refine nb_obj hx hb hml hts hown mw_9 hl ⟨Nat.le_of_ble_eq_true rfl, Nat.le_of_ble_eq_true rfl⟩ dX3_init_0 dX3_init_1 ?_
  refine lv_aload_n hx hb dX3_init_4 rfl (lv_at hl 0 rfl) ?_
  refine nb_nO (ci := 1) (fs := fsX1) (C := RX1) (T := TX1) (NN := 9) hx hb hts inlX1 tyX1_ok hown mw_12 mw_13 mw_14 hK.1 hB rfl (by decide) (Nat.le_of_ble_eq_true rfl) (Nat.le_of_ble_eq_true rfl) dX3_init_5 (fun b1 H hB => ?_)
  refine lv_dup hx hb dX3_init_8 rfl ?_
  refine nb_make hx hb hml hts hown hK hB (bN_1 l D cI cZ cA b1) hK.2.2.1 mw_28 mw_14 mw_29 rfl (by decide) ⟨Nat.le_of_ble_eq_true rfl, Nat.le_of_ble_eq_true rfl⟩ hl.1 (Nat.le_of_ble_eq_true rfl) dX3_init_9 ⟨Nat.le_of_ble_eq_true rfl, Nat.le_of_ble_eq_true rfl⟩ (fun u1 H locs hB => ?_)
  refine nb_pF (ci := 3) (own := RX3) (T := TX3) (NN := 6) hx hb hts hown hin hK.1 hB rfl inlX3 tyX3_ok nmX3 0 (by decide) mw_15 rfl rfl rfl rfl (Nat.le_of_ble_eq_true rfl) dX3_init_12 (fun H locs hB => ?_)
  refine lv_aload_n hx hb dX3_init_15 rfl (lv_at hl 0 rfl) ?_
  refine nb_nO (ci := 2) (fs := fsX2) (C := RX2) (T := TX2) (NN := 12) hx hb hts inlX2 tyX2_ok hown mw_16 mw_17 mw_18 hK.1 hB rfl (by decide) (Nat.le_of_ble_eq_true rfl) (Nat.le_of_ble_eq_true rfl) dX3_init_16 (fun b2 H hB => ?_)
  refine lv_dup hx hb dX3_init_19 rfl ?_
  refine nb_make hx hb hml hts hown hK hB (bN_2 l D cI cZ cA b2) hK.2.2.2.1 mw_41 mw_18 mw_42 rfl (by decide) ⟨Nat.le_of_ble_eq_true rfl, Nat.le_of_ble_eq_true rfl⟩ hl.1 (Nat.le_of_ble_eq_true rfl) dX3_init_20 ⟨Nat.le_of_ble_eq_true rfl, Nat.le_of_ble_eq_true rfl⟩ (fun u2 H locs hB => ?_)
  refine nb_pF (ci := 3) (own := RX3) (T := TX3) (NN := 6) hx hb hts hown hin hK.1 hB rfl inlX3 tyX3_ok nmX3 1 (by decide) mw_19 rfl rfl rfl rfl (Nat.le_of_ble_eq_true rfl) dX3_init_23 (fun H locs hB => ?_)
  refine lv_aload_n hx hb dX3_init_26 rfl (lv_at hl 0 rfl) ?_
  refine nb_nO (ci := 0) (fs := fsX0) (C := RX0) (T := TX0) (NN := 2) hx hb hts inlX0 tyX0_ok hown mw_20 mw_21 mw_22 hK.1 hB rfl (by decide) (Nat.le_of_ble_eq_true rfl) (Nat.le_of_ble_eq_true rfl) dX3_init_27 (fun b0 H hB => ?_)
  refine lv_dup hx hb dX3_init_30 rfl ?_
  refine nb_make hx hb hml hts hown hK hB (bN_0 l D cI cZ cA b0) hK.2.2.2.2 mw_58 mw_22 mw_59 rfl (by decide) ⟨Nat.le_of_ble_eq_true rfl, Nat.le_of_ble_eq_true rfl⟩ hl.1 (Nat.le_of_ble_eq_true rfl) dX3_init_31 ⟨Nat.le_of_ble_eq_true rfl, Nat.le_of_ble_eq_true rfl⟩ (fun u0 H locs hB => ?_)
  refine nb_pF (ci := 3) (own := RX3) (T := TX3) (NN := 6) hx hb hts hown hin hK.1 hB rfl inlX3 tyX3_ok nmX3 2 (by decide) mw_23 rfl rfl rfl rfl (Nat.le_of_ble_eq_true rfl) dX3_init_34 (fun H locs hB => ?_)
  refine lv_aload_n hx hb dX3_init_37 rfl (lv_at hl 0 rfl) ?_
  refine lv_bipush (v := 9) hx hb dX3_init_38 (by decide) ?_
  refine nb_nI hx hb hts hK.1 hB 9 (by decide) rfl (by decide) (Nat.le_of_ble_eq_true rfl) (Nat.le_of_ble_eq_true rfl) dX3_init_40 (fun q1 H hB => ?_)
  refine nb_pF (ci := 3) (own := RX3) (T := TX3) (NN := 6) hx hb hts hown hin hK.1 hB rfl inlX3 tyX3_ok nmX3 3 (by decide) mw_25 rfl rfl rfl rfl (Nat.le_of_ble_eq_true rfl) dX3_init_42 (fun H locs hB => ?_)
  refine lv_aload_n hx hb dX3_init_45 rfl (lv_at hl 0 rfl) ?_
  refine lv_iconst (v := 0) hx hb dX3_init_46 (by decide) ?_
  refine nb_pI (ci := 3) (own := RX3) (T := TX3) (NN := 6) hx hb hts hown hK.1 hB rfl inlX3 tyX3_ok nmX3 4 (by decide) mw_26 rfl rfl rfl (Nat.le_of_ble_eq_true rfl) dX3_init_47 (fun H locs hB => ?_)
  refine lv_aload_n hx hb dX3_init_50 rfl (lv_at hl 0 rfl) ?_
  refine lv_iconst (v := 0) hx hb dX3_init_51 (by decide) ?_
  refine nb_pI (ci := 3) (own := RX3) (T := TX3) (NN := 6) hx hb hts hown hK.1 hB rfl inlX3 tyX3_ok nmX3 5 (by decide) mw_27 rfl rfl rfl (Nat.le_of_ble_eq_true rfl) dX3_init_52 (fun H locs hB => ?_)
  obtain ⟨q, hq⟩ : ∃ q : Nat → Nat, q = fun i => [h0, b1, u1 2, u1 3, u1 4, u1 5, u1 6, u1 7, u1 8, b2, u2 10, u2 11, u2 12, u2 13, u2 14, u2 15, u2 16, u2 17, u2 18, u2 19, u2 20, u2 21, u2 22, u2 23, u2 24, u2 25, u2 26, u2 27, u2 28, u2 29, u2 30, u2 31, u2 32, u2 33, u2 34, u2 35, u2 36, u2 37, u2 38, u2 39, u2 40, u2 41, u2 42, u2 43, u2 44, b0, u0, q1].getD i 0 := ⟨_, rfl⟩
  have hB := nb_swap 10 (fun j => some (q (11 + j))) rfl (fun i hi => rwC_9 (P := fun j => some (u2 (11 + j)) = some (q (11 + j))) (by rw [hq]; rfl) (by rw [hq]; rfl) (by rw [hq]; rfl) (by rw [hq]; rfl) (by rw [hq]; rfl) (by rw [hq]; rfl) (by rw [hq]; rfl) (by rw [hq]; rfl) (by rw [hq]; rfl) hi) hB
  have hB := nb_swap 20 (fun j => some (q (21 + j))) rfl (fun i hi => rwC_9 (P := fun j => some (u2 (21 + j)) = some (q (21 + j))) (by rw [hq]; rfl) (by rw [hq]; rfl) (by rw [hq]; rfl) (by rw [hq]; rfl) (by rw [hq]; rfl) (by rw [hq]; rfl) (by rw [hq]; rfl) (by rw [hq]; rfl) (by rw [hq]; rfl) hi) hB
  have hB := nb_swap 30 (fun j => some (q (31 + j))) rfl (fun i hi => rwC_9 (P := fun j => some (u2 (31 + j)) = some (q (31 + j))) (by rw [hq]; rfl) (by rw [hq]; rfl) (by rw [hq]; rfl) (by rw [hq]; rfl) (by rw [hq]; rfl) (by rw [hq]; rfl) (by rw [hq]; rfl) (by rw [hq]; rfl) (by rw [hq]; rfl) hi) hB
  have hB : nB D A s.heap (nW 48 (cfC cI cZ cA q) q σ0) H locs := by subst hq; exact hB
  subst hA0; subst hQ
  exact nb_ret (wf := fun u : {q : Nat → Nat // q 0 = h0} => nW 48 (cfC cI cZ cA u.1) u.1 σ0) hx hb hr hlk ⟨q, by rw [hq]; rfl⟩ hB.1 hB.2.1 hB.2.2.1 dX3_init_55
