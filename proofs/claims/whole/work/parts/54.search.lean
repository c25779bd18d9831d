set_option maxHeartbeats 4000000 in
set_option maxRecDepth 100000 in
theorem bN_2 (l : Launch) (D : va_G) (cI cZ cA : ClassId) (h0 : Nat) : nMb l yX2_init cX2_init 1 35 315 D cI cZ cA h0 (.inr (2, fsX2)) (wfX2 cI cA h0) := by
  refine nb_body (by decide) rfl ?_
  intro p e R s m args below meth c A Q ls hx hb hml hr hlk hts hown hin hK hR hQ hA0 hl hP hD hS hA
  subst hR
  have hB : nB D A s.heap [(h0, .inr (2, fsX2))] s.heap [] := ⟨hP, hD, hS, hA⟩
  clear hP hD hS
  refine nb_obj hx hb hml hts hown mw_43 hl ⟨Nat.le_of_ble_eq_true rfl, Nat.le_of_ble_eq_true rfl⟩ dX2_init_0 dX2_init_1 ?_
  refine lv_aload_n hx hb dX2_init_4 rfl (lv_at hl 0 rfl) ?_
  refine lv_bipush (v := 9) hx hb dX2_init_5 (by decide) ?_
  refine lv_bipush (v := 9) hx hb dX2_init_7 (by decide) ?_
  refine nb_nA hx hb hts hown mw_44 hK hB (by decide) (by decide) rfl rfl (Nat.le_of_ble_eq_true rfl) (Nat.le_of_ble_eq_true rfl) dX2_init_9 (fun q1 r1 H hB => ?_)
  refine nb_pF (ci := 2) (own := RX2) (T := TX2) (NN := 12) hx hb hts hown hin hK.1 hB rfl inlX2 tyX2_ok nmX2 0 (by decide) mw_45 rfl rfl rfl rfl (Nat.le_of_ble_eq_true rfl) dX2_init_13 (fun H locs hB => ?_)
  refine lv_aload_n hx hb dX2_init_16 rfl (lv_at hl 0 rfl) ?_
  refine lv_bipush (v := 9) hx hb dX2_init_17 (by decide) ?_
  refine lv_bipush (v := 9) hx hb dX2_init_19 (by decide) ?_
  refine nb_nA hx hb hts hown mw_44 hK hB (by decide) (by decide) rfl rfl (Nat.le_of_ble_eq_true rfl) (Nat.le_of_ble_eq_true rfl) dX2_init_21 (fun q2 r2 H hB => ?_)
  refine nb_pF (ci := 2) (own := RX2) (T := TX2) (NN := 12) hx hb hts hown hin hK.1 hB rfl inlX2 tyX2_ok nmX2 1 (by decide) mw_46 rfl rfl rfl rfl (Nat.le_of_ble_eq_true rfl) dX2_init_25 (fun H locs hB => ?_)
  refine lv_aload_n hx hb dX2_init_28 rfl (lv_at hl 0 rfl) ?_
  refine lv_bipush (v := 9) hx hb dX2_init_29 (by decide) ?_
  refine lv_bipush (v := 9) hx hb dX2_init_31 (by decide) ?_
  refine nb_nA hx hb hts hown mw_44 hK hB (by decide) (by decide) rfl rfl (Nat.le_of_ble_eq_true rfl) (Nat.le_of_ble_eq_true rfl) dX2_init_33 (fun q3 r3 H hB => ?_)
  refine nb_pF (ci := 2) (own := RX2) (T := TX2) (NN := 12) hx hb hts hown hin hK.1 hB rfl inlX2 tyX2_ok nmX2 2 (by decide) mw_47 rfl rfl rfl rfl (Nat.le_of_ble_eq_true rfl) dX2_init_37 (fun H locs hB => ?_)
  refine lv_aload_n hx hb dX2_init_40 rfl (lv_at hl 0 rfl) ?_
  refine lv_bipush (v := 9) hx hb dX2_init_41 (by decide) ?_
  refine nb_nI hx hb hts hK.1 hB 9 (by decide) rfl (by decide) (Nat.le_of_ble_eq_true rfl) (Nat.le_of_ble_eq_true rfl) dX2_init_43 (fun q4 H hB => ?_)
  refine nb_pF (ci := 2) (own := RX2) (T := TX2) (NN := 12) hx hb hts hown hin hK.1 hB rfl inlX2 tyX2_ok nmX2 3 (by decide) mw_48 rfl rfl rfl rfl (Nat.le_of_ble_eq_true rfl) dX2_init_45 (fun H locs hB => ?_)
  refine lv_aload_n hx hb dX2_init_48 rfl (lv_at hl 0 rfl) ?_
  refine lv_bipush (v := 9) hx hb dX2_init_49 (by decide) ?_
  refine nb_nI hx hb hts hK.1 hB 9 (by decide) rfl (by decide) (Nat.le_of_ble_eq_true rfl) (Nat.le_of_ble_eq_true rfl) dX2_init_51 (fun q5 H hB => ?_)
  refine nb_pF (ci := 2) (own := RX2) (T := TX2) (NN := 12) hx hb hts hown hin hK.1 hB rfl inlX2 tyX2_ok nmX2 4 (by decide) mw_49 rfl rfl rfl rfl (Nat.le_of_ble_eq_true rfl) dX2_init_53 (fun H locs hB => ?_)
  refine lv_aload_n hx hb dX2_init_56 rfl (lv_at hl 0 rfl) ?_
  refine lv_bipush (v := 9) hx hb dX2_init_57 (by decide) ?_
  refine nb_nI hx hb hts hK.1 hB 9 (by decide) rfl (by decide) (Nat.le_of_ble_eq_true rfl) (Nat.le_of_ble_eq_true rfl) dX2_init_59 (fun q6 H hB => ?_)
  refine nb_pF (ci := 2) (own := RX2) (T := TX2) (NN := 12) hx hb hts hown hin hK.1 hB rfl inlX2 tyX2_ok nmX2 5 (by decide) mw_50 rfl rfl rfl rfl (Nat.le_of_ble_eq_true rfl) dX2_init_61 (fun H locs hB => ?_)
  refine lv_aload_n hx hb dX2_init_64 rfl (lv_at hl 0 rfl) ?_
  refine lv_bipush (v := 9) hx hb dX2_init_65 (by decide) ?_
  refine nb_nI hx hb hts hK.1 hB 9 (by decide) rfl (by decide) (Nat.le_of_ble_eq_true rfl) (Nat.le_of_ble_eq_true rfl) dX2_init_67 (fun q7 H hB => ?_)
  refine nb_pF (ci := 2) (own := RX2) (T := TX2) (NN := 12) hx hb hts hown hin hK.1 hB rfl inlX2 tyX2_ok nmX2 6 (by decide) mw_51 rfl rfl rfl rfl (Nat.le_of_ble_eq_true rfl) dX2_init_69 (fun H locs hB => ?_)
  refine lv_aload_n hx hb dX2_init_72 rfl (lv_at hl 0 rfl) ?_
  refine lv_bipush (v := 9) hx hb dX2_init_73 (by decide) ?_
  refine nb_nI hx hb hts hK.1 hB 9 (by decide) rfl (by decide) (Nat.le_of_ble_eq_true rfl) (Nat.le_of_ble_eq_true rfl) dX2_init_75 (fun q8 H hB => ?_)
  refine nb_pF (ci := 2) (own := RX2) (T := TX2) (NN := 12) hx hb hts hown hin hK.1 hB rfl inlX2 tyX2_ok nmX2 7 (by decide) mw_52 rfl rfl rfl rfl (Nat.le_of_ble_eq_true rfl) dX2_init_77 (fun H locs hB => ?_)
  refine lv_aload_n hx hb dX2_init_80 rfl (lv_at hl 0 rfl) ?_
  refine lv_iconst (v := 0) hx hb dX2_init_81 (by decide) ?_
  refine nb_pI (ci := 2) (own := RX2) (T := TX2) (NN := 12) hx hb hts hown hK.1 hB rfl inlX2 tyX2_ok nmX2 8 (by decide) mw_53 rfl rfl rfl (Nat.le_of_ble_eq_true rfl) dX2_init_82 (fun H locs hB => ?_)
  refine lv_aload_n hx hb dX2_init_85 rfl (lv_at hl 0 rfl) ?_
  refine lv_iconst (v := 0) hx hb dX2_init_86 (by decide) ?_
  refine nb_pI (ci := 2) (own := RX2) (T := TX2) (NN := 12) hx hb hts hown hK.1 hB rfl inlX2 tyX2_ok nmX2 9 (by decide) mw_54 rfl rfl rfl (Nat.le_of_ble_eq_true rfl) dX2_init_87 (fun H locs hB => ?_)
  refine lv_aload_n hx hb dX2_init_90 rfl (lv_at hl 0 rfl) ?_
  refine lv_iconst (v := 0) hx hb dX2_init_91 (by decide) ?_
  refine nb_pI (ci := 2) (own := RX2) (T := TX2) (NN := 12) hx hb hts hown hK.1 hB rfl inlX2 tyX2_ok nmX2 10 (by decide) mw_55 rfl rfl rfl (Nat.le_of_ble_eq_true rfl) dX2_init_92 (fun H locs hB => ?_)
  refine lv_aload_n hx hb dX2_init_95 rfl (lv_at hl 0 rfl) ?_
  refine lv_ldc hx hb hown (hts _ mw_56) dX2_init_96 ?_
  refine nb_pI (ci := 2) (own := RX2) (T := TX2) (NN := 12) hx hb hts hown hK.1 hB rfl inlX2 tyX2_ok nmX2 11 (by decide) mw_57 rfl rfl rfl (Nat.le_of_ble_eq_true rfl) dX2_init_98 (fun H locs hB => ?_)
  obtain ⟨q, hq⟩ : ∃ q : Nat → Nat, q = fun i => [q1, r1 0, r1 1, r1 2, r1 3, r1 4, r1 5, r1 6, r1 7, r1 8, q2, r2 0, r2 1, r2 2, r2 3, r2 4, r2 5, r2 6, r2 7, r2 8, q3, r3 0, r3 1, r3 2, r3 3, r3 4, r3 5, r3 6, r3 7, r3 8, q4, q5, q6, q7, q8].getD (i - 10) 0 := ⟨_, rfl⟩
  have hB := nb_swap 1 (fun j => some (q (11 + j))) rfl (fun i hi => rwC_9 (P := fun j => some (r1 j) = some (q (11 + j))) (by rw [hq]; rfl) (by rw [hq]; rfl) (by rw [hq]; rfl) (by rw [hq]; rfl) (by rw [hq]; rfl) (by rw [hq]; rfl) (by rw [hq]; rfl) (by rw [hq]; rfl) (by rw [hq]; rfl) hi) hB
  have hB := nb_swap 11 (fun j => some (q (21 + j))) rfl (fun i hi => rwC_9 (P := fun j => some (r2 j) = some (q (21 + j))) (by rw [hq]; rfl) (by rw [hq]; rfl) (by rw [hq]; rfl) (by rw [hq]; rfl) (by rw [hq]; rfl) (by rw [hq]; rfl) (by rw [hq]; rfl) (by rw [hq]; rfl) (by rw [hq]; rfl) hi) hB
  have hB := nb_swap 21 (fun j => some (q (31 + j))) rfl (fun i hi => rwC_9 (P := fun j => some (r3 j) = some (q (31 + j))) (by rw [hq]; rfl) (by rw [hq]; rfl) (by rw [hq]; rfl) (by rw [hq]; rfl) (by rw [hq]; rfl) (by rw [hq]; rfl) (by rw [hq]; rfl) (by rw [hq]; rfl) (by rw [hq]; rfl) hi) hB
  have hB : nB D A s.heap (wfX2 cI cA h0 q) H locs := by subst hq; exact hB
  subst hA0; subst hQ
  exact nb_ret (wf := wfX2 cI cA h0) hx hb hr hlk q hB.1 hB.2.1 hB.2.2.1 dX2_init_101
