set_option maxHeartbeats 4000000 in
set_option maxRecDepth 100000 in
theorem bN_0 (l : Launch) (D : va_G) (cI cZ cA : ClassId) (h0 : Nat) : nMb l yX0_init cX0_init 1 1 256 D cI cZ cA h0 (.inr (0, fsX0)) (wfX0 cI h0) := by
  refine nb_body (by decide) rfl ?_
  intro p e R s m args below meth c A Q ls hx hb hml hr hlk hts hown hin hK hR hQ hA0 hl hP hD hS hA
  subst hR
  have hB : nB D A s.heap [(h0, .inr (0, fsX0))] s.heap [] := ⟨hP, hD, hS, hA⟩
  clear hP hD hS
  refine nb_obj hx hb hml hts hown mw_60 hl ⟨Nat.le_of_ble_eq_true rfl, Nat.le_of_ble_eq_true rfl⟩ dX0_init_0 dX0_init_1 ?_
  refine lv_aload_n hx hb dX0_init_4 rfl (lv_at hl 0 rfl) ?_
  refine lv_sipush (v := 256) hx hb dX0_init_5 (by decide) ?_
  refine nb_nI hx hb hts hK.1 hB 256 (by decide) rfl (by decide) (Nat.le_of_ble_eq_true rfl) (Nat.le_of_ble_eq_true rfl) dX0_init_8 (fun q1 H hB => ?_)
  refine nb_pF (ci := 0) (own := RX0) (T := TX0) (NN := 2) hx hb hts hown hin hK.1 hB rfl inlX0 tyX0_ok nmX0 0 (by decide) mw_61 rfl rfl rfl rfl (Nat.le_of_ble_eq_true rfl) dX0_init_10 (fun H locs hB => ?_)
  refine lv_aload_n hx hb dX0_init_13 rfl (lv_at hl 0 rfl) ?_
  refine lv_iconst (v := 0) hx hb dX0_init_14 (by decide) ?_
  refine nb_pI (ci := 0) (own := RX0) (T := TX0) (NN := 2) hx hb hts hown hK.1 hB rfl inlX0 tyX0_ok nmX0 1 (by decide) mw_62 rfl rfl rfl (Nat.le_of_ble_eq_true rfl) dX0_init_15 (fun H locs hB => ?_)
  subst hA0; subst hQ
  exact nb_ret (wf := wfX0 cI h0) hx hb hr hlk q1 hB.1 hB.2.1 hB.2.2.1 dX0_init_18
set_option maxHeartbeats 4000000 in
set_option maxRecDepth 100000 in
theorem bN_1 (l : Launch) (D : va_G) (cI cZ cA : ClassId) (h0 : Nat) : nMb l yX1_init cX1_init 1 7 138 D cI cZ cA h0 (.inr (1, fsX1)) (wfX1 cI cZ h0) := by
  refine nb_body (by decide) rfl ?_
  intro p e R s m args below meth c A Q ls hx hb hml hr hlk hts hown hin hK hR hQ hA0 hl hP hD hS hA
  subst hR
  have hB : nB D A s.heap [(h0, .inr (1, fsX1))] s.heap [] := ⟨hP, hD, hS, hA⟩
  clear hP hD hS
  refine nb_obj hx hb hml hts hown mw_30 hl ⟨Nat.le_of_ble_eq_true rfl, Nat.le_of_ble_eq_true rfl⟩ dX1_init_0 dX1_init_1 ?_
  refine lv_aload_n hx hb dX1_init_4 rfl (lv_at hl 0 rfl) ?_
  refine lv_bipush (v := 24) hx hb dX1_init_5 (by decide) ?_
  refine nb_nI hx hb hts hK.1 hB 24 (by decide) rfl (by decide) (Nat.le_of_ble_eq_true rfl) (Nat.le_of_ble_eq_true rfl) dX1_init_7 (fun q1 H hB => ?_)
  refine nb_pF (ci := 1) (own := RX1) (T := TX1) (NN := 9) hx hb hts hown hin hK.1 hB rfl inlX1 tyX1_ok nmX1 0 (by decide) mw_31 rfl rfl rfl rfl (Nat.le_of_ble_eq_true rfl) dX1_init_9 (fun H locs hB => ?_)
  refine lv_aload_n hx hb dX1_init_12 rfl (lv_at hl 0 rfl) ?_
  refine lv_bipush (v := 24) hx hb dX1_init_13 (by decide) ?_
  refine nb_nI hx hb hts hK.1 hB 24 (by decide) rfl (by decide) (Nat.le_of_ble_eq_true rfl) (Nat.le_of_ble_eq_true rfl) dX1_init_15 (fun q2 H hB => ?_)
  refine nb_pF (ci := 1) (own := RX1) (T := TX1) (NN := 9) hx hb hts hown hin hK.1 hB rfl inlX1 tyX1_ok nmX1 1 (by decide) mw_32 rfl rfl rfl rfl (Nat.le_of_ble_eq_true rfl) dX1_init_17 (fun H locs hB => ?_)
  refine lv_aload_n hx hb dX1_init_20 rfl (lv_at hl 0 rfl) ?_
  refine lv_bipush (v := 24) hx hb dX1_init_21 (by decide) ?_
  refine nb_nI hx hb hts hK.1 hB 24 (by decide) rfl (by decide) (Nat.le_of_ble_eq_true rfl) (Nat.le_of_ble_eq_true rfl) dX1_init_23 (fun q3 H hB => ?_)
  refine nb_pF (ci := 1) (own := RX1) (T := TX1) (NN := 9) hx hb hts hown hin hK.1 hB rfl inlX1 tyX1_ok nmX1 2 (by decide) mw_33 rfl rfl rfl rfl (Nat.le_of_ble_eq_true rfl) dX1_init_25 (fun H locs hB => ?_)
  refine lv_aload_n hx hb dX1_init_28 rfl (lv_at hl 0 rfl) ?_
  refine lv_bipush (v := 24) hx hb dX1_init_29 (by decide) ?_
  refine nb_nZ hx hb hts hK.1 hB 24 (by decide) rfl (by decide) (Nat.le_of_ble_eq_true rfl) (Nat.le_of_ble_eq_true rfl) dX1_init_31 (fun q4 H hB => ?_)
  refine nb_pF (ci := 1) (own := RX1) (T := TX1) (NN := 9) hx hb hts hown hin hK.1 hB rfl inlX1 tyX1_ok nmX1 3 (by decide) mw_35 rfl rfl rfl rfl (Nat.le_of_ble_eq_true rfl) dX1_init_33 (fun H locs hB => ?_)
  refine lv_aload_n hx hb dX1_init_36 rfl (lv_at hl 0 rfl) ?_
  refine lv_bipush (v := 24) hx hb dX1_init_37 (by decide) ?_
  refine nb_nZ hx hb hts hK.1 hB 24 (by decide) rfl (by decide) (Nat.le_of_ble_eq_true rfl) (Nat.le_of_ble_eq_true rfl) dX1_init_39 (fun q5 H hB => ?_)
  refine nb_pF (ci := 1) (own := RX1) (T := TX1) (NN := 9) hx hb hts hown hin hK.1 hB rfl inlX1 tyX1_ok nmX1 4 (by decide) mw_36 rfl rfl rfl rfl (Nat.le_of_ble_eq_true rfl) dX1_init_41 (fun H locs hB => ?_)
  refine lv_aload_n hx hb dX1_init_44 rfl (lv_at hl 0 rfl) ?_
  refine lv_iconst (v := 0) hx hb dX1_init_45 (by decide) ?_
  refine nb_pI (ci := 1) (own := RX1) (T := TX1) (NN := 9) hx hb hts hown hK.1 hB rfl inlX1 tyX1_ok nmX1 5 (by decide) mw_37 rfl rfl rfl (Nat.le_of_ble_eq_true rfl) dX1_init_46 (fun H locs hB => ?_)
  refine lv_aload_n hx hb dX1_init_49 rfl (lv_at hl 0 rfl) ?_
  refine lv_iconst (v := 0) hx hb dX1_init_50 (by decide) ?_
  refine nb_pI (ci := 1) (own := RX1) (T := TX1) (NN := 9) hx hb hts hown hK.1 hB rfl inlX1 tyX1_ok nmX1 6 (by decide) mw_38 rfl rfl rfl (Nat.le_of_ble_eq_true rfl) dX1_init_51 (fun H locs hB => ?_)
  refine lv_aload_n hx hb dX1_init_54 rfl (lv_at hl 0 rfl) ?_
  refine lv_bipush (v := 9) hx hb dX1_init_55 (by decide) ?_
  refine nb_nI hx hb hts hK.1 hB 9 (by decide) rfl (by decide) (Nat.le_of_ble_eq_true rfl) (Nat.le_of_ble_eq_true rfl) dX1_init_57 (fun q6 H hB => ?_)
  refine nb_pF (ci := 1) (own := RX1) (T := TX1) (NN := 9) hx hb hts hown hin hK.1 hB rfl inlX1 tyX1_ok nmX1 7 (by decide) mw_39 rfl rfl rfl rfl (Nat.le_of_ble_eq_true rfl) dX1_init_59 (fun H locs hB => ?_)
  refine lv_aload_n hx hb dX1_init_62 rfl (lv_at hl 0 rfl) ?_
  refine lv_bipush (v := 9) hx hb dX1_init_63 (by decide) ?_
  refine nb_nI hx hb hts hK.1 hB 9 (by decide) rfl (by decide) (Nat.le_of_ble_eq_true rfl) (Nat.le_of_ble_eq_true rfl) dX1_init_65 (fun q7 H hB => ?_)
  refine nb_pF (ci := 1) (own := RX1) (T := TX1) (NN := 9) hx hb hts hown hin hK.1 hB rfl inlX1 tyX1_ok nmX1 8 (by decide) mw_40 rfl rfl rfl rfl (Nat.le_of_ble_eq_true rfl) dX1_init_67 (fun H locs hB => ?_)
  subst hA0; subst hQ
  exact nb_ret (wf := wfX1 cI cZ h0) hx hb hr hlk (fun i => [q1, q2, q3, q4, q5, q6, q7].getD (i - 2) 0) hB.1 hB.2.1 hB.2.2.1 dX1_init_70
set_option maxHeartbeats 4000000 in
set_option maxRecDepth 100000 in
theorem bN_4 (l : Launch) (D : va_G) (cI cZ cA : ClassId) (h0 : Nat) : nMb l yX4_init cX4_init 1 13 205 D cI cZ cA h0 (.inr (4, fsX4)) (fun u : {q : Nat → Nat // q 0 = h0} => nW 14 (cfM cI cZ u.1) u.1 (fun _ _ => 0)) := by
  refine nb_body (by decide) rfl ?_
  intro p e R s m args below meth c A Q ls hx hb hml hr hlk hts hown hin hK hR hQ hA0 hl hP hD hS hA
  subst hR
  have hB : nB D A s.heap [(h0, .inr (4, fsX4))] s.heap [] := ⟨hP, hD, hS, hA⟩
  clear hP hD hS
  refine nb_obj hx hb hml hts hown mw_66 hl ⟨Nat.le_of_ble_eq_true rfl, Nat.le_of_ble_eq_true rfl⟩ dX4_init_0 dX4_init_1 ?_
  refine lv_aload_n hx hb dX4_init_4 rfl (lv_at hl 0 rfl) ?_
  refine lv_bipush (v := 9) hx hb dX4_init_5 (by decide) ?_
  refine nb_nI hx hb hts hK.1 hB 9 (by decide) rfl (by decide) (Nat.le_of_ble_eq_true rfl) (Nat.le_of_ble_eq_true rfl) dX4_init_7 (fun q1 H hB => ?_)
  refine nb_pF (ci := 4) (own := RX4) (T := TX4) (NN := 23) hx hb hts hown hin hK.1 hB rfl inlX4 tyX4_ok nmX4 0 (by decide) mw_67 rfl rfl rfl rfl (Nat.le_of_ble_eq_true rfl) dX4_init_9 (fun H locs hB => ?_)
  refine lv_aload_n hx hb dX4_init_12 rfl (lv_at hl 0 rfl) ?_
  refine lv_bipush (v := 9) hx hb dX4_init_13 (by decide) ?_
  refine nb_nZ hx hb hts hK.1 hB 9 (by decide) rfl (by decide) (Nat.le_of_ble_eq_true rfl) (Nat.le_of_ble_eq_true rfl) dX4_init_15 (fun q2 H hB => ?_)
  refine nb_pF (ci := 4) (own := RX4) (T := TX4) (NN := 23) hx hb hts hown hin hK.1 hB rfl inlX4 tyX4_ok nmX4 1 (by decide) mw_68 rfl rfl rfl rfl (Nat.le_of_ble_eq_true rfl) dX4_init_17 (fun H locs hB => ?_)
  refine lv_aload_n hx hb dX4_init_20 rfl (lv_at hl 0 rfl) ?_
  refine lv_bipush (v := 24) hx hb dX4_init_21 (by decide) ?_
  refine nb_nI hx hb hts hK.1 hB 24 (by decide) rfl (by decide) (Nat.le_of_ble_eq_true rfl) (Nat.le_of_ble_eq_true rfl) dX4_init_23 (fun q3 H hB => ?_)
  refine nb_pF (ci := 4) (own := RX4) (T := TX4) (NN := 23) hx hb hts hown hin hK.1 hB rfl inlX4 tyX4_ok nmX4 3 (by decide) mw_69 rfl rfl rfl rfl (Nat.le_of_ble_eq_true rfl) dX4_init_25 (fun H locs hB => ?_)
  refine lv_aload_n hx hb dX4_init_28 rfl (lv_at hl 0 rfl) ?_
  refine lv_bipush (v := 24) hx hb dX4_init_29 (by decide) ?_
  refine nb_nI hx hb hts hK.1 hB 24 (by decide) rfl (by decide) (Nat.le_of_ble_eq_true rfl) (Nat.le_of_ble_eq_true rfl) dX4_init_31 (fun q4 H hB => ?_)
  refine nb_pF (ci := 4) (own := RX4) (T := TX4) (NN := 23) hx hb hts hown hin hK.1 hB rfl inlX4 tyX4_ok nmX4 4 (by decide) mw_70 rfl rfl rfl rfl (Nat.le_of_ble_eq_true rfl) dX4_init_33 (fun H locs hB => ?_)
  refine lv_aload_n hx hb dX4_init_36 rfl (lv_at hl 0 rfl) ?_
  refine lv_bipush (v := 24) hx hb dX4_init_37 (by decide) ?_
  refine nb_nI hx hb hts hK.1 hB 24 (by decide) rfl (by decide) (Nat.le_of_ble_eq_true rfl) (Nat.le_of_ble_eq_true rfl) dX4_init_39 (fun q5 H hB => ?_)
  refine nb_pF (ci := 4) (own := RX4) (T := TX4) (NN := 23) hx hb hts hown hin hK.1 hB rfl inlX4 tyX4_ok nmX4 5 (by decide) mw_71 rfl rfl rfl rfl (Nat.le_of_ble_eq_true rfl) dX4_init_41 (fun H locs hB => ?_)
  refine lv_aload_n hx hb dX4_init_44 rfl (lv_at hl 0 rfl) ?_
  refine lv_bipush (v := 24) hx hb dX4_init_45 (by decide) ?_
  refine nb_nZ hx hb hts hK.1 hB 24 (by decide) rfl (by decide) (Nat.le_of_ble_eq_true rfl) (Nat.le_of_ble_eq_true rfl) dX4_init_47 (fun q6 H hB => ?_)
  refine nb_pF (ci := 4) (own := RX4) (T := TX4) (NN := 23) hx hb hts hown hin hK.1 hB rfl inlX4 tyX4_ok nmX4 6 (by decide) mw_72 rfl rfl rfl rfl (Nat.le_of_ble_eq_true rfl) dX4_init_49 (fun H locs hB => ?_)
  refine lv_aload_n hx hb dX4_init_52 rfl (lv_at hl 0 rfl) ?_
  refine lv_bipush (v := 24) hx hb dX4_init_53 (by decide) ?_
  refine nb_nZ hx hb hts hK.1 hB 24 (by decide) rfl (by decide) (Nat.le_of_ble_eq_true rfl) (Nat.le_of_ble_eq_true rfl) dX4_init_55 (fun q7 H hB => ?_)
  refine nb_pF (ci := 4) (own := RX4) (T := TX4) (NN := 23) hx hb hts hown hin hK.1 hB rfl inlX4 tyX4_ok nmX4 7 (by decide) mw_73 rfl rfl rfl rfl (Nat.le_of_ble_eq_true rfl) dX4_init_57 (fun H locs hB => ?_)
  refine lv_aload_n hx hb dX4_init_60 rfl (lv_at hl 0 rfl) ?_
  refine lv_bipush (v := 8) hx hb dX4_init_61 (by decide) ?_
  refine nb_nI hx hb hts hK.1 hB 8 (by decide) rfl (by decide) (Nat.le_of_ble_eq_true rfl) (Nat.le_of_ble_eq_true rfl) dX4_init_63 (fun q8 H hB => ?_)
  refine nb_pF (ci := 4) (own := RX4) (T := TX4) (NN := 23) hx hb hts hown hin hK.1 hB rfl inlX4 tyX4_ok nmX4 9 (by decide) mw_74 rfl rfl rfl rfl (Nat.le_of_ble_eq_true rfl) dX4_init_65 (fun H locs hB => ?_)
  refine lv_aload_n hx hb dX4_init_68 rfl (lv_at hl 0 rfl) ?_
  refine lv_bipush (v := 8) hx hb dX4_init_69 (by decide) ?_
  refine nb_nI hx hb hts hK.1 hB 8 (by decide) rfl (by decide) (Nat.le_of_ble_eq_true rfl) (Nat.le_of_ble_eq_true rfl) dX4_init_71 (fun q9 H hB => ?_)
  refine nb_pF (ci := 4) (own := RX4) (T := TX4) (NN := 23) hx hb hts hown hin hK.1 hB rfl inlX4 tyX4_ok nmX4 10 (by decide) mw_75 rfl rfl rfl rfl (Nat.le_of_ble_eq_true rfl) dX4_init_73 (fun H locs hB => ?_)
  refine lv_aload_n hx hb dX4_init_76 rfl (lv_at hl 0 rfl) ?_
  refine lv_bipush (v := 9) hx hb dX4_init_77 (by decide) ?_
  refine nb_nI hx hb hts hK.1 hB 9 (by decide) rfl (by decide) (Nat.le_of_ble_eq_true rfl) (Nat.le_of_ble_eq_true rfl) dX4_init_79 (fun q10 H hB => ?_)
  refine nb_pF (ci := 4) (own := RX4) (T := TX4) (NN := 23) hx hb hts hown hin hK.1 hB rfl inlX4 tyX4_ok nmX4 12 (by decide) mw_76 rfl rfl rfl rfl (Nat.le_of_ble_eq_true rfl) dX4_init_81 (fun H locs hB => ?_)
  refine lv_aload_n hx hb dX4_init_84 rfl (lv_at hl 0 rfl) ?_
  refine lv_bipush (v := 9) hx hb dX4_init_85 (by decide) ?_
  refine nb_nI hx hb hts hK.1 hB 9 (by decide) rfl (by decide) (Nat.le_of_ble_eq_true rfl) (Nat.le_of_ble_eq_true rfl) dX4_init_87 (fun q11 H hB => ?_)
  refine nb_pF (ci := 4) (own := RX4) (T := TX4) (NN := 23) hx hb hts hown hin hK.1 hB rfl inlX4 tyX4_ok nmX4 13 (by decide) mw_77 rfl rfl rfl rfl (Nat.le_of_ble_eq_true rfl) dX4_init_89 (fun H locs hB => ?_)
  refine lv_aload_n hx hb dX4_init_92 rfl (lv_at hl 0 rfl) ?_
  refine lv_bipush (v := 24) hx hb dX4_init_93 (by decide) ?_
  refine nb_nI hx hb hts hK.1 hB 24 (by decide) rfl (by decide) (Nat.le_of_ble_eq_true rfl) (Nat.le_of_ble_eq_true rfl) dX4_init_95 (fun q12 H hB => ?_)
  refine nb_pF (ci := 4) (own := RX4) (T := TX4) (NN := 23) hx hb hts hown hin hK.1 hB rfl inlX4 tyX4_ok nmX4 21 (by decide) mw_78 rfl rfl rfl rfl (Nat.le_of_ble_eq_true rfl) dX4_init_97 (fun H locs hB => ?_)
  refine lv_aload_n hx hb dX4_init_100 rfl (lv_at hl 0 rfl) ?_
  refine lv_bipush (v := 9) hx hb dX4_init_101 (by decide) ?_
  refine nb_nZ hx hb hts hK.1 hB 9 (by decide) rfl (by decide) (Nat.le_of_ble_eq_true rfl) (Nat.le_of_ble_eq_true rfl) dX4_init_103 (fun q13 H hB => ?_)
  refine nb_pF (ci := 4) (own := RX4) (T := TX4) (NN := 23) hx hb hts hown hin hK.1 hB rfl inlX4 tyX4_ok nmX4 22 (by decide) mw_79 rfl rfl rfl rfl (Nat.le_of_ble_eq_true rfl) dX4_init_105 (fun H locs hB => ?_)
  subst hA0; subst hQ
  exact nb_ret (wf := fun u : {q : Nat → Nat // q 0 = h0} => nW 14 (cfM cI cZ u.1) u.1 (fun _ _ => 0)) hx hb hr hlk ⟨fun i => [h0, q1, q2, q3, q4, q5, q6, q7, q8, q9, q10, q11, q12, q13].getD i 0, rfl⟩ hB.1 hB.2.1 hB.2.2.1 dX4_init_108
