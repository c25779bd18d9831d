set_option maxHeartbeats 4000000 in
set_option maxRecDepth 100000 in
theorem la_0 (l : Launch) : nOp l 144 := by
  intro p e s m below meth c b L xs D cI cZ cA A h h' Q cells slots n ls σ τ t H locs hE hn hL hf hl O hC hM hW kk
  obtain ⟨hx, hb, hml, hown, hts, hX, hbl, hbA, hK, hi, hi'⟩ := hE
  obtain ⟨r, σ', τ', t', e1, e2, O', hC', hM'⟩ := st_post O hC hM (xs (n + 1))
  refine lv_aload_n hx hb dL_law_144 rfl (lv_at hl 1 rfl) ?_
  refine nl_arg hx hb hX hbl hbA hW.1.2.2.1 (lv_at hl 0 rfl) (lv_at hl 3 rfl) 1 (by omega) hL dL_law_145 dL_law_146 dL_law_147 (by decide) dL_law_148 dL_law_149 ?_
  refine nl_callC hx hb hml hown hts hK hW (cC_post l D cI cZ cA h hi (xs (n + 1)) σ (r, σ') e1) mw_80 mw_81 mw_82 mw_83 pdX3_post ⟨Nat.le_of_ble_eq_true rfl, Nat.le_of_ble_eq_true rfl⟩ hl.1 rfl (Nat.le_of_ble_eq_true rfl) dL_law_150 hf (fun H locs hW => ?_)
  refine lv_aload_n hx hb dL_law_153 rfl (lv_at hl 2 rfl) ?_
  refine nl_arg hx hb hX hbl hbA hW.1.2.2.1 (lv_at hl 0 rfl) (lv_at hl 3 rfl) 1 (by omega) hL dL_law_154 dL_law_155 dL_law_156 (by decide) dL_law_157 dL_law_158 ?_
  refine nl_callM hx hb hml hown hts hK hW (cM_post l D cI cZ cA h' hi' (xs (n + 1)) τ (r, τ') e2) mw_88 mw_89 mw_90 mw_91 pdX4_post ⟨Nat.le_of_ble_eq_true rfl, Nat.le_of_ble_eq_true rfl⟩ hl.1 rfl (Nat.le_of_ble_eq_true rfl) dL_law_159 hf (fun H locs hW => ?_)
  exact lv_icmp_eq (tgt := 818) hx hb dL_law_162 (by decide) (fun _ => kk σ' τ' t' H locs O' hC' hM' hW) (fun c9 => absurd rfl c9)
set_option maxHeartbeats 4000000 in
set_option maxRecDepth 100000 in
theorem la_4 (l : Launch) : nOp l 308 := by
  intro p e s m below meth c b L xs D cI cZ cA A h h' Q cells slots n ls σ τ t H locs hE hn hL hf hl O hC hM hW kk
  obtain ⟨hx, hb, hml, hown, hts, hX, hbl, hbA, hK, hi, hi'⟩ := hE
  obtain ⟨r, σ', τ', t', e1, e2, O', hC', hM'⟩ := st_pair O hC hM (xs (n + 1)) (xs (n + 2))
  refine lv_aload_n hx hb dL_law_308 rfl (lv_at hl 1 rfl) ?_
  refine nl_arg hx hb hX hbl hbA hW.1.2.2.1 (lv_at hl 0 rfl) (lv_at hl 3 rfl) 1 (by omega) hL dL_law_309 dL_law_310 dL_law_311 (by decide) dL_law_312 dL_law_313 ?_
  refine nl_arg hx hb hX hbl hbA hW.1.2.2.1 (lv_at hl 0 rfl) (lv_at hl 3 rfl) 2 (by omega) hL dL_law_314 dL_law_315 dL_law_316 (by decide) dL_law_317 dL_law_318 ?_
  refine nl_callC hx hb hml hown hts hK hW (cC_pair l D cI cZ cA h hi (xs (n + 1)) (xs (n + 2)) σ (r, σ') e1) mw_153 mw_154 mw_155 mw_156 pdX3_pair ⟨Nat.le_of_ble_eq_true rfl, Nat.le_of_ble_eq_true rfl⟩ hl.1 rfl (Nat.le_of_ble_eq_true rfl) dL_law_319 hf (fun H locs hW => ?_)
  refine lv_aload_n hx hb dL_law_322 rfl (lv_at hl 2 rfl) ?_
  refine nl_arg hx hb hX hbl hbA hW.1.2.2.1 (lv_at hl 0 rfl) (lv_at hl 3 rfl) 1 (by omega) hL dL_law_323 dL_law_324 dL_law_325 (by decide) dL_law_326 dL_law_327 ?_
  refine nl_arg hx hb hX hbl hbA hW.1.2.2.1 (lv_at hl 0 rfl) (lv_at hl 3 rfl) 2 (by omega) hL dL_law_328 dL_law_329 dL_law_330 (by decide) dL_law_331 dL_law_332 ?_
  refine nl_callM hx hb hml hown hts hK hW (cM_pair l D cI cZ cA h' hi' (xs (n + 1)) (xs (n + 2)) τ (r, τ') e2) mw_162 mw_163 mw_164 mw_165 pdX4_pair ⟨Nat.le_of_ble_eq_true rfl, Nat.le_of_ble_eq_true rfl⟩ hl.1 rfl (Nat.le_of_ble_eq_true rfl) dL_law_333 hf (fun H locs hW => ?_)
  exact lv_icmp_eq (tgt := 818) hx hb dL_law_336 (by decide) (fun _ => kk σ' τ' t' H locs O' hC' hM' hW) (fun c9 => absurd rfl c9)
set_option maxHeartbeats 4000000 in
set_option maxRecDepth 100000 in
theorem la_8 (l : Launch) : nOp l 450 := by
  intro p e s m below meth c b L xs D cI cZ cA A h h' Q cells slots n ls σ τ t H locs hE hn hL hf hl O hC hM hW kk
  obtain ⟨hx, hb, hml, hown, hts, hX, hbl, hbA, hK, hi, hi'⟩ := hE
  obtain ⟨r, σ', τ', t', e1, e2, O', hC', hM'⟩ := st_terminals O hC hM 
  refine lv_aload_n hx hb dL_law_450 rfl (lv_at hl 1 rfl) ?_
  refine nl_callC hx hb hml hown hts hK hW (cC_terminals l D cI cZ cA h hi  σ (r, σ') e1) mw_291 mw_292 mw_293 mw_294 pdX3_terminals ⟨Nat.le_of_ble_eq_true rfl, Nat.le_of_ble_eq_true rfl⟩ hl.1 rfl (Nat.le_of_ble_eq_true rfl) dL_law_451 hf (fun H locs hW => ?_)
  refine lv_aload_n hx hb dL_law_454 rfl (lv_at hl 2 rfl) ?_
  refine nl_callM hx hb hml hown hts hK hW (cM_terminals l D cI cZ cA h' hi'  τ (r, τ') e2) mw_300 mw_301 mw_302 mw_303 pdX4_terminals ⟨Nat.le_of_ble_eq_true rfl, Nat.le_of_ble_eq_true rfl⟩ hl.1 rfl (Nat.le_of_ble_eq_true rfl) dL_law_455 hf (fun H locs hW => ?_)
  exact lv_icmp_eq (tgt := 818) hx hb dL_law_458 (by decide) (fun _ => kk σ' τ' t' H locs O' hC' hM' hW) (fun c9 => absurd rfl c9)
set_option maxHeartbeats 4000000 in
set_option maxRecDepth 100000 in
theorem la_12 (l : Launch) : nOp l 522 := by
  intro p e s m below meth c b L xs D cI cZ cA A h h' Q cells slots n ls σ τ t H locs hE hn hL hf hl O hC hM hW kk
  obtain ⟨hx, hb, hml, hown, hts, hX, hbl, hbA, hK, hi, hi'⟩ := hE
  obtain ⟨r, σ', τ', t', e1, e2, O', hC', hM'⟩ := st_sure O hC hM (xs (n + 1))
  refine lv_aload_n hx hb dL_law_522 rfl (lv_at hl 1 rfl) ?_
  refine nl_arg hx hb hX hbl hbA hW.1.2.2.1 (lv_at hl 0 rfl) (lv_at hl 3 rfl) 1 (by omega) hL dL_law_523 dL_law_524 dL_law_525 (by decide) dL_law_526 dL_law_527 ?_
  refine nl_callC hx hb hml hown hts hK hW (cC_sure l D cI cZ cA h hi (xs (n + 1)) σ (r, σ') e1) mw_344 mw_345 mw_346 mw_347 pdX3_sure ⟨Nat.le_of_ble_eq_true rfl, Nat.le_of_ble_eq_true rfl⟩ hl.1 rfl (Nat.le_of_ble_eq_true rfl) dL_law_528 hf (fun H locs hW => ?_)
  refine lv_aload_n hx hb dL_law_531 rfl (lv_at hl 2 rfl) ?_
  refine nl_arg hx hb hX hbl hbA hW.1.2.2.1 (lv_at hl 0 rfl) (lv_at hl 3 rfl) 1 (by omega) hL dL_law_532 dL_law_533 dL_law_534 (by decide) dL_law_535 dL_law_536 ?_
  refine nl_callM hx hb hml hown hts hK hW (cM_sure l D cI cZ cA h' hi' (xs (n + 1)) τ (r, τ') e2) mw_353 mw_354 mw_355 mw_356 pdX4_sure ⟨Nat.le_of_ble_eq_true rfl, Nat.le_of_ble_eq_true rfl⟩ hl.1 rfl (Nat.le_of_ble_eq_true rfl) dL_law_537 hf (fun H locs hW => ?_)
  exact lv_icmp_eq (tgt := 818) hx hb dL_law_540 (by decide) (fun _ => kk σ' τ' t' H locs O' hC' hM' hW) (fun c9 => absurd rfl c9)
set_option maxHeartbeats 4000000 in
set_option maxRecDepth 100000 in
theorem la_16 (l : Launch) : nOp l 614 := by
  intro p e s m below meth c b L xs D cI cZ cA A h h' Q cells slots n ls σ τ t H locs hE hn hL hf hl O hC hM hW kk
  obtain ⟨hx, hb, hml, hown, hts, hX, hbl, hbA, hK, hi, hi'⟩ := hE
  obtain ⟨r, σ', τ', t', e1, e2, O', hC', hM'⟩ := st_whole O hC hM (xs (n + 1)) (xs (n + 2))
  refine lv_aload_n hx hb dL_law_614 rfl (lv_at hl 1 rfl) ?_
  refine nl_arg hx hb hX hbl hbA hW.1.2.2.1 (lv_at hl 0 rfl) (lv_at hl 3 rfl) 1 (by omega) hL dL_law_615 dL_law_616 dL_law_617 (by decide) dL_law_618 dL_law_619 ?_
  refine nl_arg hx hb hX hbl hbA hW.1.2.2.1 (lv_at hl 0 rfl) (lv_at hl 3 rfl) 2 (by omega) hL dL_law_620 dL_law_621 dL_law_622 (by decide) dL_law_623 dL_law_624 ?_
  refine nl_callC hx hb hml hown hts hK hW (cC_whole l D cI cZ cA h hi (xs (n + 1)) (xs (n + 2)) σ (r, σ') e1) mw_403 mw_404 mw_405 mw_406 pdX3_whole ⟨Nat.le_of_ble_eq_true rfl, Nat.le_of_ble_eq_true rfl⟩ hl.1 rfl (Nat.le_of_ble_eq_true rfl) dL_law_625 hf (fun H locs hW => ?_)
  refine lv_aload_n hx hb dL_law_628 rfl (lv_at hl 2 rfl) ?_
  refine nl_arg hx hb hX hbl hbA hW.1.2.2.1 (lv_at hl 0 rfl) (lv_at hl 3 rfl) 1 (by omega) hL dL_law_629 dL_law_630 dL_law_631 (by decide) dL_law_632 dL_law_633 ?_
  refine nl_arg hx hb hX hbl hbA hW.1.2.2.1 (lv_at hl 0 rfl) (lv_at hl 3 rfl) 2 (by omega) hL dL_law_634 dL_law_635 dL_law_636 (by decide) dL_law_637 dL_law_638 ?_
  refine nl_callM hx hb hml hown hts hK hW (cM_whole l D cI cZ cA h' hi' (xs (n + 1)) (xs (n + 2)) τ (r, τ') e2) mw_411 mw_412 mw_413 mw_414 pdX4_whole ⟨Nat.le_of_ble_eq_true rfl, Nat.le_of_ble_eq_true rfl⟩ hl.1 rfl (Nat.le_of_ble_eq_true rfl) dL_law_639 hf (fun H locs hW => ?_)
  exact lv_icmp_eq (tgt := 818) hx hb dL_law_642 (by decide) (fun _ => kk σ' τ' t' H locs O' hC' hM' hW) (fun c9 => absurd rfl c9)
set_option maxHeartbeats 4000000 in
set_option maxRecDepth 100000 in
theorem la_20 (l : Launch) : nOp l 716 := by
  intro p e s m below meth c b L xs D cI cZ cA A h h' Q cells slots n ls σ τ t H locs hE hn hL hf hl O hC hM hW kk
  obtain ⟨hx, hb, hml, hown, hts, hX, hbl, hbA, hK, hi, hi'⟩ := hE
  obtain ⟨r, σ', τ', t', e1, e2, O', hC', hM'⟩ := st_bars O hC hM (xs (n + 1)) (xs (n + 2))
  refine lv_aload_n hx hb dL_law_716 rfl (lv_at hl 1 rfl) ?_
  refine nl_arg hx hb hX hbl hbA hW.1.2.2.1 (lv_at hl 0 rfl) (lv_at hl 3 rfl) 1 (by omega) hL dL_law_717 dL_law_718 dL_law_719 (by decide) dL_law_720 dL_law_721 ?_
  refine nl_arg hx hb hX hbl hbA hW.1.2.2.1 (lv_at hl 0 rfl) (lv_at hl 3 rfl) 2 (by omega) hL dL_law_722 dL_law_723 dL_law_724 (by decide) dL_law_725 dL_law_726 ?_
  refine nl_callC hx hb hml hown hts hK hW (cC_bars l D cI cZ cA h hi (xs (n + 1)) (xs (n + 2)) σ (r, σ') e1) mw_474 mw_475 mw_476 mw_477 pdX3_bars ⟨Nat.le_of_ble_eq_true rfl, Nat.le_of_ble_eq_true rfl⟩ hl.1 rfl (Nat.le_of_ble_eq_true rfl) dL_law_727 hf (fun H locs hW => ?_)
  refine lv_aload_n hx hb dL_law_730 rfl (lv_at hl 2 rfl) ?_
  refine nl_arg hx hb hX hbl hbA hW.1.2.2.1 (lv_at hl 0 rfl) (lv_at hl 3 rfl) 1 (by omega) hL dL_law_731 dL_law_732 dL_law_733 (by decide) dL_law_734 dL_law_735 ?_
  refine nl_arg hx hb hX hbl hbA hW.1.2.2.1 (lv_at hl 0 rfl) (lv_at hl 3 rfl) 2 (by omega) hL dL_law_736 dL_law_737 dL_law_738 (by decide) dL_law_739 dL_law_740 ?_
  refine nl_callM hx hb hml hown hts hK hW (cM_bars l D cI cZ cA h' hi' (xs (n + 1)) (xs (n + 2)) τ (r, τ') e2) mw_478 mw_479 mw_480 mw_481 pdX4_bars ⟨Nat.le_of_ble_eq_true rfl, Nat.le_of_ble_eq_true rfl⟩ hl.1 rfl (Nat.le_of_ble_eq_true rfl) dL_law_741 hf (fun H locs hW => ?_)
  exact lv_icmp_eq (tgt := 818) hx hb dL_law_744 (by decide) (fun _ => kk σ' τ' t' H locs O' hC' hM' hW) (fun c9 => absurd rfl c9)
