set_option maxHeartbeats 4000000 in
set_option maxRecDepth 100000 in
theorem la_3 (l : Launch) : nOp l 259 := by
  intro p e s m below meth c b L xs D cI cZ cA A h h' Q cells slots n ls σ τ t H locs hE hn hL hf hl O hC hM hW kk
  obtain ⟨hx, hb, hml, hown, hts, hX, hbl, hbA, hK, hi, hi'⟩ := hE
  obtain ⟨r, σ', τ', t', e1, e2, O', hC', hM'⟩ := st_terminal O hC hM (xs (n + 1)) (decide (xs (n + 2) ≠ 0))
  refine lv_aload_n hx hb dL_law_259 rfl (lv_at hl 1 rfl) ?_
  refine nl_arg hx hb hX hbl hbA hW.1.2.2.1 (lv_at hl 0 rfl) (lv_at hl 3 rfl) 1 (by omega) hL dL_law_260 dL_law_261 dL_law_262 (by decide) dL_law_263 dL_law_264 ?_
  refine nl_arg hx hb hX hbl hbA hW.1.2.2.1 (lv_at hl 0 rfl) (lv_at hl 3 rfl) 2 (by omega) hL dL_law_265 dL_law_266 dL_law_267 (by decide) dL_law_268 dL_law_269 ?_
  refine nl_bool hx hb dL_law_270 dL_law_273 dL_law_274 dL_law_277 ?_
  refine nl_callC hx hb hml hown hts hK hW (cC_terminal l D cI cZ cA h hi (xs (n + 1)) (zb (decide (xs (n + 2) ≠ 0))) σ (r, σ') e1) mw_141 mw_142 mw_143 mw_144 pdX3_terminal ⟨Nat.le_of_ble_eq_true rfl, Nat.le_of_ble_eq_true rfl⟩ hl.1 rfl (Nat.le_of_ble_eq_true rfl) dL_law_278 hf (fun H locs hW => ?_)
  refine lv_aload_n hx hb dL_law_281 rfl (lv_at hl 2 rfl) ?_
  refine nl_arg hx hb hX hbl hbA hW.1.2.2.1 (lv_at hl 0 rfl) (lv_at hl 3 rfl) 1 (by omega) hL dL_law_282 dL_law_283 dL_law_284 (by decide) dL_law_285 dL_law_286 ?_
  refine nl_arg hx hb hX hbl hbA hW.1.2.2.1 (lv_at hl 0 rfl) (lv_at hl 3 rfl) 2 (by omega) hL dL_law_287 dL_law_288 dL_law_289 (by decide) dL_law_290 dL_law_291 ?_
  refine nl_bool hx hb dL_law_292 dL_law_295 dL_law_296 dL_law_299 ?_
  refine nl_callM hx hb hml hown hts hK hW (cM_terminal l D cI cZ cA h' hi' (xs (n + 1)) (zb (decide (xs (n + 2) ≠ 0))) τ (r, τ') e2) mw_149 mw_150 mw_151 mw_152 pdX4_terminal ⟨Nat.le_of_ble_eq_true rfl, Nat.le_of_ble_eq_true rfl⟩ hl.1 rfl (Nat.le_of_ble_eq_true rfl) dL_law_300 hf (fun H locs hW => ?_)
  exact lv_icmp_eq (tgt := 818) hx hb dL_law_303 (by decide) (fun _ => kk σ' τ' t' H locs O' hC' hM' hW) (fun c9 => absurd rfl c9)
set_option maxHeartbeats 4000000 in
set_option maxRecDepth 100000 in
theorem la_7 (l : Launch) : nOp l 407 := by
  intro p e s m below meth c b L xs D cI cZ cA A h h' Q cells slots n ls σ τ t H locs hE hn hL hf hl O hC hM hW kk
  obtain ⟨hx, hb, hml, hown, hts, hX, hbl, hbA, hK, hi, hi'⟩ := hE
  obtain ⟨r, σ', τ', t', e1, e2, O', hC', hM'⟩ := st_cutPart O hC hM (xs (n + 1)) (xs (n + 2)) (xs (n + 3))
  refine lv_aload_n hx hb dL_law_407 rfl (lv_at hl 1 rfl) ?_
  refine nl_arg hx hb hX hbl hbA hW.1.2.2.1 (lv_at hl 0 rfl) (lv_at hl 3 rfl) 1 (by omega) hL dL_law_408 dL_law_409 dL_law_410 (by decide) dL_law_411 dL_law_412 ?_
  refine nl_arg hx hb hX hbl hbA hW.1.2.2.1 (lv_at hl 0 rfl) (lv_at hl 3 rfl) 2 (by omega) hL dL_law_413 dL_law_414 dL_law_415 (by decide) dL_law_416 dL_law_417 ?_
  refine nl_arg hx hb hX hbl hbA hW.1.2.2.1 (lv_at hl 0 rfl) (lv_at hl 3 rfl) 3 (by omega) hL dL_law_418 dL_law_419 dL_law_420 (by decide) dL_law_421 dL_law_422 ?_
  refine nl_callC hx hb hml hown hts hK hW (cC_cutPart l D cI cZ cA h hi (xs (n + 1)) (xs (n + 2)) (xs (n + 3)) σ (r, σ') e1) mw_279 mw_280 mw_281 mw_282 pdX3_cutPart ⟨Nat.le_of_ble_eq_true rfl, Nat.le_of_ble_eq_true rfl⟩ hl.1 rfl (Nat.le_of_ble_eq_true rfl) dL_law_423 hf (fun H locs hW => ?_)
  refine lv_aload_n hx hb dL_law_426 rfl (lv_at hl 2 rfl) ?_
  refine nl_arg hx hb hX hbl hbA hW.1.2.2.1 (lv_at hl 0 rfl) (lv_at hl 3 rfl) 1 (by omega) hL dL_law_427 dL_law_428 dL_law_429 (by decide) dL_law_430 dL_law_431 ?_
  refine nl_arg hx hb hX hbl hbA hW.1.2.2.1 (lv_at hl 0 rfl) (lv_at hl 3 rfl) 2 (by omega) hL dL_law_432 dL_law_433 dL_law_434 (by decide) dL_law_435 dL_law_436 ?_
  refine nl_arg hx hb hX hbl hbA hW.1.2.2.1 (lv_at hl 0 rfl) (lv_at hl 3 rfl) 3 (by omega) hL dL_law_437 dL_law_438 dL_law_439 (by decide) dL_law_440 dL_law_441 ?_
  refine nl_callM hx hb hml hown hts hK hW (cM_cutPart l D cI cZ cA h' hi' (xs (n + 1)) (xs (n + 2)) (xs (n + 3)) τ (r, τ') e2) mw_287 mw_288 mw_289 mw_290 pdX4_cutPart ⟨Nat.le_of_ble_eq_true rfl, Nat.le_of_ble_eq_true rfl⟩ hl.1 rfl (Nat.le_of_ble_eq_true rfl) dL_law_442 hf (fun H locs hW => ?_)
  exact lv_icmp_eq (tgt := 818) hx hb dL_law_445 (by decide) (fun _ => kk σ' τ' t' H locs O' hC' hM' hW) (fun c9 => absurd rfl c9)
set_option maxHeartbeats 4000000 in
set_option maxRecDepth 100000 in
theorem la_11 (l : Launch) : nOp l 499 := by
  intro p e s m below meth c b L xs D cI cZ cA A h h' Q cells slots n ls σ τ t H locs hE hn hL hf hl O hC hM hW kk
  obtain ⟨hx, hb, hml, hown, hts, hX, hbl, hbA, hK, hi, hi'⟩ := hE
  obtain ⟨r, σ', τ', t', e1, e2, O', hC', hM'⟩ := st_apartPart O hC hM (xs (n + 1))
  refine lv_aload_n hx hb dL_law_499 rfl (lv_at hl 1 rfl) ?_
  refine nl_arg hx hb hX hbl hbA hW.1.2.2.1 (lv_at hl 0 rfl) (lv_at hl 3 rfl) 1 (by omega) hL dL_law_500 dL_law_501 dL_law_502 (by decide) dL_law_503 dL_law_504 ?_
  refine nl_callC hx hb hml hown hts hK hW (cC_apartPart l D cI cZ cA h hi (xs (n + 1)) σ (r, σ') e1) mw_336 mw_337 mw_338 mw_339 pdX3_apartPart ⟨Nat.le_of_ble_eq_true rfl, Nat.le_of_ble_eq_true rfl⟩ hl.1 rfl (Nat.le_of_ble_eq_true rfl) dL_law_505 hf (fun H locs hW => ?_)
  refine lv_aload_n hx hb dL_law_508 rfl (lv_at hl 2 rfl) ?_
  refine nl_arg hx hb hX hbl hbA hW.1.2.2.1 (lv_at hl 0 rfl) (lv_at hl 3 rfl) 1 (by omega) hL dL_law_509 dL_law_510 dL_law_511 (by decide) dL_law_512 dL_law_513 ?_
  refine nl_callM hx hb hml hown hts hK hW (cM_apartPart l D cI cZ cA h' hi' (xs (n + 1)) τ (r, τ') e2) mw_340 mw_341 mw_342 mw_343 pdX4_apartPart ⟨Nat.le_of_ble_eq_true rfl, Nat.le_of_ble_eq_true rfl⟩ hl.1 rfl (Nat.le_of_ble_eq_true rfl) dL_law_514 hf (fun H locs hW => ?_)
  exact lv_icmp_eq (tgt := 818) hx hb dL_law_517 (by decide) (fun _ => kk σ' τ' t' H locs O' hC' hM' hW) (fun c9 => absurd rfl c9)
set_option maxHeartbeats 4000000 in
set_option maxRecDepth 100000 in
theorem la_15 (l : Launch) : nOp l 601 := by
  intro p e s m below meth c b L xs D cI cZ cA A h h' Q cells slots n ls σ τ t H locs hE hn hL hf hl O hC hM hW kk
  obtain ⟨hx, hb, hml, hown, hts, hX, hbl, hbA, hK, hi, hi'⟩ := hE
  obtain ⟨r, σ', τ', t', e1, e2, O', hC', hM'⟩ := st_wholes O hC hM 
  refine lv_aload_n hx hb dL_law_601 rfl (lv_at hl 1 rfl) ?_
  refine nl_callC hx hb hml hown hts hK hW (cC_wholes l D cI cZ cA h hi  σ (r, σ') e1) mw_381 mw_382 mw_383 mw_384 pdX3_wholes ⟨Nat.le_of_ble_eq_true rfl, Nat.le_of_ble_eq_true rfl⟩ hl.1 rfl (Nat.le_of_ble_eq_true rfl) dL_law_602 hf (fun H locs hW => ?_)
  refine lv_aload_n hx hb dL_law_605 rfl (lv_at hl 2 rfl) ?_
  refine nl_callM hx hb hml hown hts hK hW (cM_wholes l D cI cZ cA h' hi'  τ (r, τ') e2) mw_399 mw_400 mw_401 mw_402 pdX4_wholes ⟨Nat.le_of_ble_eq_true rfl, Nat.le_of_ble_eq_true rfl⟩ hl.1 rfl (Nat.le_of_ble_eq_true rfl) dL_law_606 hf (fun H locs hW => ?_)
  exact lv_icmp_eq (tgt := 818) hx hb dL_law_609 (by decide) (fun _ => kk σ' τ' t' H locs O' hC' hM' hW) (fun c9 => absurd rfl c9)
set_option maxHeartbeats 4000000 in
set_option maxRecDepth 100000 in
theorem la_19 (l : Launch) : nOp l 683 := by
  intro p e s m below meth c b L xs D cI cZ cA A h h' Q cells slots n ls σ τ t H locs hE hn hL hf hl O hC hM hW kk
  obtain ⟨hx, hb, hml, hown, hts, hX, hbl, hbA, hK, hi, hi'⟩ := hE
  obtain ⟨r, σ', τ', t', e1, e2, O', hC', hM'⟩ := st_bar O hC hM (xs (n + 1)) (xs (n + 2))
  refine lv_aload_n hx hb dL_law_683 rfl (lv_at hl 1 rfl) ?_
  refine nl_arg hx hb hX hbl hbA hW.1.2.2.1 (lv_at hl 0 rfl) (lv_at hl 3 rfl) 1 (by omega) hL dL_law_684 dL_law_685 dL_law_686 (by decide) dL_law_687 dL_law_688 ?_
  refine nl_arg hx hb hX hbl hbA hW.1.2.2.1 (lv_at hl 0 rfl) (lv_at hl 3 rfl) 2 (by omega) hL dL_law_689 dL_law_690 dL_law_691 (by decide) dL_law_692 dL_law_693 ?_
  refine nl_callC hx hb hml hown hts hK hW (cC_bar l D cI cZ cA h hi (xs (n + 1)) (xs (n + 2)) σ (r, σ') e1) mw_436 mw_437 mw_438 mw_439 pdX3_bar ⟨Nat.le_of_ble_eq_true rfl, Nat.le_of_ble_eq_true rfl⟩ hl.1 rfl (Nat.le_of_ble_eq_true rfl) dL_law_694 hf (fun H locs hW => ?_)
  refine lv_aload_n hx hb dL_law_697 rfl (lv_at hl 2 rfl) ?_
  refine nl_arg hx hb hX hbl hbA hW.1.2.2.1 (lv_at hl 0 rfl) (lv_at hl 3 rfl) 1 (by omega) hL dL_law_698 dL_law_699 dL_law_700 (by decide) dL_law_701 dL_law_702 ?_
  refine nl_arg hx hb hX hbl hbA hW.1.2.2.1 (lv_at hl 0 rfl) (lv_at hl 3 rfl) 2 (by omega) hL dL_law_703 dL_law_704 dL_law_705 (by decide) dL_law_706 dL_law_707 ?_
  refine nl_callM hx hb hml hown hts hK hW (cM_bar l D cI cZ cA h' hi' (xs (n + 1)) (xs (n + 2)) τ (r, τ') e2) mw_458 mw_459 mw_460 mw_461 pdX4_bar ⟨Nat.le_of_ble_eq_true rfl, Nat.le_of_ble_eq_true rfl⟩ hl.1 rfl (Nat.le_of_ble_eq_true rfl) dL_law_708 hf (fun H locs hW => ?_)
  exact lv_icmp_eq (tgt := 818) hx hb dL_law_711 (by decide) (fun _ => kk σ' τ' t' H locs O' hC' hM' hW) (fun c9 => absurd rfl c9)
set_option maxHeartbeats 4000000 in
set_option maxRecDepth 100000 in
theorem la_23 (l : Launch) : nOp l 795 := by
  intro p e s m below meth c b L xs D cI cZ cA A h h' Q cells slots n ls σ τ t H locs hE hn hL hf hl O hC hM hW kk
  obtain ⟨hx, hb, hml, hown, hts, hX, hbl, hbA, hK, hi, hi'⟩ := hE
  obtain ⟨r, σ', τ', t', e1, e2, O', hC', hM'⟩ := st_count O hC hM (xs (n + 1))
  refine lv_aload_n hx hb dL_law_795 rfl (lv_at hl 1 rfl) ?_
  refine nl_arg hx hb hX hbl hbA hW.1.2.2.1 (lv_at hl 0 rfl) (lv_at hl 3 rfl) 1 (by omega) hL dL_law_796 dL_law_797 dL_law_798 (by decide) dL_law_799 dL_law_800 ?_
  refine nl_callC hx hb hml hown hts hK hW (cC_count l D cI cZ cA h hi (xs (n + 1)) σ (r, σ') e1) mw_506 mw_507 mw_508 mw_509 pdX3_count ⟨Nat.le_of_ble_eq_true rfl, Nat.le_of_ble_eq_true rfl⟩ hl.1 rfl (Nat.le_of_ble_eq_true rfl) dL_law_801 hf (fun H locs hW => ?_)
  refine lv_aload_n hx hb dL_law_804 rfl (lv_at hl 2 rfl) ?_
  refine nl_arg hx hb hX hbl hbA hW.1.2.2.1 (lv_at hl 0 rfl) (lv_at hl 3 rfl) 1 (by omega) hL dL_law_805 dL_law_806 dL_law_807 (by decide) dL_law_808 dL_law_809 ?_
  refine nl_callM hx hb hml hown hts hK hW (cM_count l D cI cZ cA h' hi' (xs (n + 1)) τ (r, τ') e2) mw_521 mw_522 mw_523 mw_524 pdX4_count ⟨Nat.le_of_ble_eq_true rfl, Nat.le_of_ble_eq_true rfl⟩ hl.1 rfl (Nat.le_of_ble_eq_true rfl) dL_law_810 hf (fun H locs hW => ?_)
  exact lv_icmp_eq (tgt := 818) hx hb dL_law_813 (by decide) (fun _ => kk σ' τ' t' H locs O' hC' hM' hW) (fun c9 => absurd rfl c9)
