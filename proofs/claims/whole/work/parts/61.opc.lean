set_option maxHeartbeats 4000000 in
set_option maxRecDepth 100000 in
theorem la_2 (l : Launch) : nOp l 236 := by
  intro p e s m below meth c b L xs D cI cZ cA A h h' Q cells slots n ls σ τ t H locs hE hn hL hf hl O hC hM hW kk
  obtain ⟨hx, hb, hml, hown, hts, hX, hbl, hbA, hK, hi, hi'⟩ := hE
  obtain ⟨r, σ', τ', t', e1, e2, O', hC', hM'⟩ := st_end O hC hM (xs (n + 1))
  refine lv_aload_n hx hb dL_law_236 rfl (lv_at hl 1 rfl) ?_
  refine nl_arg hx hb hX hbl hbA hW.1.2.2.1 (lv_at hl 0 rfl) (lv_at hl 3 rfl) 1 (by omega) hL dL_law_237 dL_law_238 dL_law_239 (by decide) dL_law_240 dL_law_241 ?_
  refine nl_callC hx hb hml hown hts hK hW (cC_end l D cI cZ cA h hi (xs (n + 1)) σ (r, σ') e1) mw_121 mw_122 mw_123 mw_124 pdX3_end ⟨Nat.le_of_ble_eq_true rfl, Nat.le_of_ble_eq_true rfl⟩ hl.1 rfl (Nat.le_of_ble_eq_true rfl) dL_law_242 hf (fun H locs hW => ?_)
  refine lv_aload_n hx hb dL_law_245 rfl (lv_at hl 2 rfl) ?_
  refine nl_arg hx hb hX hbl hbA hW.1.2.2.1 (lv_at hl 0 rfl) (lv_at hl 3 rfl) 1 (by omega) hL dL_law_246 dL_law_247 dL_law_248 (by decide) dL_law_249 dL_law_250 ?_
  refine nl_callM hx hb hml hown hts hK hW (cM_end l D cI cZ cA h' hi' (xs (n + 1)) τ (r, τ') e2) mw_133 mw_134 mw_135 mw_136 pdX4_end ⟨Nat.le_of_ble_eq_true rfl, Nat.le_of_ble_eq_true rfl⟩ hl.1 rfl (Nat.le_of_ble_eq_true rfl) dL_law_251 hf (fun H locs hW => ?_)
  exact lv_icmp_eq (tgt := 818) hx hb dL_law_254 (by decide) (fun _ => kk σ' τ' t' H locs O' hC' hM' hW) (fun c9 => absurd rfl c9)
set_option maxHeartbeats 4000000 in
set_option maxRecDepth 100000 in
theorem la_6 (l : Launch) : nOp l 374 := by
  intro p e s m below meth c b L xs D cI cZ cA A h h' Q cells slots n ls σ τ t H locs hE hn hL hf hl O hC hM hW kk
  obtain ⟨hx, hb, hml, hown, hts, hX, hbl, hbA, hK, hi, hi'⟩ := hE
  obtain ⟨r, σ', τ', t', e1, e2, O', hC', hM'⟩ := st_cut O hC hM (xs (n + 1)) (xs (n + 2))
  refine lv_aload_n hx hb dL_law_374 rfl (lv_at hl 1 rfl) ?_
  refine nl_arg hx hb hX hbl hbA hW.1.2.2.1 (lv_at hl 0 rfl) (lv_at hl 3 rfl) 1 (by omega) hL dL_law_375 dL_law_376 dL_law_377 (by decide) dL_law_378 dL_law_379 ?_
  refine nl_arg hx hb hX hbl hbA hW.1.2.2.1 (lv_at hl 0 rfl) (lv_at hl 3 rfl) 2 (by omega) hL dL_law_380 dL_law_381 dL_law_382 (by decide) dL_law_383 dL_law_384 ?_
  refine nl_callC hx hb hml hown hts hK hW (cC_cut l D cI cZ cA h hi (xs (n + 1)) (xs (n + 2)) σ (r, σ') e1) mw_179 mw_180 mw_181 mw_182 pdX3_cut ⟨Nat.le_of_ble_eq_true rfl, Nat.le_of_ble_eq_true rfl⟩ hl.1 rfl (Nat.le_of_ble_eq_true rfl) dL_law_385 hf (fun H locs hW => ?_)
  refine lv_aload_n hx hb dL_law_388 rfl (lv_at hl 2 rfl) ?_
  refine nl_arg hx hb hX hbl hbA hW.1.2.2.1 (lv_at hl 0 rfl) (lv_at hl 3 rfl) 1 (by omega) hL dL_law_389 dL_law_390 dL_law_391 (by decide) dL_law_392 dL_law_393 ?_
  refine nl_arg hx hb hX hbl hbA hW.1.2.2.1 (lv_at hl 0 rfl) (lv_at hl 3 rfl) 2 (by omega) hL dL_law_394 dL_law_395 dL_law_396 (by decide) dL_law_397 dL_law_398 ?_
  refine nl_callM hx hb hml hown hts hK hW (cM_cut l D cI cZ cA h' hi' (xs (n + 1)) (xs (n + 2)) τ (r, τ') e2) mw_243 mw_244 mw_245 mw_246 pdX4_cut ⟨Nat.le_of_ble_eq_true rfl, Nat.le_of_ble_eq_true rfl⟩ hl.1 rfl (Nat.le_of_ble_eq_true rfl) dL_law_399 hf (fun H locs hW => ?_)
  exact lv_icmp_eq (tgt := 818) hx hb dL_law_402 (by decide) (fun _ => kk σ' τ' t' H locs O' hC' hM' hW) (fun c9 => absurd rfl c9)
set_option maxHeartbeats 4000000 in
set_option maxRecDepth 100000 in
theorem la_10 (l : Launch) : nOp l 486 := by
  intro p e s m below meth c b L xs D cI cZ cA A h h' Q cells slots n ls σ τ t H locs hE hn hL hf hl O hC hM hW kk
  obtain ⟨hx, hb, hml, hown, hts, hX, hbl, hbA, hK, hi, hi'⟩ := hE
  obtain ⟨r, σ', τ', t', e1, e2, O', hC', hM'⟩ := st_apart O hC hM 
  refine lv_aload_n hx hb dL_law_486 rfl (lv_at hl 1 rfl) ?_
  refine nl_callC hx hb hml hown hts hK hW (cC_apart l D cI cZ cA h hi  σ (r, σ') e1) mw_320 mw_321 mw_322 mw_323 pdX3_apart ⟨Nat.le_of_ble_eq_true rfl, Nat.le_of_ble_eq_true rfl⟩ hl.1 rfl (Nat.le_of_ble_eq_true rfl) dL_law_487 hf (fun H locs hW => ?_)
  refine lv_aload_n hx hb dL_law_490 rfl (lv_at hl 2 rfl) ?_
  refine nl_callM hx hb hml hown hts hK hW (cM_apart l D cI cZ cA h' hi'  τ (r, τ') e2) mw_332 mw_333 mw_334 mw_335 pdX4_apart ⟨Nat.le_of_ble_eq_true rfl, Nat.le_of_ble_eq_true rfl⟩ hl.1 rfl (Nat.le_of_ble_eq_true rfl) dL_law_491 hf (fun H locs hW => ?_)
  exact lv_icmp_eq (tgt := 818) hx hb dL_law_494 (by decide) (fun _ => kk σ' τ' t' H locs O' hC' hM' hW) (fun c9 => absurd rfl c9)
set_option maxHeartbeats 4000000 in
set_option maxRecDepth 100000 in
theorem la_14 (l : Launch) : nOp l 568 := by
  intro p e s m below meth c b L xs D cI cZ cA A h h' Q cells slots n ls σ τ t H locs hE hn hL hf hl O hC hM hW kk
  obtain ⟨hx, hb, hml, hown, hts, hX, hbl, hbA, hK, hi, hi'⟩ := hE
  obtain ⟨r, σ', τ', t', e1, e2, O', hC', hM'⟩ := st_piece O hC hM (xs (n + 1)) (xs (n + 2))
  refine lv_aload_n hx hb dL_law_568 rfl (lv_at hl 1 rfl) ?_
  refine nl_arg hx hb hX hbl hbA hW.1.2.2.1 (lv_at hl 0 rfl) (lv_at hl 3 rfl) 1 (by omega) hL dL_law_569 dL_law_570 dL_law_571 (by decide) dL_law_572 dL_law_573 ?_
  refine nl_arg hx hb hX hbl hbA hW.1.2.2.1 (lv_at hl 0 rfl) (lv_at hl 3 rfl) 2 (by omega) hL dL_law_574 dL_law_575 dL_law_576 (by decide) dL_law_577 dL_law_578 ?_
  refine nl_callC hx hb hml hown hts hK hW (cC_piece l D cI cZ cA h hi (xs (n + 1)) (xs (n + 2)) σ (r, σ') e1) mw_373 mw_374 mw_375 mw_376 pdX3_piece ⟨Nat.le_of_ble_eq_true rfl, Nat.le_of_ble_eq_true rfl⟩ hl.1 rfl (Nat.le_of_ble_eq_true rfl) dL_law_579 hf (fun H locs hW => ?_)
  refine lv_aload_n hx hb dL_law_582 rfl (lv_at hl 2 rfl) ?_
  refine nl_arg hx hb hX hbl hbA hW.1.2.2.1 (lv_at hl 0 rfl) (lv_at hl 3 rfl) 1 (by omega) hL dL_law_583 dL_law_584 dL_law_585 (by decide) dL_law_586 dL_law_587 ?_
  refine nl_arg hx hb hX hbl hbA hW.1.2.2.1 (lv_at hl 0 rfl) (lv_at hl 3 rfl) 2 (by omega) hL dL_law_588 dL_law_589 dL_law_590 (by decide) dL_law_591 dL_law_592 ?_
  refine nl_callM hx hb hml hown hts hK hW (cM_piece l D cI cZ cA h' hi' (xs (n + 1)) (xs (n + 2)) τ (r, τ') e2) mw_377 mw_378 mw_379 mw_380 pdX4_piece ⟨Nat.le_of_ble_eq_true rfl, Nat.le_of_ble_eq_true rfl⟩ hl.1 rfl (Nat.le_of_ble_eq_true rfl) dL_law_593 hf (fun H locs hW => ?_)
  exact lv_icmp_eq (tgt := 818) hx hb dL_law_596 (by decide) (fun _ => kk σ' τ' t' H locs O' hC' hM' hW) (fun c9 => absurd rfl c9)
set_option maxHeartbeats 4000000 in
set_option maxRecDepth 100000 in
theorem la_18 (l : Launch) : nOp l 660 := by
  intro p e s m below meth c b L xs D cI cZ cA A h h' Q cells slots n ls σ τ t H locs hE hn hL hf hl O hC hM hW kk
  obtain ⟨hx, hb, hml, hown, hts, hX, hbl, hbA, hK, hi, hi'⟩ := hE
  obtain ⟨r, σ', τ', t', e1, e2, O', hC', hM'⟩ := st_regretPart O hC hM (xs (n + 1))
  refine lv_aload_n hx hb dL_law_660 rfl (lv_at hl 1 rfl) ?_
  refine nl_arg hx hb hX hbl hbA hW.1.2.2.1 (lv_at hl 0 rfl) (lv_at hl 3 rfl) 1 (by omega) hL dL_law_661 dL_law_662 dL_law_663 (by decide) dL_law_664 dL_law_665 ?_
  refine nl_callC hx hb hml hown hts hK hW (cC_regretPart l D cI cZ cA h hi (xs (n + 1)) σ (r, σ') e1) mw_428 mw_429 mw_430 mw_431 pdX3_regretPart ⟨Nat.le_of_ble_eq_true rfl, Nat.le_of_ble_eq_true rfl⟩ hl.1 rfl (Nat.le_of_ble_eq_true rfl) dL_law_666 hf (fun H locs hW => ?_)
  refine lv_aload_n hx hb dL_law_669 rfl (lv_at hl 2 rfl) ?_
  refine nl_arg hx hb hX hbl hbA hW.1.2.2.1 (lv_at hl 0 rfl) (lv_at hl 3 rfl) 1 (by omega) hL dL_law_670 dL_law_671 dL_law_672 (by decide) dL_law_673 dL_law_674 ?_
  refine nl_callM hx hb hml hown hts hK hW (cM_regretPart l D cI cZ cA h' hi' (xs (n + 1)) τ (r, τ') e2) mw_432 mw_433 mw_434 mw_435 pdX4_regretPart ⟨Nat.le_of_ble_eq_true rfl, Nat.le_of_ble_eq_true rfl⟩ hl.1 rfl (Nat.le_of_ble_eq_true rfl) dL_law_675 hf (fun H locs hW => ?_)
  exact lv_icmp_eq (tgt := 818) hx hb dL_law_678 (by decide) (fun _ => kk σ' τ' t' H locs O' hC' hM' hW) (fun c9 => absurd rfl c9)
set_option maxHeartbeats 4000000 in
set_option maxRecDepth 100000 in
theorem la_22 (l : Launch) : nOp l 772 := by
  intro p e s m below meth c b L xs D cI cZ cA A h h' Q cells slots n ls σ τ t H locs hE hn hL hf hl O hC hM hW kk
  obtain ⟨hx, hb, hml, hown, hts, hX, hbl, hbA, hK, hi, hi'⟩ := hE
  obtain ⟨r, σ', τ', t', e1, e2, O', hC', hM'⟩ := st_hinge O hC hM (xs (n + 1))
  refine lv_aload_n hx hb dL_law_772 rfl (lv_at hl 1 rfl) ?_
  refine nl_arg hx hb hX hbl hbA hW.1.2.2.1 (lv_at hl 0 rfl) (lv_at hl 3 rfl) 1 (by omega) hL dL_law_773 dL_law_774 dL_law_775 (by decide) dL_law_776 dL_law_777 ?_
  refine nl_callC hx hb hml hown hts hK hW (cC_hinge l D cI cZ cA h hi (xs (n + 1)) σ (r, σ') e1) mw_494 mw_495 mw_496 mw_497 pdX3_hinge ⟨Nat.le_of_ble_eq_true rfl, Nat.le_of_ble_eq_true rfl⟩ hl.1 rfl (Nat.le_of_ble_eq_true rfl) dL_law_778 hf (fun H locs hW => ?_)
  refine lv_aload_n hx hb dL_law_781 rfl (lv_at hl 2 rfl) ?_
  refine nl_arg hx hb hX hbl hbA hW.1.2.2.1 (lv_at hl 0 rfl) (lv_at hl 3 rfl) 1 (by omega) hL dL_law_782 dL_law_783 dL_law_784 (by decide) dL_law_785 dL_law_786 ?_
  refine nl_callM hx hb hml hown hts hK hW (cM_hinge l D cI cZ cA h' hi' (xs (n + 1)) τ (r, τ') e2) mw_502 mw_503 mw_504 mw_505 pdX4_hinge ⟨Nat.le_of_ble_eq_true rfl, Nat.le_of_ble_eq_true rfl⟩ hl.1 rfl (Nat.le_of_ble_eq_true rfl) dL_law_787 hf (fun H locs hW => ?_)
  exact lv_icmp_eq (tgt := 818) hx hb dL_law_790 (by decide) (fun _ => kk σ' τ' t' H locs O' hC' hM' hW) (fun c9 => absurd rfl c9)
