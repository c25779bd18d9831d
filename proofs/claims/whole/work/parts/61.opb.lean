set_option maxHeartbeats 4000000 in
set_option maxRecDepth 100000 in
theorem la_1 (l : Launch) : nOp l 167 := by
  intro p e s m below meth c b L xs D cI cZ cA A h h' Q cells slots n ls σ τ t H locs hE hn hL hf hl O hC hM hW kk
  obtain ⟨hx, hb, hml, hown, hts, hX, hbl, hbA, hK, hi, hi'⟩ := hE
  obtain ⟨r, σ', τ', t', e1, e2, O', hC', hM'⟩ := st_line O hC hM (xs (n + 1)) (xs (n + 2)) (xs (n + 3)) (decide (xs (n + 4) ≠ 0))
  refine lv_aload_n hx hb dL_law_167 rfl (lv_at hl 1 rfl) ?_
  refine nl_arg hx hb hX hbl hbA hW.1.2.2.1 (lv_at hl 0 rfl) (lv_at hl 3 rfl) 1 (by omega) hL dL_law_168 dL_law_169 dL_law_170 (by decide) dL_law_171 dL_law_172 ?_
  refine nl_arg hx hb hX hbl hbA hW.1.2.2.1 (lv_at hl 0 rfl) (lv_at hl 3 rfl) 2 (by omega) hL dL_law_173 dL_law_174 dL_law_175 (by decide) dL_law_176 dL_law_177 ?_
  refine nl_arg hx hb hX hbl hbA hW.1.2.2.1 (lv_at hl 0 rfl) (lv_at hl 3 rfl) 3 (by omega) hL dL_law_178 dL_law_179 dL_law_180 (by decide) dL_law_181 dL_law_182 ?_
  refine nl_arg hx hb hX hbl hbA hW.1.2.2.1 (lv_at hl 0 rfl) (lv_at hl 3 rfl) 4 (by omega) hL dL_law_183 dL_law_184 dL_law_185 (by decide) dL_law_186 dL_law_187 ?_
  refine nl_bool hx hb dL_law_188 dL_law_191 dL_law_192 dL_law_195 ?_
  refine nl_callC hx hb hml hown hts hK hW (cC_line l D cI cZ cA h hi (xs (n + 1)) (xs (n + 2)) (xs (n + 3)) (zb (decide (xs (n + 4) ≠ 0))) σ (r, σ') e1) mw_96 mw_97 mw_98 mw_99 pdX3_line ⟨Nat.le_of_ble_eq_true rfl, Nat.le_of_ble_eq_true rfl⟩ hl.1 rfl (Nat.le_of_ble_eq_true rfl) dL_law_196 hf (fun H locs hW => ?_)
  refine lv_aload_n hx hb dL_law_199 rfl (lv_at hl 2 rfl) ?_
  refine nl_arg hx hb hX hbl hbA hW.1.2.2.1 (lv_at hl 0 rfl) (lv_at hl 3 rfl) 1 (by omega) hL dL_law_200 dL_law_201 dL_law_202 (by decide) dL_law_203 dL_law_204 ?_
  refine nl_arg hx hb hX hbl hbA hW.1.2.2.1 (lv_at hl 0 rfl) (lv_at hl 3 rfl) 2 (by omega) hL dL_law_205 dL_law_206 dL_law_207 (by decide) dL_law_208 dL_law_209 ?_
  refine nl_arg hx hb hX hbl hbA hW.1.2.2.1 (lv_at hl 0 rfl) (lv_at hl 3 rfl) 3 (by omega) hL dL_law_210 dL_law_211 dL_law_212 (by decide) dL_law_213 dL_law_214 ?_
  refine nl_arg hx hb hX hbl hbA hW.1.2.2.1 (lv_at hl 0 rfl) (lv_at hl 3 rfl) 4 (by omega) hL dL_law_215 dL_law_216 dL_law_217 (by decide) dL_law_218 dL_law_219 ?_
  refine nl_bool hx hb dL_law_220 dL_law_223 dL_law_224 dL_law_227 ?_
  refine nl_callM hx hb hml hown hts hK hW (cM_line l D cI cZ cA h' hi' (xs (n + 1)) (xs (n + 2)) (xs (n + 3)) (zb (decide (xs (n + 4) ≠ 0))) τ (r, τ') e2) mw_112 mw_113 mw_114 mw_115 pdX4_line ⟨Nat.le_of_ble_eq_true rfl, Nat.le_of_ble_eq_true rfl⟩ hl.1 rfl (Nat.le_of_ble_eq_true rfl) dL_law_228 hf (fun H locs hW => ?_)
  exact lv_icmp_eq (tgt := 818) hx hb dL_law_231 (by decide) (fun _ => kk σ' τ' t' H locs O' hC' hM' hW) (fun c9 => absurd rfl c9)
set_option maxHeartbeats 4000000 in
set_option maxRecDepth 100000 in
theorem la_5 (l : Launch) : nOp l 341 := by
  intro p e s m below meth c b L xs D cI cZ cA A h h' Q cells slots n ls σ τ t H locs hE hn hL hf hl O hC hM hW kk
  obtain ⟨hx, hb, hml, hown, hts, hX, hbl, hbA, hK, hi, hi'⟩ := hE
  obtain ⟨r, σ', τ', t', e1, e2, O', hC', hM'⟩ := st_unpair O hC hM (xs (n + 1)) (xs (n + 2))
  refine lv_aload_n hx hb dL_law_341 rfl (lv_at hl 1 rfl) ?_
  refine nl_arg hx hb hX hbl hbA hW.1.2.2.1 (lv_at hl 0 rfl) (lv_at hl 3 rfl) 1 (by omega) hL dL_law_342 dL_law_343 dL_law_344 (by decide) dL_law_345 dL_law_346 ?_
  refine nl_arg hx hb hX hbl hbA hW.1.2.2.1 (lv_at hl 0 rfl) (lv_at hl 3 rfl) 2 (by omega) hL dL_law_347 dL_law_348 dL_law_349 (by decide) dL_law_350 dL_law_351 ?_
  refine nl_callC hx hb hml hown hts hK hW (cC_unpair l D cI cZ cA h hi (xs (n + 1)) (xs (n + 2)) σ (r, σ') e1) mw_171 mw_172 mw_173 mw_174 pdX3_unpair ⟨Nat.le_of_ble_eq_true rfl, Nat.le_of_ble_eq_true rfl⟩ hl.1 rfl (Nat.le_of_ble_eq_true rfl) dL_law_352 hf (fun H locs hW => ?_)
  refine lv_aload_n hx hb dL_law_355 rfl (lv_at hl 2 rfl) ?_
  refine nl_arg hx hb hX hbl hbA hW.1.2.2.1 (lv_at hl 0 rfl) (lv_at hl 3 rfl) 1 (by omega) hL dL_law_356 dL_law_357 dL_law_358 (by decide) dL_law_359 dL_law_360 ?_
  refine nl_arg hx hb hX hbl hbA hW.1.2.2.1 (lv_at hl 0 rfl) (lv_at hl 3 rfl) 2 (by omega) hL dL_law_361 dL_law_362 dL_law_363 (by decide) dL_law_364 dL_law_365 ?_
  refine nl_callM hx hb hml hown hts hK hW (cM_unpair l D cI cZ cA h' hi' (xs (n + 1)) (xs (n + 2)) τ (r, τ') e2) mw_175 mw_176 mw_177 mw_178 pdX4_unpair ⟨Nat.le_of_ble_eq_true rfl, Nat.le_of_ble_eq_true rfl⟩ hl.1 rfl (Nat.le_of_ble_eq_true rfl) dL_law_366 hf (fun H locs hW => ?_)
  exact lv_icmp_eq (tgt := 818) hx hb dL_law_369 (by decide) (fun _ => kk σ' τ' t' H locs O' hC' hM' hW) (fun c9 => absurd rfl c9)
set_option maxHeartbeats 4000000 in
set_option maxRecDepth 100000 in
theorem la_9 (l : Launch) : nOp l 463 := by
  intro p e s m below meth c b L xs D cI cZ cA A h h' Q cells slots n ls σ τ t H locs hE hn hL hf hl O hC hM hW kk
  obtain ⟨hx, hb, hml, hown, hts, hX, hbl, hbA, hK, hi, hi'⟩ := hE
  obtain ⟨r, σ', τ', t', e1, e2, O', hC', hM'⟩ := st_terminalPart O hC hM (xs (n + 1))
  refine lv_aload_n hx hb dL_law_463 rfl (lv_at hl 1 rfl) ?_
  refine nl_arg hx hb hX hbl hbA hW.1.2.2.1 (lv_at hl 0 rfl) (lv_at hl 3 rfl) 1 (by omega) hL dL_law_464 dL_law_465 dL_law_466 (by decide) dL_law_467 dL_law_468 ?_
  refine nl_callC hx hb hml hown hts hK hW (cC_terminalPart l D cI cZ cA h hi (xs (n + 1)) σ (r, σ') e1) mw_308 mw_309 mw_310 mw_311 pdX3_terminalPart ⟨Nat.le_of_ble_eq_true rfl, Nat.le_of_ble_eq_true rfl⟩ hl.1 rfl (Nat.le_of_ble_eq_true rfl) dL_law_469 hf (fun H locs hW => ?_)
  refine lv_aload_n hx hb dL_law_472 rfl (lv_at hl 2 rfl) ?_
  refine nl_arg hx hb hX hbl hbA hW.1.2.2.1 (lv_at hl 0 rfl) (lv_at hl 3 rfl) 1 (by omega) hL dL_law_473 dL_law_474 dL_law_475 (by decide) dL_law_476 dL_law_477 ?_
  refine nl_callM hx hb hml hown hts hK hW (cM_terminalPart l D cI cZ cA h' hi' (xs (n + 1)) τ (r, τ') e2) mw_312 mw_313 mw_314 mw_315 pdX4_terminalPart ⟨Nat.le_of_ble_eq_true rfl, Nat.le_of_ble_eq_true rfl⟩ hl.1 rfl (Nat.le_of_ble_eq_true rfl) dL_law_478 hf (fun H locs hW => ?_)
  exact lv_icmp_eq (tgt := 818) hx hb dL_law_481 (by decide) (fun _ => kk σ' τ' t' H locs O' hC' hM' hW) (fun c9 => absurd rfl c9)
set_option maxHeartbeats 4000000 in
set_option maxRecDepth 100000 in
theorem la_13 (l : Launch) : nOp l 545 := by
  intro p e s m below meth c b L xs D cI cZ cA A h h' Q cells slots n ls σ τ t H locs hE hn hL hf hl O hC hM hW kk
  obtain ⟨hx, hb, hml, hown, hts, hX, hbl, hbA, hK, hi, hi'⟩ := hE
  obtain ⟨r, σ', τ', t', e1, e2, O', hC', hM'⟩ := st_pieces O hC hM (xs (n + 1))
  refine lv_aload_n hx hb dL_law_545 rfl (lv_at hl 1 rfl) ?_
  refine nl_arg hx hb hX hbl hbA hW.1.2.2.1 (lv_at hl 0 rfl) (lv_at hl 3 rfl) 1 (by omega) hL dL_law_546 dL_law_547 dL_law_548 (by decide) dL_law_549 dL_law_550 ?_
  refine nl_callC hx hb hml hown hts hK hW (cC_pieces l D cI cZ cA h hi (xs (n + 1)) σ (r, σ') e1) mw_357 mw_358 mw_359 mw_360 pdX3_pieces ⟨Nat.le_of_ble_eq_true rfl, Nat.le_of_ble_eq_true rfl⟩ hl.1 rfl (Nat.le_of_ble_eq_true rfl) dL_law_551 hf (fun H locs hW => ?_)
  refine lv_aload_n hx hb dL_law_554 rfl (lv_at hl 2 rfl) ?_
  refine nl_arg hx hb hX hbl hbA hW.1.2.2.1 (lv_at hl 0 rfl) (lv_at hl 3 rfl) 1 (by omega) hL dL_law_555 dL_law_556 dL_law_557 (by decide) dL_law_558 dL_law_559 ?_
  refine nl_callM hx hb hml hown hts hK hW (cM_pieces l D cI cZ cA h' hi' (xs (n + 1)) τ (r, τ') e2) mw_369 mw_370 mw_371 mw_372 pdX4_pieces ⟨Nat.le_of_ble_eq_true rfl, Nat.le_of_ble_eq_true rfl⟩ hl.1 rfl (Nat.le_of_ble_eq_true rfl) dL_law_560 hf (fun H locs hW => ?_)
  exact lv_icmp_eq (tgt := 818) hx hb dL_law_563 (by decide) (fun _ => kk σ' τ' t' H locs O' hC' hM' hW) (fun c9 => absurd rfl c9)
set_option maxHeartbeats 4000000 in
set_option maxRecDepth 100000 in
theorem la_17 (l : Launch) : nOp l 647 := by
  intro p e s m below meth c b L xs D cI cZ cA A h h' Q cells slots n ls σ τ t H locs hE hn hL hf hl O hC hM hW kk
  obtain ⟨hx, hb, hml, hown, hts, hX, hbl, hbA, hK, hi, hi'⟩ := hE
  obtain ⟨r, σ', τ', t', e1, e2, O', hC', hM'⟩ := st_regret O hC hM 
  refine lv_aload_n hx hb dL_law_647 rfl (lv_at hl 1 rfl) ?_
  refine nl_callC hx hb hml hown hts hK hW (cC_regret l D cI cZ cA h hi  σ (r, σ') e1) mw_415 mw_416 mw_417 mw_418 pdX3_regret ⟨Nat.le_of_ble_eq_true rfl, Nat.le_of_ble_eq_true rfl⟩ hl.1 rfl (Nat.le_of_ble_eq_true rfl) dL_law_648 hf (fun H locs hW => ?_)
  refine lv_aload_n hx hb dL_law_651 rfl (lv_at hl 2 rfl) ?_
  refine nl_callM hx hb hml hown hts hK hW (cM_regret l D cI cZ cA h' hi'  τ (r, τ') e2) mw_424 mw_425 mw_426 mw_427 pdX4_regret ⟨Nat.le_of_ble_eq_true rfl, Nat.le_of_ble_eq_true rfl⟩ hl.1 rfl (Nat.le_of_ble_eq_true rfl) dL_law_652 hf (fun H locs hW => ?_)
  exact lv_icmp_eq (tgt := 818) hx hb dL_law_655 (by decide) (fun _ => kk σ' τ' t' H locs O' hC' hM' hW) (fun c9 => absurd rfl c9)
set_option maxHeartbeats 4000000 in
set_option maxRecDepth 100000 in
theorem la_21 (l : Launch) : nOp l 749 := by
  intro p e s m below meth c b L xs D cI cZ cA A h h' Q cells slots n ls σ τ t H locs hE hn hL hf hl O hC hM hW kk
  obtain ⟨hx, hb, hml, hown, hts, hX, hbl, hbA, hK, hi, hi'⟩ := hE
  obtain ⟨r, σ', τ', t', e1, e2, O', hC', hM'⟩ := st_bridge O hC hM (xs (n + 1))
  refine lv_aload_n hx hb dL_law_749 rfl (lv_at hl 1 rfl) ?_
  refine nl_arg hx hb hX hbl hbA hW.1.2.2.1 (lv_at hl 0 rfl) (lv_at hl 3 rfl) 1 (by omega) hL dL_law_750 dL_law_751 dL_law_752 (by decide) dL_law_753 dL_law_754 ?_
  refine nl_callC hx hb hml hown hts hK hW (cC_bridge l D cI cZ cA h hi (xs (n + 1)) σ (r, σ') e1) mw_482 mw_483 mw_484 mw_485 pdX3_bridge ⟨Nat.le_of_ble_eq_true rfl, Nat.le_of_ble_eq_true rfl⟩ hl.1 rfl (Nat.le_of_ble_eq_true rfl) dL_law_755 hf (fun H locs hW => ?_)
  refine lv_aload_n hx hb dL_law_758 rfl (lv_at hl 2 rfl) ?_
  refine nl_arg hx hb hX hbl hbA hW.1.2.2.1 (lv_at hl 0 rfl) (lv_at hl 3 rfl) 1 (by omega) hL dL_law_759 dL_law_760 dL_law_761 (by decide) dL_law_762 dL_law_763 ?_
  refine nl_callM hx hb hml hown hts hK hW (cM_bridge l D cI cZ cA h' hi' (xs (n + 1)) τ (r, τ') e2) mw_490 mw_491 mw_492 mw_493 pdX4_bridge ⟨Nat.le_of_ble_eq_true rfl, Nat.le_of_ble_eq_true rfl⟩ hl.1 rfl (Nat.le_of_ble_eq_true rfl) dL_law_764 hf (fun H locs hW => ?_)
  exact lv_icmp_eq (tgt := 818) hx hb dL_law_767 (by decide) (fun _ => kk σ' τ' t' H locs O' hC' hM' hW) (fun c9 => absurd rfl c9)
