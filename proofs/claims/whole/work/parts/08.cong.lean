set_option maxHeartbeats 8000000 in
set_option maxRecDepth 100000 in
theorem cC_bar (l : Launch) (D : va_G) (cI cZ cA : ClassId) (h : Nat → Nat) (hi : nInj 48 h) (p1 p2 : Int32) (σ : nS) (q : Int32 × nS) (hg : gC_bar p1 p2 σ = some q) : nMi l yX3_bar cX3_bar 4 (some .int) 4 D cI cZ cA 48 (cfC cI cZ cA h) h [.ref (h 0), .int p1, .int p2] σ q.1 q.2 := by
  unfold gC_bar at hg
  refine ng_body_i (by decide) hi (Nat.le_of_ble_eq_true rfl) ?_
  intro p e R s m args below meth c sz Q ls hx hb hml hr hlk hts hown hK hR hQ hl hH
  have hown : s.vm.findClass RX3 = some m.cls := hown
  have hl : lv_has ls 4 [(0, .ref (h 0)), (1, .int p1), (2, .int p2)] := hl
  refine lv_aload_n hx hb dX3_bar_0 rfl (lv_at hl 0 rfl) ?_
  refine ng_get hx hb hts hown hK hH 0 (by decide) rfl rfl inlX3 0 (by decide) mw_15 rfl dX3_bar_1 ?_
  refine lv_iload_n hx hb dX3_bar_4 rfl (lv_at hl 1 rfl) ?_
  refine lv_iload_n hx hb dX3_bar_5 rfl (lv_at hl 2 rfl) ?_
  obtain ⟨q1, hc2, hg⟩ := ob_b hg
  refine ng_ci (ng_rV hx hb hml hown hts hK hH (As := [.int p1, .int p2]) (rest := []) 1 (cN_barringHeap l D cI cZ cA h hi p1 p2 σ q1 hc2 _) (by decide) rfl rfl mw_440 mw_441 mw_442 mw_14 mw_443 pdX1_barringHeap ⟨by rw [hR]; show _ ≤ _; simp only [nRm]; omega, by rw [hR]; show _ ≤ _; simp only [nRm]; omega⟩ hl.1 rfl (Nat.le_of_ble_eq_true rfl) dX3_bar_6 ⟨Nat.zero_le _, Nat.zero_le _⟩) hH (fun H locs hH => ?_)
  refine lv_istore_n (lv' := [(3, .int q1.1), (0, .ref (h 0)), (1, .int p1), (2, .int p2)]) hx hb dX3_bar_9 rfl hl (by decide) rfl (fun ls hl => ?_)
  refine lv_iload_n hx hb dX3_bar_10 rfl (lv_at hl 0 rfl) ?_
  refine lv_iconst (v := (-1 : Int32)) hx hb dX3_bar_11 (by decide) ?_
  refine lv_icmp_ne (tgt := 19) hx hb dX3_bar_12 (by decide) (fun c3 => ?_) (fun c3 => ?_)
  · replace hg := ob_f c3 hg
    refine lv_aload_n hx hb dX3_bar_19 rfl (lv_at hl 1 rfl) ?_
    refine ng_get hx hb hts hown hK hH 0 (by decide) rfl rfl inlX3 0 (by decide) mw_15 rfl dX3_bar_20 ?_
    refine lv_iload_n hx hb dX3_bar_23 rfl (lv_at hl 0 rfl) ?_
    obtain ⟨q4, hc5, hg⟩ := ob_b hg
    refine ng_ci (ng_rV hx hb hml hown hts hK hH (As := [.int q1.1]) (rest := []) 1 (cN_priceOfHeap l D cI cZ cA h hi q1.1 q1.2 q4 hc5 _) (by decide) rfl rfl mw_457 mw_450 mw_451 mw_14 mw_452 pdX1_priceOfHeap ⟨by rw [hR]; show _ ≤ _; simp only [nRm]; omega, by rw [hR]; show _ ≤ _; simp only [nRm]; omega⟩ hl.1 rfl (Nat.le_of_ble_eq_true rfl) dX3_bar_24 ⟨Nat.zero_le _, Nat.zero_le _⟩) hH (fun H locs hH => ?_)
    subst hQ
    exact ng_iret hx hb hr hlk (congrArg Prod.fst (Option.some.inj hg)) (congrArg Prod.snd (Option.some.inj hg)) hH dX3_bar_27
  · replace hg := ob_t c3 hg
    refine lv_iconst (v := (-1 : Int32)) hx hb dX3_bar_15 (by decide) ?_
    refine lv_goto (tgt := 27) hx hb dX3_bar_16 (by decide) ?_
    subst hQ
    exact ng_iret hx hb hr hlk (congrArg Prod.fst (Option.some.inj hg)) (congrArg Prod.snd (Option.some.inj hg)) hH dX3_bar_27
set_option maxHeartbeats 8000000 in
set_option maxRecDepth 100000 in
theorem cC_bars (l : Launch) (D : va_G) (cI cZ cA : ClassId) (h : Nat → Nat) (hi : nInj 48 h) (p1 p2 : Int32) (σ : nS) (q : Int32 × nS) (hg : gC_bars p1 p2 σ = some q) : nMi l yX3_bars cX3_bars 3 (some .int) 4 D cI cZ cA 48 (cfC cI cZ cA h) h [.ref (h 0), .int p1, .int p2] σ q.1 q.2 := by
  unfold gC_bars at hg
  refine ng_body_i (by decide) hi (Nat.le_of_ble_eq_true rfl) ?_
  intro p e R s m args below meth c sz Q ls hx hb hml hr hlk hts hown hK hR hQ hl hH
  have hown : s.vm.findClass RX3 = some m.cls := hown
  have hl : lv_has ls 3 [(0, .ref (h 0)), (1, .int p1), (2, .int p2)] := hl
  refine lv_aload_n hx hb dX3_bars_0 rfl (lv_at hl 0 rfl) ?_
  refine ng_get hx hb hts hown hK hH 0 (by decide) rfl rfl inlX3 0 (by decide) mw_15 rfl dX3_bars_1 ?_
  refine lv_iload_n hx hb dX3_bars_4 rfl (lv_at hl 1 rfl) ?_
  refine lv_iload_n hx hb dX3_bars_5 rfl (lv_at hl 2 rfl) ?_
  obtain ⟨q1, hc2, hg⟩ := ob_b hg
  refine ng_ci (ng_rV hx hb hml hown hts hK hH (As := [.int p1, .int p2]) (rest := []) 1 (cN_barringHeap l D cI cZ cA h hi p1 p2 σ q1 hc2 _) (by decide) rfl rfl mw_440 mw_441 mw_442 mw_14 mw_443 pdX1_barringHeap ⟨by rw [hR]; show _ ≤ _; simp only [nRm]; omega, by rw [hR]; show _ ≤ _; simp only [nRm]; omega⟩ hl.1 rfl (Nat.le_of_ble_eq_true rfl) dX3_bars_6 ⟨Nat.zero_le _, Nat.zero_le _⟩) hH (fun H locs hH => ?_)
  subst hQ
  exact ng_iret hx hb hr hlk (congrArg Prod.fst (Option.some.inj hg)) (congrArg Prod.snd (Option.some.inj hg)) hH dX3_bars_9
set_option maxHeartbeats 8000000 in
set_option maxRecDepth 100000 in
theorem cN_isBridge (l : Launch) (D : va_G) (cI cZ cA : ClassId) (h : Nat → Nat) (hi : nInj 48 h) (p1 : Int32) (σ : nS) (q : Int32 × nS) (hg : gN_isBridge p1 σ = some q) : nMi l yX1_isBridge cX1_isBridge 2 (some .boolean) 3 D cI cZ cA 48 (cfC cI cZ cA h) h [.ref (h 1), .int p1] σ q.1 q.2 := by
  unfold gN_isBridge at hg
  refine ng_body_i (by decide) hi (Nat.le_of_ble_eq_true rfl) ?_
  intro p e R s m args below meth c sz Q ls hx hb hml hr hlk hts hown hK hR hQ hl hH
  have hown : s.vm.findClass RX1 = some m.cls := hown
  have hl : lv_has ls 2 [(0, .ref (h 1)), (1, .int p1)] := hl
  refine lv_aload_n hx hb dX1_isBridge_0 rfl (lv_at hl 0 rfl) ?_
  refine lv_iload_n hx hb dX1_isBridge_1 rfl (lv_at hl 1 rfl) ?_
  obtain ⟨q1, hc2, hg⟩ := ob_b hg
  refine ng_ci (ng_rV hx hb hml hown hts hK hH (As := [.int p1]) (rest := []) 1 (cN_hasLine l D cI cZ cA h hi p1 σ q1 hc2 _) (by decide) rfl rfl mw_129 mw_130 mw_131 mw_14 mw_132 pdX1_hasLine ⟨by rw [hR]; show _ ≤ _; simp only [nRm]; omega, by rw [hR]; show _ ≤ _; simp only [nRm]; omega⟩ hl.1 rfl (Nat.le_of_ble_eq_true rfl) dX1_isBridge_2 ⟨Nat.zero_le _, Nat.zero_le _⟩) hH (fun H locs hH => ?_)
  refine lv_if_ne (tgt := 10) hx hb dX1_isBridge_5 (by decide) (fun c3 => ?_) (fun c3 => ?_)
  · replace hg := ob_f c3 hg
    refine lv_aload_n hx hb dX1_isBridge_10 rfl (lv_at hl 0 rfl) ?_
    refine lv_iload_n hx hb dX1_isBridge_11 rfl (lv_at hl 1 rfl) ?_
    obtain ⟨q4, hc5, hg⟩ := ob_b hg
    refine ng_cv (ng_rV hx hb hml hown hts hK hH (As := [.int p1]) (rest := []) 1 (cN_joinPosts l D cI cZ cA h hi p1 σ q4 hc5 _) (by decide) rfl rfl mw_445 mw_446 mw_447 mw_14 mw_448 pdX1_joinPosts ⟨by rw [hR]; show _ ≤ _; simp only [nRm]; omega, by rw [hR]; show _ ≤ _; simp only [nRm]; omega⟩ hl.1 rfl (Nat.le_of_ble_eq_true rfl) dX1_isBridge_12 ⟨Nat.zero_le _, Nat.zero_le _⟩) hH (fun H locs hH => ?_)
    refine lv_aload_n hx hb dX1_isBridge_15 rfl (lv_at hl 0 rfl) ?_
    refine lv_aload_n hx hb dX1_isBridge_16 rfl (lv_at hl 0 rfl) ?_
    refine ng_get hx hb hts hown hK hH 1 (by decide) rfl rfl inlX1 0 (by decide) mw_31 rfl dX1_isBridge_17 ?_
    refine lv_iload_n hx hb dX1_isBridge_20 rfl (lv_at hl 1 rfl) ?_
    obtain ⟨hb6, hg⟩ := ob_i hg
    refine ng_iald hx hb hK hH 2 (by decide) (fun _ => rfl) hb6 dX1_isBridge_21 ?_
    refine lv_iconst (v := (0 : Int32)) hx hb dX1_isBridge_22 (by decide) ?_
    obtain ⟨q7, hc8, hg⟩ := ob_b hg
    refine ng_ci (ng_rV hx hb hml hown hts hK hH (As := [.int (q4 2 p1.toNatClampNeg), .int (0 : Int32)]) (rest := []) 1 (cN_reach l D cI cZ cA h hi (q4 2 p1.toNatClampNeg) (0 : Int32) q4 q7 hc8 _) (by decide) rfl rfl mw_453 mw_454 mw_455 mw_14 mw_456 pdX1_reach ⟨by rw [hR]; show _ ≤ _; simp only [nRm]; omega, by rw [hR]; show _ ≤ _; simp only [nRm]; omega⟩ hl.1 rfl (Nat.le_of_ble_eq_true rfl) dX1_isBridge_23 ⟨Nat.zero_le _, Nat.zero_le _⟩) hH (fun H locs hH => ?_)
    refine lv_aload_n hx hb dX1_isBridge_26 rfl (lv_at hl 0 rfl) ?_
    refine ng_get hx hb hts hown hK hH 1 (by decide) rfl rfl inlX1 1 (by decide) mw_32 rfl dX1_isBridge_27 ?_
    refine lv_iload_n hx hb dX1_isBridge_30 rfl (lv_at hl 1 rfl) ?_
    obtain ⟨hb9, hg⟩ := ob_i hg
    refine ng_iald hx hb hK hH 3 (by decide) (fun _ => rfl) hb9 dX1_isBridge_31 ?_
    obtain ⟨q10, hc11, hg⟩ := ob_b hg
    refine ng_ci (ng_rSN (host := "NetCuts") hx hb hml hown hts hK hH (As := [.int q7, .int (q4 3 p1.toNatClampNeg)]) (rest := []) (cC_holds l D cI cZ cA h hi q7 (q4 3 p1.toNatClampNeg) q4 q10 hc11 _) hK.2.2 mw_147 mw_2 mw_148 pdX3_holds.2 ⟨by rw [hR]; show _ ≤ _; simp only [nRm]; omega, by rw [hR]; show _ ≤ _; simp only [nRm]; omega⟩ hl.1 rfl (Nat.le_of_ble_eq_true rfl) dX1_isBridge_32 ⟨Nat.zero_le _, Nat.zero_le _⟩) hH (fun H locs hH => ?_)
    refine lv_if_ne (tgt := 42) hx hb dX1_isBridge_35 (by decide) (fun c12 => ?_) (fun c12 => ?_)
    · replace hg := ob_f c12 hg
      refine lv_iconst (v := (0 : Int32)) hx hb dX1_isBridge_42 (by decide) ?_
      subst hQ
      exact ng_zret hx hb hr hlk (by decide) (congrArg Prod.fst (Option.some.inj hg)) (congrArg Prod.snd (Option.some.inj hg)) hH dX1_isBridge_43
    · replace hg := ob_t c12 hg
      refine lv_iconst (v := (1 : Int32)) hx hb dX1_isBridge_38 (by decide) ?_
      refine lv_goto (tgt := 43) hx hb dX1_isBridge_39 (by decide) ?_
      subst hQ
      exact ng_zret hx hb hr hlk (by decide) (congrArg Prod.fst (Option.some.inj hg)) (congrArg Prod.snd (Option.some.inj hg)) hH dX1_isBridge_43
  · replace hg := ob_t c3 hg
    refine lv_iconst (v := (0 : Int32)) hx hb dX1_isBridge_8 (by decide) ?_
    subst hQ
    exact ng_zret hx hb hr hlk (by decide) (congrArg Prod.fst (Option.some.inj hg)) (congrArg Prod.snd (Option.some.inj hg)) hH dX1_isBridge_9
set_option maxHeartbeats 8000000 in
set_option maxRecDepth 100000 in
theorem cC_bridge (l : Launch) (D : va_G) (cI cZ cA : ClassId) (h : Nat → Nat) (hi : nInj 48 h) (p1 : Int32) (σ : nS) (q : Int32 × nS) (hg : gC_bridge p1 σ = some q) : nMi l yX3_bridge cX3_bridge 2 (some .boolean) 4 D cI cZ cA 48 (cfC cI cZ cA h) h [.ref (h 0), .int p1] σ q.1 q.2 := by
  unfold gC_bridge at hg
  refine ng_body_i (by decide) hi (Nat.le_of_ble_eq_true rfl) ?_
  intro p e R s m args below meth c sz Q ls hx hb hml hr hlk hts hown hK hR hQ hl hH
  have hown : s.vm.findClass RX3 = some m.cls := hown
  have hl : lv_has ls 2 [(0, .ref (h 0)), (1, .int p1)] := hl
  refine lv_aload_n hx hb dX3_bridge_0 rfl (lv_at hl 0 rfl) ?_
  refine ng_get hx hb hts hown hK hH 0 (by decide) rfl rfl inlX3 0 (by decide) mw_15 rfl dX3_bridge_1 ?_
  refine lv_iload_n hx hb dX3_bridge_4 rfl (lv_at hl 1 rfl) ?_
  obtain ⟨q1, hc2, hg⟩ := ob_b hg
  refine ng_ci (ng_rV hx hb hml hown hts hK hH (As := [.int p1]) (rest := []) 1 (cN_isBridge l D cI cZ cA h hi p1 σ q1 hc2 _) (by decide) rfl rfl mw_486 mw_487 mw_488 mw_14 mw_489 pdX1_isBridge ⟨by rw [hR]; show _ ≤ _; simp only [nRm]; omega, by rw [hR]; show _ ≤ _; simp only [nRm]; omega⟩ hl.1 rfl (Nat.le_of_ble_eq_true rfl) dX3_bridge_5 ⟨Nat.zero_le _, Nat.zero_le _⟩) hH (fun H locs hH => ?_)
  obtain ⟨hz, hg⟩ := ob_i hg
  subst hQ
  exact ng_zret hx hb hr hlk hz (congrArg Prod.fst (Option.some.inj hg)) (congrArg Prod.snd (Option.some.inj hg)) hH dX3_bridge_8
set_option maxHeartbeats 8000000 in
set_option maxRecDepth 100000 in
theorem cN_isHinge (l : Launch) (D : va_G) (cI cZ cA : ClassId) (h : Nat → Nat) (hi : nInj 48 h) (p1 : Int32) (σ : nS) (q : Int32 × nS) (hg : gN_isHinge p1 σ = some q) : nMi l yX1_isHinge cX1_isHinge 5 (some .boolean) 3 D cI cZ cA 48 (cfC cI cZ cA h) h [.ref (h 1), .int p1] σ q.1 q.2 := by
  unfold gN_isHinge at hg
  refine ng_body_i (by decide) hi (Nat.le_of_ble_eq_true rfl) ?_
  intro p e R s m args below meth c sz Q ls hx hb hml hr hlk hts hown hK hR hQ hl hH
  have hown : s.vm.findClass RX1 = some m.cls := hown
  have hl : lv_has ls 5 [(0, .ref (h 1)), (1, .int p1)] := hl
  refine lv_aload_n hx hb dX1_isHinge_0 rfl (lv_at hl 0 rfl) ?_
  refine lv_iload_n hx hb dX1_isHinge_1 rfl (lv_at hl 1 rfl) ?_
  obtain ⟨q1, hc2, hg⟩ := ob_b hg
  refine ng_ci (ng_rV hx hb hml hown hts hK hH (As := [.int p1]) (rest := []) 1 (cN_hasPost l D cI cZ cA h hi p1 σ q1 hc2 _) (by decide) rfl rfl mw_108 mw_109 mw_110 mw_14 mw_111 pdX1_hasPost ⟨by rw [hR]; show _ ≤ _; simp only [nRm]; omega, by rw [hR]; show _ ≤ _; simp only [nRm]; omega⟩ hl.1 rfl (Nat.le_of_ble_eq_true rfl) dX1_isHinge_2 ⟨Nat.zero_le _, Nat.zero_le _⟩) hH (fun H locs hH => ?_)
  refine lv_if_ne (tgt := 10) hx hb dX1_isHinge_5 (by decide) (fun c3 => ?_) (fun c3 => ?_)
  · replace hg := ob_f c3 hg
    refine lv_aload_n hx hb dX1_isHinge_10 rfl (lv_at hl 0 rfl) ?_
    refine lv_iconst (v := (-1 : Int32)) hx hb dX1_isHinge_11 (by decide) ?_
    obtain ⟨q4, hc5, hg⟩ := ob_b hg
    refine ng_cv (ng_rV hx hb hml hown hts hK hH (As := [.int (-1 : Int32)]) (rest := []) 1 (cN_joinPosts l D cI cZ cA h hi (-1 : Int32) σ q4 hc5 _) (by decide) rfl rfl mw_445 mw_446 mw_447 mw_14 mw_448 pdX1_joinPosts ⟨by rw [hR]; show _ ≤ _; simp only [nRm]; omega, by rw [hR]; show _ ≤ _; simp only [nRm]; omega⟩ hl.1 rfl (Nat.le_of_ble_eq_true rfl) dX1_isHinge_12 ⟨Nat.zero_le _, Nat.zero_le _⟩) hH (fun H locs hH => ?_)
    refine lv_iconst (v := (1 : Int32)) hx hb dX1_isHinge_15 (by decide) ?_
    refine lv_iload_n hx hb dX1_isHinge_16 rfl (lv_at hl 1 rfl) ?_
    refine lv_ishl hx hb dX1_isHinge_17 ?_
    refine lv_istore_n (lv' := [(2, .int ((1 : Int32) <<< (p1 &&& 31))), (0, .ref (h 1)), (1, .int p1)]) hx hb dX1_isHinge_18 rfl hl (by decide) rfl (fun ls hl => ?_)
    refine lv_aload_n hx hb dX1_isHinge_19 rfl (lv_at hl 1 rfl) ?_
    refine lv_iload_n hx hb dX1_isHinge_20 rfl (lv_at hl 2 rfl) ?_
    refine lv_iconst (v := (0 : Int32)) hx hb dX1_isHinge_21 (by decide) ?_
    obtain ⟨q6, hc7, hg⟩ := ob_b hg
    refine ng_ci (ng_rV hx hb hml hown hts hK hH (As := [.int p1, .int (0 : Int32)]) (rest := []) 1 (cN_reach l D cI cZ cA h hi p1 (0 : Int32) q4 q6 hc7 _) (by decide) rfl rfl mw_453 mw_454 mw_455 mw_14 mw_456 pdX1_reach ⟨by rw [hR]; show _ ≤ _; simp only [nRm]; omega, by rw [hR]; show _ ≤ _; simp only [nRm]; omega⟩ hl.1 rfl (Nat.le_of_ble_eq_true rfl) dX1_isHinge_22 ⟨Nat.zero_le _, Nat.zero_le _⟩) hH (fun H locs hH => ?_)
    refine lv_iload_n hx hb dX1_isHinge_25 rfl (lv_at hl 0 rfl) ?_
    refine lv_iconst (v := (-1 : Int32)) hx hb dX1_isHinge_26 (by decide) ?_
    refine lv_ixor hx hb dX1_isHinge_27 ?_
    refine lv_iand hx hb dX1_isHinge_28 ?_
    refine lv_istore_n (lv' := [(3, .int (q6 &&& (((1 : Int32) <<< (p1 &&& 31)) ^^^ (-1 : Int32)))), (2, .int ((1 : Int32) <<< (p1 &&& 31))), (0, .ref (h 1)), (1, .int p1)]) hx hb dX1_isHinge_29 rfl hl (by decide) rfl (fun ls hl => ?_)
    refine lv_iconst (v := (0 : Int32)) hx hb dX1_isHinge_30 (by decide) ?_
    refine lv_istore (lv' := [(4, .int (0 : Int32)), (3, .int (q6 &&& (((1 : Int32) <<< (p1 &&& 31)) ^^^ (-1 : Int32)))), (2, .int ((1 : Int32) <<< (p1 &&& 31))), (0, .ref (h 1)), (1, .int p1)]) hx hb dX1_isHinge_31 hl (by decide) rfl (fun ls hl => ?_)
    have LP_33 : ∀ (K_33 : Option (Int32 × nS)) (kk_33 : ∀ (H : Heap) (locs : List Loc) (ls : Array Slot), K_33 = some q → nH D 48 (cfC cI cZ cA h) h (nAd 48 h sz) s.heap q4 H locs → lv_has ls 5 [] → W p l e R s m args below meth c H locs 0 0 Q (F0 m 74 ls [])) (n : Nat) (v4_33 : Int32) (H : Heap) (locs : List Loc) (ls : Array Slot), gN_isHinge_L33 ((1 : Int32) <<< (p1 &&& 31)) (q6 &&& (((1 : Int32) <<< (p1 &&& 31)) ^^^ (-1 : Int32))) q4 K_33 n v4_33 = some q → nH D 48 (cfC cI cZ cA h) h (nAd 48 h sz) s.heap q4 H locs → lv_has ls 5 [(0, .ref (h 1)), (2, .int ((1 : Int32) <<< (p1 &&& 31))), (3, .int (q6 &&& (((1 : Int32) <<< (p1 &&& 31)) ^^^ (-1 : Int32)))), (4, .int v4_33)] → W p l e R s m args below meth c H locs 0 0 Q (F0 m 33 ls []) := by
      intro K_33 kk_33 n
      induction n with
      | zero => intro v4_33 H locs ls hg hH hl; rw [gN_isHinge_L33] at hg; exact ob_n hg
      | succ n ih_33 =>
        intro v4_33 H locs ls hg hH hl
        rw [gN_isHinge_L33] at hg
        refine lv_iload hx hb dX1_isHinge_33 (lv_at hl 3 rfl) ?_
        refine lv_aload_n hx hb dX1_isHinge_35 rfl (lv_at hl 0 rfl) ?_
        refine ng_get hx hb hts hown hK hH 1 (by decide) rfl rfl inlX1 5 (by decide) mw_37 rfl dX1_isHinge_36 ?_
        refine lv_icmp_ge (tgt := 74) hx hb dX1_isHinge_39 (by decide) (fun c8 => ?_) (fun c8 => ?_)
        · replace hg := ob_t c8 hg
          exact kk_33 H locs ls hg hH (lv_sub hl [] rfl)
        · replace hg := ob_f c8 hg
          refine lv_iload_n hx hb dX1_isHinge_42 rfl (lv_at hl 2 rfl) ?_
          refine lv_iload hx hb dX1_isHinge_43 (lv_at hl 3 rfl) ?_
          obtain ⟨q9, hc10, hg⟩ := ob_b hg
          refine ng_ci (ng_rSN (host := "NetCuts") hx hb hml hown hts hK hH (As := [.int (q6 &&& (((1 : Int32) <<< (p1 &&& 31)) ^^^ (-1 : Int32))), .int v4_33]) (rest := []) (cC_holds l D cI cZ cA h hi (q6 &&& (((1 : Int32) <<< (p1 &&& 31)) ^^^ (-1 : Int32))) v4_33 q4 q9 hc10 _) hK.2.2 mw_147 mw_2 mw_148 pdX3_holds.2 ⟨by rw [hR]; show _ ≤ _; simp only [nRm]; omega, by rw [hR]; show _ ≤ _; simp only [nRm]; omega⟩ hl.1 rfl (Nat.le_of_ble_eq_true rfl) dX1_isHinge_45 ⟨Nat.zero_le _, Nat.zero_le _⟩) hH (fun H locs hH => ?_)
          refine lv_if_eq (tgt := 68) hx hb dX1_isHinge_48 (by decide) (fun c11 => ?_) (fun c11 => ?_)
          · replace hg := ob_t c11 hg
            refine lv_iinc (v := (v4_33 + 1)) (lv' := [(4, .int (v4_33 + 1)), (0, .ref (h 1)), (2, .int ((1 : Int32) <<< (p1 &&& 31))), (3, .int (q6 &&& (((1 : Int32) <<< (p1 &&& 31)) ^^^ (-1 : Int32))))]) hx hb dX1_isHinge_68 hl (k := 3) rfl rfl (by decide) rfl (fun ls hl => ?_)
            refine lv_goto (tgt := 33) hx hb dX1_isHinge_71 (by decide) ?_
            exact ih_33 (v4_33 + 1) H locs ls hg hH (lv_sub hl [1, 2, 3, 0] rfl)
          · replace hg := ob_f c11 hg
            refine lv_aload_n hx hb dX1_isHinge_51 rfl (lv_at hl 0 rfl) ?_
            refine lv_iload hx hb dX1_isHinge_52 (lv_at hl 3 rfl) ?_
            refine lv_iload_n hx hb dX1_isHinge_54 rfl (lv_at hl 1 rfl) ?_
            obtain ⟨q12, hc13, hg⟩ := ob_b hg
            refine ng_ci (ng_rV hx hb hml hown hts hK hH (As := [.int v4_33, .int ((1 : Int32) <<< (p1 &&& 31))]) (rest := []) 1 (cN_reach l D cI cZ cA h hi v4_33 ((1 : Int32) <<< (p1 &&& 31)) q4 q12 hc13 _) (by decide) rfl rfl mw_453 mw_454 mw_455 mw_14 mw_456 pdX1_reach ⟨by rw [hR]; show _ ≤ _; simp only [nRm]; omega, by rw [hR]; show _ ≤ _; simp only [nRm]; omega⟩ hl.1 rfl (Nat.le_of_ble_eq_true rfl) dX1_isHinge_55 ⟨Nat.zero_le _, Nat.zero_le _⟩) hH (fun H locs hH => ?_)
            refine lv_iload_n hx hb dX1_isHinge_58 rfl (lv_at hl 2 rfl) ?_
            refine lv_icmp_eq (tgt := 66) hx hb dX1_isHinge_59 (by decide) (fun c14 => ?_) (fun c14 => ?_)
            · replace hg := ob_t c14 hg
              refine lv_iconst (v := (0 : Int32)) hx hb dX1_isHinge_66 (by decide) ?_
              subst hQ
              exact ng_zret hx hb hr hlk (by decide) (congrArg Prod.fst (Option.some.inj hg)) (congrArg Prod.snd (Option.some.inj hg)) hH dX1_isHinge_67
            · replace hg := ob_f c14 hg
              refine lv_iconst (v := (1 : Int32)) hx hb dX1_isHinge_62 (by decide) ?_
              refine lv_goto (tgt := 67) hx hb dX1_isHinge_63 (by decide) ?_
              subst hQ
              exact ng_zret hx hb hr hlk (by decide) (congrArg Prod.fst (Option.some.inj hg)) (congrArg Prod.snd (Option.some.inj hg)) hH dX1_isHinge_67
    refine LP_33 _ ?_ _ _ _ _ _ hg hH (lv_sub hl [3, 2, 1, 0] rfl)
    intro H locs ls hg hH hl
    refine lv_iconst (v := (0 : Int32)) hx hb dX1_isHinge_74 (by decide) ?_
    subst hQ
    exact ng_zret hx hb hr hlk (by decide) (congrArg Prod.fst (Option.some.inj hg)) (congrArg Prod.snd (Option.some.inj hg)) hH dX1_isHinge_75
  · replace hg := ob_t c3 hg
    refine lv_iconst (v := (0 : Int32)) hx hb dX1_isHinge_8 (by decide) ?_
    subst hQ
    exact ng_zret hx hb hr hlk (by decide) (congrArg Prod.fst (Option.some.inj hg)) (congrArg Prod.snd (Option.some.inj hg)) hH dX1_isHinge_9
set_option maxHeartbeats 8000000 in
set_option maxRecDepth 100000 in
theorem cC_hinge (l : Launch) (D : va_G) (cI cZ cA : ClassId) (h : Nat → Nat) (hi : nInj 48 h) (p1 : Int32) (σ : nS) (q : Int32 × nS) (hg : gC_hinge p1 σ = some q) : nMi l yX3_hinge cX3_hinge 2 (some .boolean) 4 D cI cZ cA 48 (cfC cI cZ cA h) h [.ref (h 0), .int p1] σ q.1 q.2 := by
  unfold gC_hinge at hg
  refine ng_body_i (by decide) hi (Nat.le_of_ble_eq_true rfl) ?_
  intro p e R s m args below meth c sz Q ls hx hb hml hr hlk hts hown hK hR hQ hl hH
  have hown : s.vm.findClass RX3 = some m.cls := hown
  have hl : lv_has ls 2 [(0, .ref (h 0)), (1, .int p1)] := hl
  refine lv_aload_n hx hb dX3_hinge_0 rfl (lv_at hl 0 rfl) ?_
  refine ng_get hx hb hts hown hK hH 0 (by decide) rfl rfl inlX3 0 (by decide) mw_15 rfl dX3_hinge_1 ?_
  refine lv_iload_n hx hb dX3_hinge_4 rfl (lv_at hl 1 rfl) ?_
  obtain ⟨q1, hc2, hg⟩ := ob_b hg
  refine ng_ci (ng_rV hx hb hml hown hts hK hH (As := [.int p1]) (rest := []) 1 (cN_isHinge l D cI cZ cA h hi p1 σ q1 hc2 _) (by decide) rfl rfl mw_498 mw_499 mw_500 mw_14 mw_501 pdX1_isHinge ⟨by rw [hR]; show _ ≤ _; simp only [nRm]; omega, by rw [hR]; show _ ≤ _; simp only [nRm]; omega⟩ hl.1 rfl (Nat.le_of_ble_eq_true rfl) dX3_hinge_5 ⟨Nat.zero_le _, Nat.zero_le _⟩) hH (fun H locs hH => ?_)
  obtain ⟨hz, hg⟩ := ob_i hg
  subst hQ
  exact ng_zret hx hb hr hlk hz (congrArg Prod.fst (Option.some.inj hg)) (congrArg Prod.snd (Option.some.inj hg)) hH dX3_hinge_8
set_option maxHeartbeats 8000000 in
set_option maxRecDepth 100000 in
theorem cN_linesLeft (l : Launch) (D : va_G) (cI cZ cA : ClassId) (h : Nat → Nat) (hi : nInj 48 h) (σ : nS) (q : Int32) (hg : gN_linesLeft σ = some q) : nMi l yX1_linesLeft cX1_linesLeft 3 (some .int) 1 D cI cZ cA 48 (cfC cI cZ cA h) h [.ref (h 1)] σ q σ := by
  unfold gN_linesLeft at hg
  refine ng_body_i (by decide) hi (Nat.le_of_ble_eq_true rfl) ?_
  intro p e R s m args below meth c sz Q ls hx hb hml hr hlk hts hown hK hR hQ hl hH
  have hown : s.vm.findClass RX1 = some m.cls := hown
  have hl : lv_has ls 3 [(0, .ref (h 1))] := hl
  refine lv_iconst (v := (0 : Int32)) hx hb dX1_linesLeft_0 (by decide) ?_
  refine lv_istore_n (lv' := [(1, .int (0 : Int32)), (0, .ref (h 1))]) hx hb dX1_linesLeft_1 rfl hl (by decide) rfl (fun ls hl => ?_)
  refine lv_iconst (v := (0 : Int32)) hx hb dX1_linesLeft_2 (by decide) ?_
  refine lv_istore_n (lv' := [(2, .int (0 : Int32)), (1, .int (0 : Int32)), (0, .ref (h 1))]) hx hb dX1_linesLeft_3 rfl hl (by decide) rfl (fun ls hl => ?_)
  have LP_4 : ∀ (K_4 : Int32 → Option Int32) (kk_4 : ∀ (w1_4 : Int32) (H : Heap) (locs : List Loc) (ls : Array Slot), K_4 w1_4 = some q → nH D 48 (cfC cI cZ cA h) h (nAd 48 h sz) s.heap σ H locs → lv_has ls 3 [(1, .int w1_4)] → W p l e R s m args below meth c H locs 0 0 Q (F0 m 30 ls [])) (n : Nat) (v1_4 v2_4 : Int32) (H : Heap) (locs : List Loc) (ls : Array Slot), gN_linesLeft_L4 σ K_4 n v1_4 v2_4 = some q → nH D 48 (cfC cI cZ cA h) h (nAd 48 h sz) s.heap σ H locs → lv_has ls 3 [(0, .ref (h 1)), (1, .int v1_4), (2, .int v2_4)] → W p l e R s m args below meth c H locs 0 0 Q (F0 m 4 ls []) := by
    intro K_4 kk_4 n
    induction n with
    | zero => intro v1_4 v2_4 H locs ls hg hH hl; rw [gN_linesLeft_L4] at hg; exact ob_n hg
    | succ n ih_4 =>
      intro v1_4 v2_4 H locs ls hg hH hl
      rw [gN_linesLeft_L4] at hg
      refine lv_iload_n hx hb dX1_linesLeft_4 rfl (lv_at hl 2 rfl) ?_
      refine lv_aload_n hx hb dX1_linesLeft_5 rfl (lv_at hl 0 rfl) ?_
      refine ng_get hx hb hts hown hK hH 1 (by decide) rfl rfl inlX1 6 (by decide) mw_38 rfl dX1_linesLeft_6 ?_
      refine lv_icmp_ge (tgt := 30) hx hb dX1_linesLeft_9 (by decide) (fun c1 => ?_) (fun c1 => ?_)
      · replace hg := ob_t c1 hg
        exact kk_4 v1_4 H locs ls hg hH (lv_sub hl [1] rfl)
      · replace hg := ob_f c1 hg
        refine lv_aload_n hx hb dX1_linesLeft_12 rfl (lv_at hl 0 rfl) ?_
        refine ng_get hx hb hts hown hK hH 1 (by decide) rfl rfl inlX1 4 (by decide) mw_36 rfl dX1_linesLeft_13 ?_
        refine lv_iload_n hx hb dX1_linesLeft_16 rfl (lv_at hl 2 rfl) ?_
        obtain ⟨hb2, hg⟩ := ob_i hg
        refine ng_zald hx hb hK hH 6 (by decide) (fun _ => rfl) hb2 dX1_linesLeft_17 ?_
        refine lv_if_ne (tgt := 24) hx hb dX1_linesLeft_18 (by decide) (fun c3 => ?_) (fun c3 => ?_)
        · replace hg := ob_f c3 hg
          refine lv_iinc (v := (v2_4 + 1)) (lv' := [(2, .int (v2_4 + 1)), (0, .ref (h 1)), (1, .int v1_4)]) hx hb dX1_linesLeft_24 hl (k := 2) rfl rfl (by decide) rfl (fun ls hl => ?_)
          refine lv_goto (tgt := 4) hx hb dX1_linesLeft_27 (by decide) ?_
          exact ih_4 v1_4 (v2_4 + 1) H locs ls hg hH (lv_sub hl [1, 2, 0] rfl)
        · replace hg := ob_t c3 hg
          refine lv_iinc (v := (v1_4 + 1)) (lv' := [(1, .int (v1_4 + 1)), (0, .ref (h 1)), (2, .int v2_4)]) hx hb dX1_linesLeft_21 hl (k := 1) rfl rfl (by decide) rfl (fun ls hl => ?_)
          refine lv_iinc (v := (v2_4 + 1)) (lv' := [(2, .int (v2_4 + 1)), (1, .int (v1_4 + 1)), (0, .ref (h 1))]) hx hb dX1_linesLeft_24 hl (k := 2) rfl rfl (by decide) rfl (fun ls hl => ?_)
          refine lv_goto (tgt := 4) hx hb dX1_linesLeft_27 (by decide) ?_
          exact ih_4 (v1_4 + 1) (v2_4 + 1) H locs ls hg hH (lv_sub hl [2, 1, 0] rfl)
  refine LP_4 _ ?_ _ _ _ _ _ _ hg hH (lv_sub hl [2, 1, 0] rfl)
  intro w1_4 H locs ls hg hH hl
  refine lv_iload_n hx hb dX1_linesLeft_30 rfl (lv_at hl 0 rfl) ?_
  subst hQ
  exact ng_iret hx hb hr hlk (Option.some.inj hg) rfl hH dX1_linesLeft_31
set_option maxHeartbeats 8000000 in
set_option maxRecDepth 100000 in
theorem cC_sizeOf (l : Launch) (D : va_G) (cI cZ cA : ClassId) (h : Nat → Nat) (hi : nInj 48 h) (p1 : Int32) (σ : nS) (q : Int32) (hg : gC_sizeOf p1 σ = some q) : nMi l yX3_sizeOf cX3_sizeOf 3 (some .int) 2 D cI cZ cA 48 (cfC cI cZ cA h) h [.int p1] σ q σ := by
  unfold gC_sizeOf at hg
  refine ng_body_i (by decide) hi (Nat.le_of_ble_eq_true rfl) ?_
  intro p e R s m args below meth c sz Q ls hx hb hml hr hlk hts hown hK hR hQ hl hH
  have hown : s.vm.findClass RX3 = some m.cls := hown
  have hl : lv_has ls 3 [(0, .int p1)] := hl
  refine lv_iconst (v := (0 : Int32)) hx hb dX3_sizeOf_0 (by decide) ?_
  refine lv_istore_n (lv' := [(1, .int (0 : Int32)), (0, .int p1)]) hx hb dX3_sizeOf_1 rfl hl (by decide) rfl (fun ls hl => ?_)
  refine lv_iconst (v := (0 : Int32)) hx hb dX3_sizeOf_2 (by decide) ?_
  refine lv_istore_n (lv' := [(2, .int (0 : Int32)), (1, .int (0 : Int32)), (0, .int p1)]) hx hb dX3_sizeOf_3 rfl hl (by decide) rfl (fun ls hl => ?_)
  have LP_4 : ∀ (K_4 : Int32 → Option Int32) (kk_4 : ∀ (w1_4 : Int32) (H : Heap) (locs : List Loc) (ls : Array Slot), K_4 w1_4 = some q → nH D 48 (cfC cI cZ cA h) h (nAd 48 h sz) s.heap σ H locs → lv_has ls 3 [(1, .int w1_4)] → W p l e R s m args below meth c H locs 0 0 Q (F0 m 27 ls [])) (n : Nat) (v1_4 v2_4 : Int32) (H : Heap) (locs : List Loc) (ls : Array Slot), gC_sizeOf_L4 p1 σ K_4 n v1_4 v2_4 = some q → nH D 48 (cfC cI cZ cA h) h (nAd 48 h sz) s.heap σ H locs → lv_has ls 3 [(0, .int p1), (1, .int v1_4), (2, .int v2_4)] → W p l e R s m args below meth c H locs 0 0 Q (F0 m 4 ls []) := by
    intro K_4 kk_4 n
    induction n with
    | zero => intro v1_4 v2_4 H locs ls hg hH hl; rw [gC_sizeOf_L4] at hg; exact ob_n hg
    | succ n ih_4 =>
      intro v1_4 v2_4 H locs ls hg hH hl
      rw [gC_sizeOf_L4] at hg
      refine lv_iload_n hx hb dX3_sizeOf_4 rfl (lv_at hl 2 rfl) ?_
      refine lv_bipush (v := (9 : Int32)) hx hb dX3_sizeOf_5 (by decide) ?_
      refine lv_icmp_ge (tgt := 27) hx hb dX3_sizeOf_7 (by decide) (fun c1 => ?_) (fun c1 => ?_)
      · replace hg := ob_t c1 hg
        exact kk_4 v1_4 H locs ls hg hH (lv_sub hl [1] rfl)
      · replace hg := ob_f c1 hg
        refine lv_iload_n hx hb dX3_sizeOf_10 rfl (lv_at hl 0 rfl) ?_
        refine lv_iload_n hx hb dX3_sizeOf_11 rfl (lv_at hl 2 rfl) ?_
        obtain ⟨q2, hc3, hg⟩ := ob_b hg
        refine ng_ci (ng_rS hx hb hml hown hts hK hH (As := [.int p1, .int v2_4]) (rest := []) (cC_holds l D cI cZ cA h hi p1 v2_4 σ q2 hc3 _) mw_146 mw_147 mw_2 mw_148 pdX3_holds.2 ⟨by rw [hR]; show _ ≤ _; simp only [nRm]; omega, by rw [hR]; show _ ≤ _; simp only [nRm]; omega⟩ hl.1 rfl (Nat.le_of_ble_eq_true rfl) dX3_sizeOf_12 ⟨Nat.zero_le _, Nat.zero_le _⟩) hH (fun H locs hH => ?_)
        refine lv_if_eq (tgt := 21) hx hb dX3_sizeOf_15 (by decide) (fun c4 => ?_) (fun c4 => ?_)
        · replace hg := ob_t c4 hg
          refine lv_iinc (v := (v2_4 + 1)) (lv' := [(2, .int (v2_4 + 1)), (0, .int p1), (1, .int v1_4)]) hx hb dX3_sizeOf_21 hl (k := 2) rfl rfl (by decide) rfl (fun ls hl => ?_)
          refine lv_goto (tgt := 4) hx hb dX3_sizeOf_24 (by decide) ?_
          exact ih_4 v1_4 (v2_4 + 1) H locs ls hg hH (lv_sub hl [1, 2, 0] rfl)
        · replace hg := ob_f c4 hg
          refine lv_iinc (v := (v1_4 + 1)) (lv' := [(1, .int (v1_4 + 1)), (0, .int p1), (2, .int v2_4)]) hx hb dX3_sizeOf_18 hl (k := 1) rfl rfl (by decide) rfl (fun ls hl => ?_)
          refine lv_iinc (v := (v2_4 + 1)) (lv' := [(2, .int (v2_4 + 1)), (1, .int (v1_4 + 1)), (0, .int p1)]) hx hb dX3_sizeOf_21 hl (k := 2) rfl rfl (by decide) rfl (fun ls hl => ?_)
          refine lv_goto (tgt := 4) hx hb dX3_sizeOf_24 (by decide) ?_
          exact ih_4 (v1_4 + 1) (v2_4 + 1) H locs ls hg hH (lv_sub hl [2, 1, 0] rfl)
  refine LP_4 _ ?_ _ _ _ _ _ _ hg hH (lv_sub hl [2, 1, 0] rfl)
  intro w1_4 H locs ls hg hH hl
  refine lv_iload_n hx hb dX3_sizeOf_27 rfl (lv_at hl 0 rfl) ?_
  subst hQ
  exact ng_iret hx hb hr hlk (Option.some.inj hg) rfl hH dX3_sizeOf_28
set_option maxHeartbeats 8000000 in
set_option maxRecDepth 100000 in
theorem cN_hangingPieces (l : Launch) (D : va_G) (cI cZ cA : ClassId) (h : Nat → Nat) (hi : nInj 48 h) (σ : nS) (q : Int32 × nS) (hg : gN_hangingPieces σ = some q) : nMi l yX1_hangingPieces cX1_hangingPieces 4 (some .int) 3 D cI cZ cA 48 (cfC cI cZ cA h) h [.ref (h 1)] σ q.1 q.2 := by
  unfold gN_hangingPieces at hg
  refine ng_body_i (by decide) hi (Nat.le_of_ble_eq_true rfl) ?_
  intro p e R s m args below meth c sz Q ls hx hb hml hr hlk hts hown hK hR hQ hl hH
  have hown : s.vm.findClass RX1 = some m.cls := hown
  have hl : lv_has ls 4 [(0, .ref (h 1))] := hl
  refine lv_aload_n hx hb dX1_hangingPieces_0 rfl (lv_at hl 0 rfl) ?_
  refine lv_iconst (v := (-1 : Int32)) hx hb dX1_hangingPieces_1 (by decide) ?_
  obtain ⟨q1, hc2, hg⟩ := ob_b hg
  refine ng_cv (ng_rV hx hb hml hown hts hK hH (As := [.int (-1 : Int32)]) (rest := []) 1 (cN_joinPosts l D cI cZ cA h hi (-1 : Int32) σ q1 hc2 _) (by decide) rfl rfl mw_445 mw_446 mw_447 mw_14 mw_448 pdX1_joinPosts ⟨by rw [hR]; show _ ≤ _; simp only [nRm]; omega, by rw [hR]; show _ ≤ _; simp only [nRm]; omega⟩ hl.1 rfl (Nat.le_of_ble_eq_true rfl) dX1_hangingPieces_2 ⟨Nat.zero_le _, Nat.zero_le _⟩) hH (fun H locs hH => ?_)
  refine lv_iconst (v := (0 : Int32)) hx hb dX1_hangingPieces_5 (by decide) ?_
  refine lv_istore_n (lv' := [(1, .int (0 : Int32)), (0, .ref (h 1))]) hx hb dX1_hangingPieces_6 rfl hl (by decide) rfl (fun ls hl => ?_)
  refine lv_iconst (v := (0 : Int32)) hx hb dX1_hangingPieces_7 (by decide) ?_
  refine lv_istore_n (lv' := [(2, .int (0 : Int32)), (1, .int (0 : Int32)), (0, .ref (h 1))]) hx hb dX1_hangingPieces_8 rfl hl (by decide) rfl (fun ls hl => ?_)
  refine lv_iconst (v := (0 : Int32)) hx hb dX1_hangingPieces_9 (by decide) ?_
  refine lv_istore_n (lv' := [(3, .int (0 : Int32)), (2, .int (0 : Int32)), (1, .int (0 : Int32)), (0, .ref (h 1))]) hx hb dX1_hangingPieces_10 rfl hl (by decide) rfl (fun ls hl => ?_)
  have LP_11 : ∀ (K_11 : Int32 → Option (Int32 × nS)) (kk_11 : ∀ (w1_11 : Int32) (H : Heap) (locs : List Loc) (ls : Array Slot), K_11 w1_11 = some q → nH D 48 (cfC cI cZ cA h) h (nAd 48 h sz) s.heap q1 H locs → lv_has ls 4 [(1, .int w1_11)] → W p l e R s m args below meth c H locs 0 0 Q (F0 m 45 ls [])) (n : Nat) (v1_11 v2_11 v3_11 : Int32) (H : Heap) (locs : List Loc) (ls : Array Slot), gN_hangingPieces_L11 q1 K_11 n v1_11 v2_11 v3_11 = some q → nH D 48 (cfC cI cZ cA h) h (nAd 48 h sz) s.heap q1 H locs → lv_has ls 4 [(0, .ref (h 1)), (1, .int v1_11), (2, .int v2_11), (3, .int v3_11)] → W p l e R s m args below meth c H locs 0 0 Q (F0 m 11 ls []) := by
    intro K_11 kk_11 n
    induction n with
    | zero => intro v1_11 v2_11 v3_11 H locs ls hg hH hl; rw [gN_hangingPieces_L11] at hg; exact ob_n hg
    | succ n ih_11 =>
      intro v1_11 v2_11 v3_11 H locs ls hg hH hl
      rw [gN_hangingPieces_L11] at hg
      refine lv_iload_n hx hb dX1_hangingPieces_11 rfl (lv_at hl 3 rfl) ?_
      refine lv_aload_n hx hb dX1_hangingPieces_12 rfl (lv_at hl 0 rfl) ?_
      refine ng_get hx hb hts hown hK hH 1 (by decide) rfl rfl inlX1 5 (by decide) mw_37 rfl dX1_hangingPieces_13 ?_
      refine lv_icmp_ge (tgt := 45) hx hb dX1_hangingPieces_16 (by decide) (fun c3 => ?_) (fun c3 => ?_)
      · replace hg := ob_t c3 hg
        exact kk_11 v1_11 H locs ls hg hH (lv_sub hl [1] rfl)
      · replace hg := ob_f c3 hg
        refine lv_iload_n hx hb dX1_hangingPieces_19 rfl (lv_at hl 2 rfl) ?_
        refine lv_iload_n hx hb dX1_hangingPieces_20 rfl (lv_at hl 3 rfl) ?_
        obtain ⟨q4, hc5, hg⟩ := ob_b hg
        refine ng_ci (ng_rSN (host := "NetCuts") hx hb hml hown hts hK hH (As := [.int v2_11, .int v3_11]) (rest := []) (cC_holds l D cI cZ cA h hi v2_11 v3_11 q1 q4 hc5 _) hK.2.2 mw_147 mw_2 mw_148 pdX3_holds.2 ⟨by rw [hR]; show _ ≤ _; simp only [nRm]; omega, by rw [hR]; show _ ≤ _; simp only [nRm]; omega⟩ hl.1 rfl (Nat.le_of_ble_eq_true rfl) dX1_hangingPieces_21 ⟨Nat.zero_le _, Nat.zero_le _⟩) hH (fun H locs hH => ?_)
        refine lv_if_ne (tgt := 39) hx hb dX1_hangingPieces_24 (by decide) (fun c6 => ?_) (fun c6 => ?_)
        · replace hg := ob_f c6 hg
          refine lv_iinc (v := (v3_11 + 1)) (lv' := [(3, .int (v3_11 + 1)), (0, .ref (h 1)), (1, .int v1_11), (2, .int v2_11)]) hx hb dX1_hangingPieces_39 hl (k := 3) rfl rfl (by decide) rfl (fun ls hl => ?_)
          refine lv_goto (tgt := 11) hx hb dX1_hangingPieces_42 (by decide) ?_
          exact ih_11 v1_11 v2_11 (v3_11 + 1) H locs ls hg hH (lv_sub hl [1, 2, 3, 0] rfl)
        · replace hg := ob_t c6 hg
          refine lv_iload_n hx hb dX1_hangingPieces_27 rfl (lv_at hl 2 rfl) ?_
          refine lv_aload_n hx hb dX1_hangingPieces_28 rfl (lv_at hl 0 rfl) ?_
          refine lv_iload_n hx hb dX1_hangingPieces_29 rfl (lv_at hl 3 rfl) ?_
          refine lv_iconst (v := (0 : Int32)) hx hb dX1_hangingPieces_30 (by decide) ?_
          obtain ⟨q7, hc8, hg⟩ := ob_b hg
          refine ng_ci (ng_rV hx hb hml hown hts hK hH (As := [.int v3_11, .int (0 : Int32)]) (rest := [.int v2_11]) 1 (cN_reach l D cI cZ cA h hi v3_11 (0 : Int32) q1 q7 hc8 _) (by decide) rfl rfl mw_453 mw_454 mw_455 mw_14 mw_456 pdX1_reach ⟨by rw [hR]; show _ ≤ _; simp only [nRm]; omega, by rw [hR]; show _ ≤ _; simp only [nRm]; omega⟩ hl.1 rfl (Nat.le_of_ble_eq_true rfl) dX1_hangingPieces_31 ⟨Nat.zero_le _, Nat.zero_le _⟩) hH (fun H locs hH => ?_)
          refine lv_ior hx hb dX1_hangingPieces_34 ?_
          refine lv_istore_n (lv' := [(2, .int (v2_11 ||| q7)), (0, .ref (h 1)), (1, .int v1_11), (3, .int v3_11)]) hx hb dX1_hangingPieces_35 rfl hl (by decide) rfl (fun ls hl => ?_)
          refine lv_iinc (v := (v1_11 + 1)) (lv' := [(1, .int (v1_11 + 1)), (2, .int (v2_11 ||| q7)), (0, .ref (h 1)), (3, .int v3_11)]) hx hb dX1_hangingPieces_36 hl (k := 2) rfl rfl (by decide) rfl (fun ls hl => ?_)
          refine lv_iinc (v := (v3_11 + 1)) (lv' := [(3, .int (v3_11 + 1)), (1, .int (v1_11 + 1)), (2, .int (v2_11 ||| q7)), (0, .ref (h 1))]) hx hb dX1_hangingPieces_39 hl (k := 3) rfl rfl (by decide) rfl (fun ls hl => ?_)
          refine lv_goto (tgt := 11) hx hb dX1_hangingPieces_42 (by decide) ?_
          exact ih_11 (v1_11 + 1) (v2_11 ||| q7) (v3_11 + 1) H locs ls hg hH (lv_sub hl [3, 1, 2, 0] rfl)
  refine LP_11 _ ?_ _ _ _ _ _ _ _ hg hH (lv_sub hl [3, 2, 1, 0] rfl)
  intro w1_11 H locs ls hg hH hl
  refine lv_iload_n hx hb dX1_hangingPieces_45 rfl (lv_at hl 0 rfl) ?_
  subst hQ
  exact ng_iret hx hb hr hlk (congrArg Prod.fst (Option.some.inj hg)) (congrArg Prod.snd (Option.some.inj hg)) hH dX1_hangingPieces_46
set_option maxHeartbeats 8000000 in
set_option maxRecDepth 100000 in
theorem cC_count (l : Launch) (D : va_G) (cI cZ cA : ClassId) (h : Nat → Nat) (hi : nInj 48 h) (p1 : Int32) (σ : nS) (q : Int32 × nS) (hg : gC_count p1 σ = some q) : nMi l yX3_count cX3_count 2 (some .int) 4 D cI cZ cA 48 (cfC cI cZ cA h) h [.ref (h 0), .int p1] σ q.1 q.2 := by
  unfold gC_count at hg
  refine ng_body_i (by decide) hi (Nat.le_of_ble_eq_true rfl) ?_
  intro p e R s m args below meth c sz Q ls hx hb hml hr hlk hts hown hK hR hQ hl hH
  have hown : s.vm.findClass RX3 = some m.cls := hown
  have hl : lv_has ls 2 [(0, .ref (h 0)), (1, .int p1)] := hl
  refine lv_iload_n hx hb dX3_count_0 rfl (lv_at hl 1 rfl) ?_
  by_cases c1 : p1 = 0
  · replace hg := ob_t c1 hg
    refine lv_tableIn (tgt := 36) hx hb dX3_count_1 (by rw [c1]; decide) (by rw [c1]; decide) (by rw [c1]; rfl) (by decide) ?_
    refine lv_aload_n hx hb dX3_count_36 rfl (lv_at hl 0 rfl) ?_
    refine ng_get hx hb hts hown hK hH 0 (by decide) rfl rfl inlX3 0 (by decide) mw_15 rfl dX3_count_37 ?_
    refine ng_get hx hb hts hown hK hH 1 (by decide) rfl rfl inlX1 5 (by decide) mw_191 rfl dX3_count_40 ?_
    subst hQ
    exact ng_iret hx hb hr hlk (congrArg Prod.fst (Option.some.inj hg)) (congrArg Prod.snd (Option.some.inj hg)) hH dX3_count_43
  · replace hg := ob_f c1 hg
    by_cases c2 : p1 = 1
    · replace hg := ob_t c2 hg
      refine lv_tableIn (tgt := 44) hx hb dX3_count_1 (by rw [c2]; decide) (by rw [c2]; decide) (by rw [c2]; rfl) (by decide) ?_
      refine lv_aload_n hx hb dX3_count_44 rfl (lv_at hl 0 rfl) ?_
      refine ng_get hx hb hts hown hK hH 0 (by decide) rfl rfl inlX3 0 (by decide) mw_15 rfl dX3_count_45 ?_
      obtain ⟨q3, hc4, hg⟩ := ob_b hg
      refine ng_ci (ng_rV hx hb hml hown hts hK hH (As := []) (rest := []) 1 (cN_linesLeft l D cI cZ cA h hi σ q3 hc4 _) (by decide) rfl rfl mw_510 mw_511 mw_512 mw_14 mw_513 pdX1_linesLeft ⟨by rw [hR]; show _ ≤ _; simp only [nRm]; omega, by rw [hR]; show _ ≤ _; simp only [nRm]; omega⟩ hl.1 rfl (Nat.le_of_ble_eq_true rfl) dX3_count_48 ⟨Nat.zero_le _, Nat.zero_le _⟩) hH (fun H locs hH => ?_)
      subst hQ
      exact ng_iret hx hb hr hlk (congrArg Prod.fst (Option.some.inj hg)) (congrArg Prod.snd (Option.some.inj hg)) hH dX3_count_51
    · replace hg := ob_f c2 hg
      by_cases c5 : p1 = 2
      · replace hg := ob_t c5 hg
        refine lv_tableIn (tgt := 52) hx hb dX3_count_1 (by rw [c5]; decide) (by rw [c5]; decide) (by rw [c5]; rfl) (by decide) ?_
        refine lv_aload_n hx hb dX3_count_52 rfl (lv_at hl 0 rfl) ?_
        refine ng_get hx hb hts hown hK hH 0 (by decide) rfl rfl inlX3 5 (by decide) mw_27 rfl dX3_count_53 ?_
        obtain ⟨q6, hc7, hg⟩ := ob_b hg
        refine ng_ci (ng_rS hx hb hml hown hts hK hH (As := [.int (σ 0 5)]) (rest := []) (cC_sizeOf l D cI cZ cA h hi (σ 0 5) σ q6 hc7 _) mw_514 mw_515 mw_2 mw_516 pdX3_sizeOf.2 ⟨by rw [hR]; show _ ≤ _; simp only [nRm]; omega, by rw [hR]; show _ ≤ _; simp only [nRm]; omega⟩ hl.1 rfl (Nat.le_of_ble_eq_true rfl) dX3_count_56 ⟨Nat.zero_le _, Nat.zero_le _⟩) hH (fun H locs hH => ?_)
        subst hQ
        exact ng_iret hx hb hr hlk (congrArg Prod.fst (Option.some.inj hg)) (congrArg Prod.snd (Option.some.inj hg)) hH dX3_count_59
      · replace hg := ob_f c5 hg
        by_cases c8 : p1 = 3
        · replace hg := ob_t c8 hg
          refine lv_tableIn (tgt := 60) hx hb dX3_count_1 (by rw [c8]; decide) (by rw [c8]; decide) (by rw [c8]; rfl) (by decide) ?_
          refine lv_aload_n hx hb dX3_count_60 rfl (lv_at hl 0 rfl) ?_
          refine ng_get hx hb hts hown hK hH 0 (by decide) rfl rfl inlX3 4 (by decide) mw_26 rfl dX3_count_61 ?_
          subst hQ
          exact ng_iret hx hb hr hlk (congrArg Prod.fst (Option.some.inj hg)) (congrArg Prod.snd (Option.some.inj hg)) hH dX3_count_64
        · replace hg := ob_f c8 hg
          by_cases c9 : p1 = 4
          · replace hg := ob_t c9 hg
            refine lv_tableIn (tgt := 65) hx hb dX3_count_1 (by rw [c9]; decide) (by rw [c9]; decide) (by rw [c9]; rfl) (by decide) ?_
            refine lv_aload_n hx hb dX3_count_65 rfl (lv_at hl 0 rfl) ?_
            refine ng_get hx hb hts hown hK hH 0 (by decide) rfl rfl inlX3 0 (by decide) mw_15 rfl dX3_count_66 ?_
            obtain ⟨q10, hc11, hg⟩ := ob_b hg
            refine ng_ci (ng_rV hx hb hml hown hts hK hH (As := []) (rest := []) 1 (cN_hangingPieces l D cI cZ cA h hi σ q10 hc11 _) (by decide) rfl rfl mw_517 mw_518 mw_519 mw_14 mw_520 pdX1_hangingPieces ⟨by rw [hR]; show _ ≤ _; simp only [nRm]; omega, by rw [hR]; show _ ≤ _; simp only [nRm]; omega⟩ hl.1 rfl (Nat.le_of_ble_eq_true rfl) dX3_count_69 ⟨Nat.zero_le _, Nat.zero_le _⟩) hH (fun H locs hH => ?_)
            subst hQ
            exact ng_iret hx hb hr hlk (congrArg Prod.fst (Option.some.inj hg)) (congrArg Prod.snd (Option.some.inj hg)) hH dX3_count_72
          · replace hg := ob_f c9 hg
            refine lv_tableOut (tgt := 73) hx hb dX3_count_1 (by have c1z := ng_table (n := 0) rfl c1; have c2z := ng_table (n := 1) rfl c2; have c5z := ng_table (n := 2) rfl c5; have c8z := ng_table (n := 3) rfl c8; have c9z := ng_table (n := 4) rfl c9; omega) (by decide) ?_
            refine lv_iconst (v := (-1 : Int32)) hx hb dX3_count_73 (by decide) ?_
            subst hQ
            exact ng_iret hx hb hr hlk (congrArg Prod.fst (Option.some.inj hg)) (congrArg Prod.snd (Option.some.inj hg)) hH dX3_count_74
set_option maxHeartbeats 8000000 in
set_option maxRecDepth 100000 in
theorem cM_in (l : Launch) (D : va_G) (cI cZ cA : ClassId) (h : Nat → Nat) (hi : nInj 14 h) (p1 p2 p3 : Int32) (σ : nS) (q : Int32) (hg : gM_in p1 p2 p3 σ = some q) : nMi l yX4_in cX4_in 3 (some .boolean) 1 D cI cZ cA 14 (cfM cI cZ h) h [.int p1, .int p2, .int p3] σ q σ := by
  unfold gM_in at hg
  refine ng_body_i (by decide) hi (Nat.le_of_ble_eq_true rfl) ?_
  intro p e R s m args below meth c sz Q ls hx hb hml hr hlk hts hown hK hR hQ hl hH
  have hown : s.vm.findClass RX4 = some m.cls := hown
  have hl : lv_has ls 3 [(0, .int p1), (1, .int p2), (2, .int p3)] := hl
  refine lv_iload_n hx hb dX4_in_0 rfl (lv_at hl 0 rfl) ?_
  refine lv_iload_n hx hb dX4_in_1 rfl (lv_at hl 1 rfl) ?_
  refine lv_icmp_lt (tgt := 14) hx hb dX4_in_2 (by decide) (fun c1 => ?_) (fun c1 => ?_)
  · replace hg := ob_t c1 hg
    refine lv_iconst (v := (0 : Int32)) hx hb dX4_in_14 (by decide) ?_
    subst hQ
    exact ng_zret hx hb hr hlk (by decide) (Option.some.inj hg) rfl hH dX4_in_15
  · replace hg := ob_f c1 hg
    refine lv_iload_n hx hb dX4_in_5 rfl (lv_at hl 0 rfl) ?_
    refine lv_iload_n hx hb dX4_in_6 rfl (lv_at hl 2 rfl) ?_
    refine lv_icmp_gt (tgt := 14) hx hb dX4_in_7 (by decide) (fun c2 => ?_) (fun c2 => ?_)
    · replace hg := ob_t c2 hg
      refine lv_iconst (v := (0 : Int32)) hx hb dX4_in_14 (by decide) ?_
      subst hQ
      exact ng_zret hx hb hr hlk (by decide) (Option.some.inj hg) rfl hH dX4_in_15
    · replace hg := ob_f c2 hg
      refine lv_iconst (v := (1 : Int32)) hx hb dX4_in_10 (by decide) ?_
      refine lv_goto (tgt := 15) hx hb dX4_in_11 (by decide) ?_
      subst hQ
      exact ng_zret hx hb hr hlk (by decide) (Option.some.inj hg) rfl hH dX4_in_15
