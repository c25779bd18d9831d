set_option maxHeartbeats 8000000 in
set_option maxRecDepth 100000 in
theorem cC_terminals (l : Launch) (D : va_G) (cI cZ cA : ClassId) (h : Nat → Nat) (hi : nInj 48 h) (σ : nS) (q : Int32 × nS) (hg : gC_terminals σ = some q) : nMi l yX3_terminals cX3_terminals 1 (some .int) 16 D cI cZ cA 48 (cfC cI cZ cA h) h [.ref (h 0)] σ q.1 q.2 := by
  unfold gC_terminals at hg
  refine ng_body_i (by decide) hi (Nat.le_of_ble_eq_true rfl) ?_
  intro p e R s m args below meth c sz Q ls hx hb hml hr hlk hts hown hK hR hQ hl hH
  have hown : s.vm.findClass RX3 = some m.cls := hown
  have hl : lv_has ls 1 [(0, .ref (h 0))] := hl
  refine lv_aload_n hx hb dX3_terminals_0 rfl (lv_at hl 0 rfl) ?_
  obtain ⟨q1, hc2, hg⟩ := ob_b hg
  refine ng_ci (ng_rV hx hb hml hown hts hK hH (As := []) (rest := []) 0 (cC_findTerminals l D cI cZ cA h hi σ q1 hc2 _) (by decide) rfl rfl mw_295 mw_296 mw_297 mw_2 mw_298 pdX3_findTerminals ⟨by rw [hR]; show _ ≤ _; simp only [nRm]; omega, by rw [hR]; show _ ≤ _; simp only [nRm]; omega⟩ hl.1 rfl (Nat.le_of_ble_eq_true rfl) dX3_terminals_1 ⟨Nat.zero_le _, Nat.zero_le _⟩) hH (fun H locs hH => ?_)
  refine lv_if_eq (tgt := 17) hx hb dX3_terminals_4 (by decide) (fun c3 => ?_) (fun c3 => ?_)
  · replace hg := ob_t c3 hg
    refine lv_iconst (v := (-1 : Int32)) hx hb dX3_terminals_17 (by decide) ?_
    subst hQ
    exact ng_iret hx hb hr hlk (congrArg Prod.fst (Option.some.inj hg)) (congrArg Prod.snd (Option.some.inj hg)) hH dX3_terminals_18
  · replace hg := ob_f c3 hg
    refine lv_aload_n hx hb dX3_terminals_7 rfl (lv_at hl 0 rfl) ?_
    refine ng_get hx hb hts hown hK hH 0 (by decide) rfl rfl inlX3 1 (by decide) mw_19 rfl dX3_terminals_8 ?_
    obtain ⟨q4, hc5, hg⟩ := ob_b hg
    refine ng_ci (ng_rV hx hb hml hown hts hK hH (As := []) (rest := []) 9 (cS_leastCost l D cI cZ cA h hi q1.2 q4 hc5 _) (by decide) rfl rfl mw_239 mw_240 mw_241 mw_18 mw_242 pdX2_leastCost ⟨by rw [hR]; show _ ≤ _; simp only [nRm]; omega, by rw [hR]; show _ ≤ _; simp only [nRm]; omega⟩ hl.1 rfl (Nat.le_of_ble_eq_true rfl) dX3_terminals_11 ⟨Nat.zero_le _, Nat.zero_le _⟩) hH (fun H locs hH => ?_)
    refine lv_goto (tgt := 18) hx hb dX3_terminals_14 (by decide) ?_
    subst hQ
    exact ng_iret hx hb hr hlk (congrArg Prod.fst (Option.some.inj hg)) (congrArg Prod.snd (Option.some.inj hg)) hH dX3_terminals_18
set_option maxHeartbeats 8000000 in
set_option maxRecDepth 100000 in
theorem cC_terminalPart (l : Launch) (D : va_G) (cI cZ cA : ClassId) (h : Nat → Nat) (hi : nInj 48 h) (p1 : Int32) (σ : nS) (q : Int32 × nS) (hg : gC_terminalPart p1 σ = some q) : nMi l yX3_terminalPart cX3_terminalPart 2 (some .int) 16 D cI cZ cA 48 (cfC cI cZ cA h) h [.ref (h 0), .int p1] σ q.1 q.2 := by
  unfold gC_terminalPart at hg
  refine ng_body_i (by decide) hi (Nat.le_of_ble_eq_true rfl) ?_
  intro p e R s m args below meth c sz Q ls hx hb hml hr hlk hts hown hK hR hQ hl hH
  have hown : s.vm.findClass RX3 = some m.cls := hown
  have hl : lv_has ls 2 [(0, .ref (h 0)), (1, .int p1)] := hl
  refine lv_aload_n hx hb dX3_terminalPart_0 rfl (lv_at hl 0 rfl) ?_
  refine ng_get hx hb hts hown hK hH 0 (by decide) rfl rfl inlX3 0 (by decide) mw_15 rfl dX3_terminalPart_1 ?_
  refine lv_iload_n hx hb dX3_terminalPart_4 rfl (lv_at hl 1 rfl) ?_
  obtain ⟨q1, hc2, hg⟩ := ob_b hg
  refine ng_ci (ng_rV hx hb hml hown hts hK hH (As := [.int p1]) (rest := []) 1 (cN_hasPost l D cI cZ cA h hi p1 σ q1 hc2 _) (by decide) rfl rfl mw_145 mw_109 mw_110 mw_14 mw_111 pdX1_hasPost ⟨by rw [hR]; show _ ≤ _; simp only [nRm]; omega, by rw [hR]; show _ ≤ _; simp only [nRm]; omega⟩ hl.1 rfl (Nat.le_of_ble_eq_true rfl) dX3_terminalPart_5 ⟨Nat.zero_le _, Nat.zero_le _⟩) hH (fun H locs hH => ?_)
  refine lv_if_eq (tgt := 29) hx hb dX3_terminalPart_8 (by decide) (fun c3 => ?_) (fun c3 => ?_)
  · replace hg := ob_t c3 hg
    refine lv_iconst (v := (-1 : Int32)) hx hb dX3_terminalPart_29 (by decide) ?_
    subst hQ
    exact ng_iret hx hb hr hlk (congrArg Prod.fst (Option.some.inj hg)) (congrArg Prod.snd (Option.some.inj hg)) hH dX3_terminalPart_30
  · replace hg := ob_f c3 hg
    refine lv_aload_n hx hb dX3_terminalPart_11 rfl (lv_at hl 0 rfl) ?_
    obtain ⟨q4, hc5, hg⟩ := ob_b hg
    refine ng_ci (ng_rV hx hb hml hown hts hK hH (As := []) (rest := []) 0 (cC_findTerminals l D cI cZ cA h hi σ q4 hc5 _) (by decide) rfl rfl mw_295 mw_296 mw_297 mw_2 mw_298 pdX3_findTerminals ⟨by rw [hR]; show _ ≤ _; simp only [nRm]; omega, by rw [hR]; show _ ≤ _; simp only [nRm]; omega⟩ hl.1 rfl (Nat.le_of_ble_eq_true rfl) dX3_terminalPart_12 ⟨Nat.zero_le _, Nat.zero_le _⟩) hH (fun H locs hH => ?_)
    refine lv_if_eq (tgt := 29) hx hb dX3_terminalPart_15 (by decide) (fun c6 => ?_) (fun c6 => ?_)
    · replace hg := ob_t c6 hg
      refine lv_iconst (v := (-1 : Int32)) hx hb dX3_terminalPart_29 (by decide) ?_
      subst hQ
      exact ng_iret hx hb hr hlk (congrArg Prod.fst (Option.some.inj hg)) (congrArg Prod.snd (Option.some.inj hg)) hH dX3_terminalPart_30
    · replace hg := ob_f c6 hg
      refine lv_aload_n hx hb dX3_terminalPart_18 rfl (lv_at hl 0 rfl) ?_
      refine ng_get hx hb hts hown hK hH 0 (by decide) rfl rfl inlX3 1 (by decide) mw_19 rfl dX3_terminalPart_19 ?_
      refine lv_iload_n hx hb dX3_terminalPart_22 rfl (lv_at hl 1 rfl) ?_
      obtain ⟨q7, hc8, hg⟩ := ob_b hg
      refine ng_ci (ng_rV hx hb hml hown hts hK hH (As := [.int p1]) (rest := []) 9 (cS_partOf l D cI cZ cA h hi p1 q4.2 q7 hc8 _) (by decide) rfl rfl mw_283 mw_284 mw_285 mw_18 mw_286 pdX2_partOf ⟨by rw [hR]; show _ ≤ _; simp only [nRm]; omega, by rw [hR]; show _ ≤ _; simp only [nRm]; omega⟩ hl.1 rfl (Nat.le_of_ble_eq_true rfl) dX3_terminalPart_23 ⟨Nat.zero_le _, Nat.zero_le _⟩) hH (fun H locs hH => ?_)
      refine lv_goto (tgt := 30) hx hb dX3_terminalPart_26 (by decide) ?_
      subst hQ
      exact ng_iret hx hb hr hlk (congrArg Prod.fst (Option.some.inj hg)) (congrArg Prod.snd (Option.some.inj hg)) hH dX3_terminalPart_30
set_option maxHeartbeats 8000000 in
set_option maxRecDepth 100000 in
theorem cC_preparePairs (l : Launch) (D : va_G) (cI cZ cA : ClassId) (h : Nat → Nat) (hi : nInj 48 h) (σ : nS) (q : nS) (hg : gC_preparePairs σ = some q) : nMv l yX3_preparePairs cX3_preparePairs 2 none 3 D cI cZ cA 48 (cfC cI cZ cA h) h [.ref (h 0)] σ q := by
  unfold gC_preparePairs at hg
  refine ng_body_v (by decide) hi (Nat.le_of_ble_eq_true rfl) ?_
  intro p e R s m args below meth c sz Q ls hx hb hml hr hlk hts hown hK hR hQ hl hH
  have hown : s.vm.findClass RX3 = some m.cls := hown
  have hl : lv_has ls 2 [(0, .ref (h 0))] := hl
  refine lv_aload_n hx hb dX3_preparePairs_0 rfl (lv_at hl 0 rfl) ?_
  obtain ⟨q1, hc2, hg⟩ := ob_b hg
  refine ng_cv (ng_rV hx hb hml hown hts hK hH (As := []) (rest := []) 0 (cC_prepareSums l D cI cZ cA h hi σ q1 hc2 _) (by decide) rfl rfl mw_187 mw_188 mw_189 mw_2 mw_190 pdX3_prepareSums ⟨by rw [hR]; show _ ≤ _; simp only [nRm]; omega, by rw [hR]; show _ ≤ _; simp only [nRm]; omega⟩ hl.1 rfl (Nat.le_of_ble_eq_true rfl) dX3_preparePairs_1 ⟨Nat.zero_le _, Nat.zero_le _⟩) hH (fun H locs hH => ?_)
  refine lv_iconst (v := (0 : Int32)) hx hb dX3_preparePairs_4 (by decide) ?_
  refine lv_istore_n (lv' := [(1, .int (0 : Int32)), (0, .ref (h 0))]) hx hb dX3_preparePairs_5 rfl hl (by decide) rfl (fun ls hl => ?_)
  have LP_6 : ∀ (K_6 : nS → Option nS) (kk_6 : ∀ (σe_6 : nS) (H : Heap) (locs : List Loc) (ls : Array Slot), K_6 σe_6 = some q → nH D 48 (cfC cI cZ cA h) h (nAd 48 h sz) s.heap σe_6 H locs → lv_has ls 2 [] → W p l e R s m args below meth c H locs 0 0 Q (F0 m 37 ls [])) (n : Nat) (v1_6 : Int32) (σl_6 : nS) (H : Heap) (locs : List Loc) (ls : Array Slot), gC_preparePairs_L6 K_6 n v1_6 σl_6 = some q → nH D 48 (cfC cI cZ cA h) h (nAd 48 h sz) s.heap σl_6 H locs → lv_has ls 2 [(0, .ref (h 0)), (1, .int v1_6)] → W p l e R s m args below meth c H locs 0 0 Q (F0 m 6 ls []) := by
    intro K_6 kk_6 n
    induction n with
    | zero => intro v1_6 σl_6 H locs ls hg hH hl; rw [gC_preparePairs_L6] at hg; exact ob_n hg
    | succ n ih_6 =>
      intro v1_6 σl_6 H locs ls hg hH hl
      rw [gC_preparePairs_L6] at hg
      refine lv_iload_n hx hb dX3_preparePairs_6 rfl (lv_at hl 1 rfl) ?_
      refine lv_aload_n hx hb dX3_preparePairs_7 rfl (lv_at hl 0 rfl) ?_
      refine ng_get hx hb hts hown hK hH 0 (by decide) rfl rfl inlX3 0 (by decide) mw_15 rfl dX3_preparePairs_8 ?_
      refine ng_get hx hb hts hown hK hH 1 (by decide) rfl rfl inlX1 5 (by decide) mw_191 rfl dX3_preparePairs_11 ?_
      refine lv_icmp_ge (tgt := 37) hx hb dX3_preparePairs_14 (by decide) (fun c3 => ?_) (fun c3 => ?_)
      · replace hg := ob_t c3 hg
        exact kk_6 σl_6 H locs ls hg hH (lv_sub hl [] rfl)
      · replace hg := ob_f c3 hg
        refine lv_aload_n hx hb dX3_preparePairs_17 rfl (lv_at hl 0 rfl) ?_
        refine ng_get hx hb hts hown hK hH 0 (by decide) rfl rfl inlX3 1 (by decide) mw_19 rfl dX3_preparePairs_18 ?_
        refine lv_iload_n hx hb dX3_preparePairs_21 rfl (lv_at hl 1 rfl) ?_
        refine lv_aload_n hx hb dX3_preparePairs_22 rfl (lv_at hl 0 rfl) ?_
        refine ng_get hx hb hts hown hK hH 0 (by decide) rfl rfl inlX3 3 (by decide) mw_25 rfl dX3_preparePairs_23 ?_
        refine lv_iload_n hx hb dX3_preparePairs_26 rfl (lv_at hl 1 rfl) ?_
        obtain ⟨hb4, hg⟩ := ob_i hg
        refine ng_iald hx hb hK hH 47 (by decide) (fun _ => rfl) hb4 dX3_preparePairs_27 ?_
        obtain ⟨q5, hc6, hg⟩ := ob_b hg
        refine ng_cv (ng_rV hx hb hml hown hts hK hH (As := [.int v1_6, .int (σl_6 47 v1_6.toNatClampNeg)]) (rest := []) 9 (cS_keepApartFrom l D cI cZ cA h hi v1_6 (σl_6 47 v1_6.toNatClampNeg) σl_6 q5 hc6 _) (by decide) rfl rfl mw_299 mw_217 mw_218 mw_18 mw_219 pdX2_keepApartFrom ⟨by rw [hR]; show _ ≤ _; simp only [nRm]; omega, by rw [hR]; show _ ≤ _; simp only [nRm]; omega⟩ hl.1 rfl (Nat.le_of_ble_eq_true rfl) dX3_preparePairs_28 ⟨Nat.zero_le _, Nat.zero_le _⟩) hH (fun H locs hH => ?_)
        refine lv_iinc (v := (v1_6 + 1)) (lv' := [(1, .int (v1_6 + 1)), (0, .ref (h 0))]) hx hb dX3_preparePairs_31 hl (k := 1) rfl rfl (by decide) rfl (fun ls hl => ?_)
        refine lv_goto (tgt := 6) hx hb dX3_preparePairs_34 (by decide) ?_
        exact ih_6 (v1_6 + 1) q5 H locs ls hg hH (lv_sub hl [1, 0] rfl)
  refine LP_6 _ ?_ _ _ _ _ _ _ hg hH (lv_sub hl [1, 0] rfl)
  intro σe_6 H locs ls hg hH hl
  subst hQ
  exact ng_vret hx hb hr hlk (Option.some.inj hg) hH dX3_preparePairs_37
set_option maxHeartbeats 8000000 in
set_option maxRecDepth 100000 in
theorem cC_findApart (l : Launch) (D : va_G) (cI cZ cA : ClassId) (h : Nat → Nat) (hi : nInj 48 h) (σ : nS) (q : Int32 × nS) (hg : gC_findApart σ = some q) : nMi l yX3_findApart cX3_findApart 1 (some .boolean) 15 D cI cZ cA 48 (cfC cI cZ cA h) h [.ref (h 0)] σ q.1 q.2 := by
  unfold gC_findApart at hg
  refine ng_body_i (by decide) hi (Nat.le_of_ble_eq_true rfl) ?_
  intro p e R s m args below meth c sz Q ls hx hb hml hr hlk hts hown hK hR hQ hl hH
  have hown : s.vm.findClass RX3 = some m.cls := hown
  have hl : lv_has ls 1 [(0, .ref (h 0))] := hl
  refine lv_aload_n hx hb dX3_findApart_0 rfl (lv_at hl 0 rfl) ?_
  refine ng_get hx hb hts hown hK hH 0 (by decide) rfl rfl inlX3 0 (by decide) mw_15 rfl dX3_findApart_1 ?_
  refine ng_get hx hb hts hown hK hH 1 (by decide) rfl rfl inlX1 5 (by decide) mw_191 rfl dX3_findApart_4 ?_
  refine lv_if_ne (tgt := 12) hx hb dX3_findApart_7 (by decide) (fun c1 => ?_) (fun c1 => ?_)
  · replace hg := ob_f c1 hg
    refine lv_aload_n hx hb dX3_findApart_12 rfl (lv_at hl 0 rfl) ?_
    obtain ⟨q2, hc3, hg⟩ := ob_b hg
    refine ng_cv (ng_rV hx hb hml hown hts hK hH (As := []) (rest := []) 0 (cC_preparePairs l D cI cZ cA h hi σ q2 hc3 _) (by decide) rfl rfl mw_328 mw_329 mw_330 mw_2 mw_331 pdX3_preparePairs ⟨by rw [hR]; show _ ≤ _; simp only [nRm]; omega, by rw [hR]; show _ ≤ _; simp only [nRm]; omega⟩ hl.1 rfl (Nat.le_of_ble_eq_true rfl) dX3_findApart_13 ⟨Nat.zero_le _, Nat.zero_le _⟩) hH (fun H locs hH => ?_)
    refine lv_aload_n hx hb dX3_findApart_16 rfl (lv_at hl 0 rfl) ?_
    refine ng_get hx hb hts hown hK hH 0 (by decide) rfl rfl inlX3 1 (by decide) mw_19 rfl dX3_findApart_17 ?_
    obtain ⟨q4, hc5, hg⟩ := ob_b hg
    refine ng_cv (ng_rV hx hb hml hown hts hK hH (As := []) (rest := []) 9 (cS_run l D cI cZ cA h hi q2 q4 hc5 _) (by decide) rfl rfl mw_220 mw_221 mw_222 mw_18 mw_223 pdX2_run ⟨by rw [hR]; show _ ≤ _; simp only [nRm]; omega, by rw [hR]; show _ ≤ _; simp only [nRm]; omega⟩ hl.1 rfl (Nat.le_of_ble_eq_true rfl) dX3_findApart_20 ⟨Nat.zero_le _, Nat.zero_le _⟩) hH (fun H locs hH => ?_)
    refine lv_iconst (v := (1 : Int32)) hx hb dX3_findApart_23 (by decide) ?_
    subst hQ
    exact ng_zret hx hb hr hlk (by decide) (congrArg Prod.fst (Option.some.inj hg)) (congrArg Prod.snd (Option.some.inj hg)) hH dX3_findApart_24
  · replace hg := ob_t c1 hg
    refine lv_iconst (v := (0 : Int32)) hx hb dX3_findApart_10 (by decide) ?_
    subst hQ
    exact ng_zret hx hb hr hlk (by decide) (congrArg Prod.fst (Option.some.inj hg)) (congrArg Prod.snd (Option.some.inj hg)) hH dX3_findApart_11
set_option maxHeartbeats 8000000 in
set_option maxRecDepth 100000 in
theorem cC_apart (l : Launch) (D : va_G) (cI cZ cA : ClassId) (h : Nat → Nat) (hi : nInj 48 h) (σ : nS) (q : Int32 × nS) (hg : gC_apart σ = some q) : nMi l yX3_apart cX3_apart 1 (some .int) 16 D cI cZ cA 48 (cfC cI cZ cA h) h [.ref (h 0)] σ q.1 q.2 := by
  unfold gC_apart at hg
  refine ng_body_i (by decide) hi (Nat.le_of_ble_eq_true rfl) ?_
  intro p e R s m args below meth c sz Q ls hx hb hml hr hlk hts hown hK hR hQ hl hH
  have hown : s.vm.findClass RX3 = some m.cls := hown
  have hl : lv_has ls 1 [(0, .ref (h 0))] := hl
  refine lv_aload_n hx hb dX3_apart_0 rfl (lv_at hl 0 rfl) ?_
  obtain ⟨q1, hc2, hg⟩ := ob_b hg
  refine ng_ci (ng_rV hx hb hml hown hts hK hH (As := []) (rest := []) 0 (cC_findApart l D cI cZ cA h hi σ q1 hc2 _) (by decide) rfl rfl mw_324 mw_325 mw_326 mw_2 mw_327 pdX3_findApart ⟨by rw [hR]; show _ ≤ _; simp only [nRm]; omega, by rw [hR]; show _ ≤ _; simp only [nRm]; omega⟩ hl.1 rfl (Nat.le_of_ble_eq_true rfl) dX3_apart_1 ⟨Nat.zero_le _, Nat.zero_le _⟩) hH (fun H locs hH => ?_)
  refine lv_if_eq (tgt := 17) hx hb dX3_apart_4 (by decide) (fun c3 => ?_) (fun c3 => ?_)
  · replace hg := ob_t c3 hg
    refine lv_iconst (v := (-1 : Int32)) hx hb dX3_apart_17 (by decide) ?_
    subst hQ
    exact ng_iret hx hb hr hlk (congrArg Prod.fst (Option.some.inj hg)) (congrArg Prod.snd (Option.some.inj hg)) hH dX3_apart_18
  · replace hg := ob_f c3 hg
    refine lv_aload_n hx hb dX3_apart_7 rfl (lv_at hl 0 rfl) ?_
    refine ng_get hx hb hts hown hK hH 0 (by decide) rfl rfl inlX3 1 (by decide) mw_19 rfl dX3_apart_8 ?_
    obtain ⟨q4, hc5, hg⟩ := ob_b hg
    refine ng_ci (ng_rV hx hb hml hown hts hK hH (As := []) (rest := []) 9 (cS_leastCost l D cI cZ cA h hi q1.2 q4 hc5 _) (by decide) rfl rfl mw_239 mw_240 mw_241 mw_18 mw_242 pdX2_leastCost ⟨by rw [hR]; show _ ≤ _; simp only [nRm]; omega, by rw [hR]; show _ ≤ _; simp only [nRm]; omega⟩ hl.1 rfl (Nat.le_of_ble_eq_true rfl) dX3_apart_11 ⟨Nat.zero_le _, Nat.zero_le _⟩) hH (fun H locs hH => ?_)
    refine lv_goto (tgt := 18) hx hb dX3_apart_14 (by decide) ?_
    subst hQ
    exact ng_iret hx hb hr hlk (congrArg Prod.fst (Option.some.inj hg)) (congrArg Prod.snd (Option.some.inj hg)) hH dX3_apart_18
set_option maxHeartbeats 8000000 in
set_option maxRecDepth 100000 in
theorem cC_apartPart (l : Launch) (D : va_G) (cI cZ cA : ClassId) (h : Nat → Nat) (hi : nInj 48 h) (p1 : Int32) (σ : nS) (q : Int32 × nS) (hg : gC_apartPart p1 σ = some q) : nMi l yX3_apartPart cX3_apartPart 2 (some .int) 16 D cI cZ cA 48 (cfC cI cZ cA h) h [.ref (h 0), .int p1] σ q.1 q.2 := by
  unfold gC_apartPart at hg
  refine ng_body_i (by decide) hi (Nat.le_of_ble_eq_true rfl) ?_
  intro p e R s m args below meth c sz Q ls hx hb hml hr hlk hts hown hK hR hQ hl hH
  have hown : s.vm.findClass RX3 = some m.cls := hown
  have hl : lv_has ls 2 [(0, .ref (h 0)), (1, .int p1)] := hl
  refine lv_aload_n hx hb dX3_apartPart_0 rfl (lv_at hl 0 rfl) ?_
  refine ng_get hx hb hts hown hK hH 0 (by decide) rfl rfl inlX3 0 (by decide) mw_15 rfl dX3_apartPart_1 ?_
  refine lv_iload_n hx hb dX3_apartPart_4 rfl (lv_at hl 1 rfl) ?_
  obtain ⟨q1, hc2, hg⟩ := ob_b hg
  refine ng_ci (ng_rV hx hb hml hown hts hK hH (As := [.int p1]) (rest := []) 1 (cN_hasPost l D cI cZ cA h hi p1 σ q1 hc2 _) (by decide) rfl rfl mw_145 mw_109 mw_110 mw_14 mw_111 pdX1_hasPost ⟨by rw [hR]; show _ ≤ _; simp only [nRm]; omega, by rw [hR]; show _ ≤ _; simp only [nRm]; omega⟩ hl.1 rfl (Nat.le_of_ble_eq_true rfl) dX3_apartPart_5 ⟨Nat.zero_le _, Nat.zero_le _⟩) hH (fun H locs hH => ?_)
  refine lv_if_eq (tgt := 29) hx hb dX3_apartPart_8 (by decide) (fun c3 => ?_) (fun c3 => ?_)
  · replace hg := ob_t c3 hg
    refine lv_iconst (v := (-1 : Int32)) hx hb dX3_apartPart_29 (by decide) ?_
    subst hQ
    exact ng_iret hx hb hr hlk (congrArg Prod.fst (Option.some.inj hg)) (congrArg Prod.snd (Option.some.inj hg)) hH dX3_apartPart_30
  · replace hg := ob_f c3 hg
    refine lv_aload_n hx hb dX3_apartPart_11 rfl (lv_at hl 0 rfl) ?_
    obtain ⟨q4, hc5, hg⟩ := ob_b hg
    refine ng_ci (ng_rV hx hb hml hown hts hK hH (As := []) (rest := []) 0 (cC_findApart l D cI cZ cA h hi σ q4 hc5 _) (by decide) rfl rfl mw_324 mw_325 mw_326 mw_2 mw_327 pdX3_findApart ⟨by rw [hR]; show _ ≤ _; simp only [nRm]; omega, by rw [hR]; show _ ≤ _; simp only [nRm]; omega⟩ hl.1 rfl (Nat.le_of_ble_eq_true rfl) dX3_apartPart_12 ⟨Nat.zero_le _, Nat.zero_le _⟩) hH (fun H locs hH => ?_)
    refine lv_if_eq (tgt := 29) hx hb dX3_apartPart_15 (by decide) (fun c6 => ?_) (fun c6 => ?_)
    · replace hg := ob_t c6 hg
      refine lv_iconst (v := (-1 : Int32)) hx hb dX3_apartPart_29 (by decide) ?_
      subst hQ
      exact ng_iret hx hb hr hlk (congrArg Prod.fst (Option.some.inj hg)) (congrArg Prod.snd (Option.some.inj hg)) hH dX3_apartPart_30
    · replace hg := ob_f c6 hg
      refine lv_aload_n hx hb dX3_apartPart_18 rfl (lv_at hl 0 rfl) ?_
      refine ng_get hx hb hts hown hK hH 0 (by decide) rfl rfl inlX3 1 (by decide) mw_19 rfl dX3_apartPart_19 ?_
      refine lv_iload_n hx hb dX3_apartPart_22 rfl (lv_at hl 1 rfl) ?_
      obtain ⟨q7, hc8, hg⟩ := ob_b hg
      refine ng_ci (ng_rV hx hb hml hown hts hK hH (As := [.int p1]) (rest := []) 9 (cS_partOf l D cI cZ cA h hi p1 q4.2 q7 hc8 _) (by decide) rfl rfl mw_283 mw_284 mw_285 mw_18 mw_286 pdX2_partOf ⟨by rw [hR]; show _ ≤ _; simp only [nRm]; omega, by rw [hR]; show _ ≤ _; simp only [nRm]; omega⟩ hl.1 rfl (Nat.le_of_ble_eq_true rfl) dX3_apartPart_23 ⟨Nat.zero_le _, Nat.zero_le _⟩) hH (fun H locs hH => ?_)
      refine lv_goto (tgt := 30) hx hb dX3_apartPart_26 (by decide) ?_
      subst hQ
      exact ng_iret hx hb hr hlk (congrArg Prod.fst (Option.some.inj hg)) (congrArg Prod.snd (Option.some.inj hg)) hH dX3_apartPart_30
set_option maxHeartbeats 8000000 in
set_option maxRecDepth 100000 in
theorem cS_keepTogether (l : Launch) (D : va_G) (cI cZ cA : ClassId) (h : Nat → Nat) (hi : nInj 48 h) (p1 p2 : Int32) (σ : nS) (q : nS) (hg : gS_keepTogether p1 p2 σ = some q) : nMv l yX2_keepTogether cX2_keepTogether 3 none 1 D cI cZ cA 48 (cfC cI cZ cA h) h [.ref (h 9), .int p1, .int p2] σ q := by
  unfold gS_keepTogether at hg
  refine ng_body_v (by decide) hi (Nat.le_of_ble_eq_true rfl) ?_
  intro p e R s m args below meth c sz Q ls hx hb hml hr hlk hts hown hK hR hQ hl hH
  have hown : s.vm.findClass RX2 = some m.cls := hown
  have hl : lv_has ls 3 [(0, .ref (h 9)), (1, .int p1), (2, .int p2)] := hl
  refine lv_aload_n hx hb dX2_keepTogether_0 rfl (lv_at hl 0 rfl) ?_
  refine ng_get hx hb hts hown hK hH 9 (by decide) rfl rfl inlX2 4 (by decide) mw_49 rfl dX2_keepTogether_1 ?_
  refine lv_iload_n hx hb dX2_keepTogether_4 rfl (lv_at hl 1 rfl) ?_
  refine lv_dup2_11 hx hb dX2_keepTogether_5 rfl rfl ?_
  obtain ⟨hb1, hg⟩ := ob_i hg
  refine ng_iald hx hb hK hH 41 (by decide) (fun _ => rfl) hb1 dX2_keepTogether_6 ?_
  refine lv_iconst (v := (1 : Int32)) hx hb dX2_keepTogether_7 (by decide) ?_
  refine lv_iload_n hx hb dX2_keepTogether_8 rfl (lv_at hl 2 rfl) ?_
  refine lv_ishl hx hb dX2_keepTogether_9 ?_
  refine lv_ior hx hb dX2_keepTogether_10 ?_
  obtain ⟨hb2, hg⟩ := ob_i hg
  refine ng_iast hx hb hK hH 41 (by decide) (fun _ => rfl) hb2 dX2_keepTogether_11 (fun H locs hH => ?_)
  refine lv_aload_n hx hb dX2_keepTogether_12 rfl (lv_at hl 0 rfl) ?_
  refine ng_get hx hb hts hown hK hH 9 (by decide) rfl rfl inlX2 4 (by decide) mw_49 rfl dX2_keepTogether_13 ?_
  refine lv_iload_n hx hb dX2_keepTogether_16 rfl (lv_at hl 2 rfl) ?_
  refine lv_dup2_11 hx hb dX2_keepTogether_17 rfl rfl ?_
  obtain ⟨hb3, hg⟩ := ob_i hg
  refine ng_iald hx hb hK hH 41 (by decide) (fun _ => rfl) hb3 dX2_keepTogether_18 ?_
  refine lv_iconst (v := (1 : Int32)) hx hb dX2_keepTogether_19 (by decide) ?_
  refine lv_iload_n hx hb dX2_keepTogether_20 rfl (lv_at hl 1 rfl) ?_
  refine lv_ishl hx hb dX2_keepTogether_21 ?_
  refine lv_ior hx hb dX2_keepTogether_22 ?_
  obtain ⟨hb4, hg⟩ := ob_i hg
  refine ng_iast hx hb hK hH 41 (by decide) (fun _ => rfl) hb4 dX2_keepTogether_23 (fun H locs hH => ?_)
  subst hQ
  exact ng_vret hx hb hr hlk (Option.some.inj hg) hH dX2_keepTogether_24
set_option maxHeartbeats 8000000 in
set_option maxRecDepth 100000 in
theorem cC_sure (l : Launch) (D : va_G) (cI cZ cA : ClassId) (h : Nat → Nat) (hi : nInj 48 h) (p1 : Int32) (σ : nS) (q : Int32 × nS) (hg : gC_sure p1 σ = some q) : nMi l yX3_sure cX3_sure 6 (some .int) 15 D cI cZ cA 48 (cfC cI cZ cA h) h [.ref (h 0), .int p1] σ q.1 q.2 := by
  unfold gC_sure at hg
  refine ng_body_i (by decide) hi (Nat.le_of_ble_eq_true rfl) ?_
  intro p e R s m args below meth c sz Q ls hx hb hml hr hlk hts hown hK hR hQ hl hH
  have hown : s.vm.findClass RX3 = some m.cls := hown
  have hl : lv_has ls 6 [(0, .ref (h 0)), (1, .int p1)] := hl
  refine lv_aload_n hx hb dX3_sure_0 rfl (lv_at hl 0 rfl) ?_
  refine ng_get hx hb hts hown hK hH 0 (by decide) rfl rfl inlX3 0 (by decide) mw_15 rfl dX3_sure_1 ?_
  refine lv_iload_n hx hb dX3_sure_4 rfl (lv_at hl 1 rfl) ?_
  obtain ⟨q1, hc2, hg⟩ := ob_b hg
  refine ng_ci (ng_rV hx hb hml hown hts hK hH (As := [.int p1]) (rest := []) 1 (cN_hasLine l D cI cZ cA h hi p1 σ q1 hc2 _) (by decide) rfl rfl mw_348 mw_130 mw_131 mw_14 mw_132 pdX1_hasLine ⟨by rw [hR]; show _ ≤ _; simp only [nRm]; omega, by rw [hR]; show _ ≤ _; simp only [nRm]; omega⟩ hl.1 rfl (Nat.le_of_ble_eq_true rfl) dX3_sure_5 ⟨Nat.zero_le _, Nat.zero_le _⟩) hH (fun H locs hH => ?_)
  refine lv_if_ne (tgt := 13) hx hb dX3_sure_8 (by decide) (fun c3 => ?_) (fun c3 => ?_)
  · replace hg := ob_f c3 hg
    refine lv_aload_n hx hb dX3_sure_13 rfl (lv_at hl 0 rfl) ?_
    refine ng_get hx hb hts hown hK hH 0 (by decide) rfl rfl inlX3 0 (by decide) mw_15 rfl dX3_sure_14 ?_
    refine ng_get hx hb hts hown hK hH 1 (by decide) rfl rfl inlX1 0 (by decide) mw_194 rfl dX3_sure_17 ?_
    refine lv_iload_n hx hb dX3_sure_20 rfl (lv_at hl 1 rfl) ?_
    obtain ⟨hb4, hg⟩ := ob_i hg
    refine ng_iald hx hb hK hH 2 (by decide) (fun _ => rfl) hb4 dX3_sure_21 ?_
    refine lv_istore_n (lv' := [(2, .int (σ 2 p1.toNatClampNeg)), (0, .ref (h 0)), (1, .int p1)]) hx hb dX3_sure_22 rfl hl (by decide) rfl (fun ls hl => ?_)
    refine lv_aload_n hx hb dX3_sure_23 rfl (lv_at hl 1 rfl) ?_
    refine ng_get hx hb hts hown hK hH 0 (by decide) rfl rfl inlX3 0 (by decide) mw_15 rfl dX3_sure_24 ?_
    refine ng_get hx hb hts hown hK hH 1 (by decide) rfl rfl inlX1 1 (by decide) mw_195 rfl dX3_sure_27 ?_
    refine lv_iload_n hx hb dX3_sure_30 rfl (lv_at hl 2 rfl) ?_
    obtain ⟨hb5, hg⟩ := ob_i hg
    refine ng_iald hx hb hK hH 3 (by decide) (fun _ => rfl) hb5 dX3_sure_31 ?_
    refine lv_istore_n (lv' := [(3, .int (σ 3 p1.toNatClampNeg)), (2, .int (σ 2 p1.toNatClampNeg)), (0, .ref (h 0)), (1, .int p1)]) hx hb dX3_sure_32 rfl hl (by decide) rfl (fun ls hl => ?_)
    refine lv_aload_n hx hb dX3_sure_33 rfl (lv_at hl 2 rfl) ?_
    obtain ⟨q6, hc7, hg⟩ := ob_b hg
    refine ng_cv (ng_rV hx hb hml hown hts hK hH (As := []) (rest := []) 0 (cC_preparePairs l D cI cZ cA h hi σ q6 hc7 _) (by decide) rfl rfl mw_328 mw_329 mw_330 mw_2 mw_331 pdX3_preparePairs ⟨by rw [hR]; show _ ≤ _; simp only [nRm]; omega, by rw [hR]; show _ ≤ _; simp only [nRm]; omega⟩ hl.1 rfl (Nat.le_of_ble_eq_true rfl) dX3_sure_34 ⟨Nat.zero_le _, Nat.zero_le _⟩) hH (fun H locs hH => ?_)
    refine lv_aload_n hx hb dX3_sure_37 rfl (lv_at hl 2 rfl) ?_
    refine ng_get hx hb hts hown hK hH 0 (by decide) rfl rfl inlX3 1 (by decide) mw_19 rfl dX3_sure_38 ?_
    refine lv_iload_n hx hb dX3_sure_41 rfl (lv_at hl 1 rfl) ?_
    refine lv_iload_n hx hb dX3_sure_42 rfl (lv_at hl 0 rfl) ?_
    obtain ⟨q8, hc9, hg⟩ := ob_b hg
    refine ng_cv (ng_rV hx hb hml hown hts hK hH (As := [.int (σ 2 p1.toNatClampNeg), .int (σ 3 p1.toNatClampNeg)]) (rest := []) 9 (cS_keepTogether l D cI cZ cA h hi (σ 2 p1.toNatClampNeg) (σ 3 p1.toNatClampNeg) q6 q8 hc9 _) (by decide) rfl rfl mw_349 mw_350 mw_351 mw_18 mw_352 pdX2_keepTogether ⟨by rw [hR]; show _ ≤ _; simp only [nRm]; omega, by rw [hR]; show _ ≤ _; simp only [nRm]; omega⟩ hl.1 rfl (Nat.le_of_ble_eq_true rfl) dX3_sure_43 ⟨Nat.zero_le _, Nat.zero_le _⟩) hH (fun H locs hH => ?_)
    refine lv_aload_n hx hb dX3_sure_46 rfl (lv_at hl 2 rfl) ?_
    refine ng_get hx hb hts hown hK hH 0 (by decide) rfl rfl inlX3 1 (by decide) mw_19 rfl dX3_sure_47 ?_
    obtain ⟨q10, hc11, hg⟩ := ob_b hg
    refine ng_cv (ng_rV hx hb hml hown hts hK hH (As := []) (rest := []) 9 (cS_run l D cI cZ cA h hi q8 q10 hc11 _) (by decide) rfl rfl mw_220 mw_221 mw_222 mw_18 mw_223 pdX2_run ⟨by rw [hR]; show _ ≤ _; simp only [nRm]; omega, by rw [hR]; show _ ≤ _; simp only [nRm]; omega⟩ hl.1 rfl (Nat.le_of_ble_eq_true rfl) dX3_sure_50 ⟨Nat.zero_le _, Nat.zero_le _⟩) hH (fun H locs hH => ?_)
    refine lv_aload_n hx hb dX3_sure_53 rfl (lv_at hl 2 rfl) ?_
    refine ng_get hx hb hts hown hK hH 0 (by decide) rfl rfl inlX3 1 (by decide) mw_19 rfl dX3_sure_54 ?_
    obtain ⟨q12, hc13, hg⟩ := ob_b hg
    refine ng_ci (ng_rV hx hb hml hown hts hK hH (As := []) (rest := []) 9 (cS_leastCost l D cI cZ cA h hi q10 q12 hc13 _) (by decide) rfl rfl mw_239 mw_240 mw_241 mw_18 mw_242 pdX2_leastCost ⟨by rw [hR]; show _ ≤ _; simp only [nRm]; omega, by rw [hR]; show _ ≤ _; simp only [nRm]; omega⟩ hl.1 rfl (Nat.le_of_ble_eq_true rfl) dX3_sure_57 ⟨Nat.zero_le _, Nat.zero_le _⟩) hH (fun H locs hH => ?_)
    refine lv_istore (lv' := [(4, .int q12), (3, .int (σ 3 p1.toNatClampNeg)), (2, .int (σ 2 p1.toNatClampNeg)), (0, .ref (h 0)), (1, .int p1)]) hx hb dX3_sure_60 hl (by decide) rfl (fun ls hl => ?_)
    refine lv_aload_n hx hb dX3_sure_62 rfl (lv_at hl 3 rfl) ?_
    obtain ⟨q14, hc15, hg⟩ := ob_b hg
    refine ng_cv (ng_rV hx hb hml hown hts hK hH (As := []) (rest := []) 0 (cC_preparePairs l D cI cZ cA h hi q10 q14 hc15 _) (by decide) rfl rfl mw_328 mw_329 mw_330 mw_2 mw_331 pdX3_preparePairs ⟨by rw [hR]; show _ ≤ _; simp only [nRm]; omega, by rw [hR]; show _ ≤ _; simp only [nRm]; omega⟩ hl.1 rfl (Nat.le_of_ble_eq_true rfl) dX3_sure_63 ⟨Nat.zero_le _, Nat.zero_le _⟩) hH (fun H locs hH => ?_)
    refine lv_aload_n hx hb dX3_sure_66 rfl (lv_at hl 3 rfl) ?_
    refine ng_get hx hb hts hown hK hH 0 (by decide) rfl rfl inlX3 1 (by decide) mw_19 rfl dX3_sure_67 ?_
    refine lv_iload_n hx hb dX3_sure_70 rfl (lv_at hl 2 rfl) ?_
    refine lv_iload_n hx hb dX3_sure_71 rfl (lv_at hl 1 rfl) ?_
    obtain ⟨q16, hc17, hg⟩ := ob_b hg
    refine ng_cv (ng_rV hx hb hml hown hts hK hH (As := [.int (σ 2 p1.toNatClampNeg), .int (σ 3 p1.toNatClampNeg)]) (rest := []) 9 (cS_keepApart l D cI cZ cA h hi (σ 2 p1.toNatClampNeg) (σ 3 p1.toNatClampNeg) q14 q16 hc17 _) (by decide) rfl rfl mw_212 mw_213 mw_214 mw_18 mw_215 pdX2_keepApart ⟨by rw [hR]; show _ ≤ _; simp only [nRm]; omega, by rw [hR]; show _ ≤ _; simp only [nRm]; omega⟩ hl.1 rfl (Nat.le_of_ble_eq_true rfl) dX3_sure_72 ⟨Nat.zero_le _, Nat.zero_le _⟩) hH (fun H locs hH => ?_)
    refine lv_aload_n hx hb dX3_sure_75 rfl (lv_at hl 3 rfl) ?_
    refine ng_get hx hb hts hown hK hH 0 (by decide) rfl rfl inlX3 1 (by decide) mw_19 rfl dX3_sure_76 ?_
    obtain ⟨q18, hc19, hg⟩ := ob_b hg
    refine ng_cv (ng_rV hx hb hml hown hts hK hH (As := []) (rest := []) 9 (cS_run l D cI cZ cA h hi q16 q18 hc19 _) (by decide) rfl rfl mw_220 mw_221 mw_222 mw_18 mw_223 pdX2_run ⟨by rw [hR]; show _ ≤ _; simp only [nRm]; omega, by rw [hR]; show _ ≤ _; simp only [nRm]; omega⟩ hl.1 rfl (Nat.le_of_ble_eq_true rfl) dX3_sure_79 ⟨Nat.zero_le _, Nat.zero_le _⟩) hH (fun H locs hH => ?_)
    refine lv_aload_n hx hb dX3_sure_82 rfl (lv_at hl 3 rfl) ?_
    refine ng_get hx hb hts hown hK hH 0 (by decide) rfl rfl inlX3 1 (by decide) mw_19 rfl dX3_sure_83 ?_
    obtain ⟨q20, hc21, hg⟩ := ob_b hg
    refine ng_ci (ng_rV hx hb hml hown hts hK hH (As := []) (rest := []) 9 (cS_leastCost l D cI cZ cA h hi q18 q20 hc21 _) (by decide) rfl rfl mw_239 mw_240 mw_241 mw_18 mw_242 pdX2_leastCost ⟨by rw [hR]; show _ ≤ _; simp only [nRm]; omega, by rw [hR]; show _ ≤ _; simp only [nRm]; omega⟩ hl.1 rfl (Nat.le_of_ble_eq_true rfl) dX3_sure_86 ⟨Nat.zero_le _, Nat.zero_le _⟩) hH (fun H locs hH => ?_)
    refine lv_istore (lv' := [(5, .int q20), (4, .int q12), (3, .int (σ 3 p1.toNatClampNeg)), (2, .int (σ 2 p1.toNatClampNeg)), (0, .ref (h 0)), (1, .int p1)]) hx hb dX3_sure_89 hl (by decide) rfl (fun ls hl => ?_)
    refine lv_iload hx hb dX3_sure_91 (lv_at hl 0 rfl) ?_
    refine lv_iload hx hb dX3_sure_93 (lv_at hl 1 rfl) ?_
    refine lv_icmp_ge (tgt := 100) hx hb dX3_sure_95 (by decide) (fun c22 => ?_) (fun c22 => ?_)
    · replace hg := ob_t c22 hg
      refine lv_iload hx hb dX3_sure_100 (lv_at hl 0 rfl) ?_
      refine lv_iload hx hb dX3_sure_102 (lv_at hl 1 rfl) ?_
      refine lv_icmp_ne (tgt := 111) hx hb dX3_sure_104 (by decide) (fun c23 => ?_) (fun c23 => ?_)
      · replace hg := ob_f c23 hg
        refine lv_iconst (v := (0 : Int32)) hx hb dX3_sure_111 (by decide) ?_
        subst hQ
        exact ng_iret hx hb hr hlk (congrArg Prod.fst (Option.some.inj hg)) (congrArg Prod.snd (Option.some.inj hg)) hH dX3_sure_112
      · replace hg := ob_t c23 hg
        refine lv_iconst (v := (1 : Int32)) hx hb dX3_sure_107 (by decide) ?_
        refine lv_goto (tgt := 112) hx hb dX3_sure_108 (by decide) ?_
        subst hQ
        exact ng_iret hx hb hr hlk (congrArg Prod.fst (Option.some.inj hg)) (congrArg Prod.snd (Option.some.inj hg)) hH dX3_sure_112
    · replace hg := ob_f c22 hg
      refine lv_iconst (v := (2 : Int32)) hx hb dX3_sure_98 (by decide) ?_
      subst hQ
      exact ng_iret hx hb hr hlk (congrArg Prod.fst (Option.some.inj hg)) (congrArg Prod.snd (Option.some.inj hg)) hH dX3_sure_99
  · replace hg := ob_t c3 hg
    refine lv_iconst (v := (-1 : Int32)) hx hb dX3_sure_11 (by decide) ?_
    subst hQ
    exact ng_iret hx hb hr hlk (congrArg Prod.fst (Option.some.inj hg)) (congrArg Prod.snd (Option.some.inj hg)) hH dX3_sure_12
set_option maxHeartbeats 8000000 in
set_option maxRecDepth 100000 in
theorem cS_wantParts (l : Launch) (D : va_G) (cI cZ cA : ClassId) (h : Nat → Nat) (hi : nInj 48 h) (p1 : Int32) (σ : nS) (q : nS) (hg : gS_wantParts p1 σ = some q) : nMv l yX2_wantParts cX2_wantParts 2 none 1 D cI cZ cA 48 (cfC cI cZ cA h) h [.ref (h 9), .int p1] σ q := by
  unfold gS_wantParts at hg
  refine ng_body_v (by decide) hi (Nat.le_of_ble_eq_true rfl) ?_
  intro p e R s m args below meth c sz Q ls hx hb hml hr hlk hts hown hK hR hQ hl hH
  have hown : s.vm.findClass RX2 = some m.cls := hown
  have hl : lv_has ls 2 [(0, .ref (h 9)), (1, .int p1)] := hl
  refine lv_aload_n hx hb dX2_wantParts_0 rfl (lv_at hl 0 rfl) ?_
  refine lv_iload_n hx hb dX2_wantParts_1 rfl (lv_at hl 1 rfl) ?_
  refine ng_put hx hb hts hown hK hH 9 (by decide) rfl rfl inlX2 tyX2 tyX2_ok nmX2 9 (by decide) mw_54 rfl (by decide +kernel) (Nat.le_of_ble_eq_true rfl) rfl dX2_wantParts_2 (fun H locs hH => ?_)
  refine lv_aload_n hx hb dX2_wantParts_5 rfl (lv_at hl 0 rfl) ?_
  refine lv_iload_n hx hb dX2_wantParts_6 rfl (lv_at hl 1 rfl) ?_
  refine ng_put hx hb hts hown hK hH 9 (by decide) rfl rfl inlX2 tyX2 tyX2_ok nmX2 10 (by decide) mw_55 rfl (by decide +kernel) (Nat.le_of_ble_eq_true rfl) rfl dX2_wantParts_7 (fun H locs hH => ?_)
  subst hQ
  exact ng_vret hx hb hr hlk (Option.some.inj hg) hH dX2_wantParts_10
set_option maxHeartbeats 8000000 in
set_option maxRecDepth 100000 in
theorem cC_findPieces (l : Launch) (D : va_G) (cI cZ cA : ClassId) (h : Nat → Nat) (hi : nInj 48 h) (p1 : Int32) (σ : nS) (q : Int32 × nS) (hg : gC_findPieces p1 σ = some q) : nMi l yX3_findPieces cX3_findPieces 2 (some .boolean) 15 D cI cZ cA 48 (cfC cI cZ cA h) h [.ref (h 0), .int p1] σ q.1 q.2 := by
  unfold gC_findPieces at hg
  refine ng_body_i (by decide) hi (Nat.le_of_ble_eq_true rfl) ?_
  intro p e R s m args below meth c sz Q ls hx hb hml hr hlk hts hown hK hR hQ hl hH
  have hown : s.vm.findClass RX3 = some m.cls := hown
  have hl : lv_has ls 2 [(0, .ref (h 0)), (1, .int p1)] := hl
  refine lv_iload_n hx hb dX3_findPieces_0 rfl (lv_at hl 1 rfl) ?_
  refine lv_iconst (v := (1 : Int32)) hx hb dX3_findPieces_1 (by decide) ?_
  refine lv_icmp_lt (tgt := 16) hx hb dX3_findPieces_2 (by decide) (fun c1 => ?_) (fun c1 => ?_)
  · replace hg := ob_t c1 hg
    refine lv_iconst (v := (0 : Int32)) hx hb dX3_findPieces_16 (by decide) ?_
    subst hQ
    exact ng_zret hx hb hr hlk (by decide) (congrArg Prod.fst (Option.some.inj hg)) (congrArg Prod.snd (Option.some.inj hg)) hH dX3_findPieces_17
  · replace hg := ob_f c1 hg
    refine lv_iload_n hx hb dX3_findPieces_5 rfl (lv_at hl 1 rfl) ?_
    refine lv_aload_n hx hb dX3_findPieces_6 rfl (lv_at hl 0 rfl) ?_
    refine ng_get hx hb hts hown hK hH 0 (by decide) rfl rfl inlX3 0 (by decide) mw_15 rfl dX3_findPieces_7 ?_
    refine ng_get hx hb hts hown hK hH 1 (by decide) rfl rfl inlX1 5 (by decide) mw_191 rfl dX3_findPieces_10 ?_
    refine lv_icmp_le (tgt := 18) hx hb dX3_findPieces_13 (by decide) (fun c2 => ?_) (fun c2 => ?_)
    · replace hg := ob_t c2 hg
      refine lv_aload_n hx hb dX3_findPieces_18 rfl (lv_at hl 0 rfl) ?_
      obtain ⟨q3, hc4, hg⟩ := ob_b hg
      refine ng_cv (ng_rV hx hb hml hown hts hK hH (As := []) (rest := []) 0 (cC_prepareSums l D cI cZ cA h hi σ q3 hc4 _) (by decide) rfl rfl mw_187 mw_188 mw_189 mw_2 mw_190 pdX3_prepareSums ⟨by rw [hR]; show _ ≤ _; simp only [nRm]; omega, by rw [hR]; show _ ≤ _; simp only [nRm]; omega⟩ hl.1 rfl (Nat.le_of_ble_eq_true rfl) dX3_findPieces_19 ⟨Nat.zero_le _, Nat.zero_le _⟩) hH (fun H locs hH => ?_)
      refine lv_aload_n hx hb dX3_findPieces_22 rfl (lv_at hl 0 rfl) ?_
      refine ng_get hx hb hts hown hK hH 0 (by decide) rfl rfl inlX3 1 (by decide) mw_19 rfl dX3_findPieces_23 ?_
      refine lv_iload_n hx hb dX3_findPieces_26 rfl (lv_at hl 1 rfl) ?_
      obtain ⟨q5, hc6, hg⟩ := ob_b hg
      refine ng_cv (ng_rV hx hb hml hown hts hK hH (As := [.int p1]) (rest := []) 9 (cS_wantParts l D cI cZ cA h hi p1 q3 q5 hc6 _) (by decide) rfl rfl mw_365 mw_366 mw_367 mw_18 mw_368 pdX2_wantParts ⟨by rw [hR]; show _ ≤ _; simp only [nRm]; omega, by rw [hR]; show _ ≤ _; simp only [nRm]; omega⟩ hl.1 rfl (Nat.le_of_ble_eq_true rfl) dX3_findPieces_27 ⟨Nat.zero_le _, Nat.zero_le _⟩) hH (fun H locs hH => ?_)
      refine lv_aload_n hx hb dX3_findPieces_30 rfl (lv_at hl 0 rfl) ?_
      refine ng_get hx hb hts hown hK hH 0 (by decide) rfl rfl inlX3 1 (by decide) mw_19 rfl dX3_findPieces_31 ?_
      obtain ⟨q7, hc8, hg⟩ := ob_b hg
      refine ng_cv (ng_rV hx hb hml hown hts hK hH (As := []) (rest := []) 9 (cS_run l D cI cZ cA h hi q5 q7 hc8 _) (by decide) rfl rfl mw_220 mw_221 mw_222 mw_18 mw_223 pdX2_run ⟨by rw [hR]; show _ ≤ _; simp only [nRm]; omega, by rw [hR]; show _ ≤ _; simp only [nRm]; omega⟩ hl.1 rfl (Nat.le_of_ble_eq_true rfl) dX3_findPieces_34 ⟨Nat.zero_le _, Nat.zero_le _⟩) hH (fun H locs hH => ?_)
      refine lv_iconst (v := (1 : Int32)) hx hb dX3_findPieces_37 (by decide) ?_
      subst hQ
      exact ng_zret hx hb hr hlk (by decide) (congrArg Prod.fst (Option.some.inj hg)) (congrArg Prod.snd (Option.some.inj hg)) hH dX3_findPieces_38
    · replace hg := ob_f c2 hg
      refine lv_iconst (v := (0 : Int32)) hx hb dX3_findPieces_16 (by decide) ?_
      subst hQ
      exact ng_zret hx hb hr hlk (by decide) (congrArg Prod.fst (Option.some.inj hg)) (congrArg Prod.snd (Option.some.inj hg)) hH dX3_findPieces_17
set_option maxHeartbeats 8000000 in
set_option maxRecDepth 100000 in
theorem cC_pieces (l : Launch) (D : va_G) (cI cZ cA : ClassId) (h : Nat → Nat) (hi : nInj 48 h) (p1 : Int32) (σ : nS) (q : Int32 × nS) (hg : gC_pieces p1 σ = some q) : nMi l yX3_pieces cX3_pieces 2 (some .int) 16 D cI cZ cA 48 (cfC cI cZ cA h) h [.ref (h 0), .int p1] σ q.1 q.2 := by
  unfold gC_pieces at hg
  refine ng_body_i (by decide) hi (Nat.le_of_ble_eq_true rfl) ?_
  intro p e R s m args below meth c sz Q ls hx hb hml hr hlk hts hown hK hR hQ hl hH
  have hown : s.vm.findClass RX3 = some m.cls := hown
  have hl : lv_has ls 2 [(0, .ref (h 0)), (1, .int p1)] := hl
  refine lv_aload_n hx hb dX3_pieces_0 rfl (lv_at hl 0 rfl) ?_
  refine lv_iload_n hx hb dX3_pieces_1 rfl (lv_at hl 1 rfl) ?_
  obtain ⟨q1, hc2, hg⟩ := ob_b hg
  refine ng_ci (ng_rV hx hb hml hown hts hK hH (As := [.int p1]) (rest := []) 0 (cC_findPieces l D cI cZ cA h hi p1 σ q1 hc2 _) (by decide) rfl rfl mw_361 mw_362 mw_363 mw_2 mw_364 pdX3_findPieces ⟨by rw [hR]; show _ ≤ _; simp only [nRm]; omega, by rw [hR]; show _ ≤ _; simp only [nRm]; omega⟩ hl.1 rfl (Nat.le_of_ble_eq_true rfl) dX3_pieces_2 ⟨Nat.zero_le _, Nat.zero_le _⟩) hH (fun H locs hH => ?_)
  refine lv_if_eq (tgt := 18) hx hb dX3_pieces_5 (by decide) (fun c3 => ?_) (fun c3 => ?_)
  · replace hg := ob_t c3 hg
    refine lv_iconst (v := (-1 : Int32)) hx hb dX3_pieces_18 (by decide) ?_
    subst hQ
    exact ng_iret hx hb hr hlk (congrArg Prod.fst (Option.some.inj hg)) (congrArg Prod.snd (Option.some.inj hg)) hH dX3_pieces_19
  · replace hg := ob_f c3 hg
    refine lv_aload_n hx hb dX3_pieces_8 rfl (lv_at hl 0 rfl) ?_
    refine ng_get hx hb hts hown hK hH 0 (by decide) rfl rfl inlX3 1 (by decide) mw_19 rfl dX3_pieces_9 ?_
    obtain ⟨q4, hc5, hg⟩ := ob_b hg
    refine ng_ci (ng_rV hx hb hml hown hts hK hH (As := []) (rest := []) 9 (cS_leastCost l D cI cZ cA h hi q1.2 q4 hc5 _) (by decide) rfl rfl mw_239 mw_240 mw_241 mw_18 mw_242 pdX2_leastCost ⟨by rw [hR]; show _ ≤ _; simp only [nRm]; omega, by rw [hR]; show _ ≤ _; simp only [nRm]; omega⟩ hl.1 rfl (Nat.le_of_ble_eq_true rfl) dX3_pieces_12 ⟨Nat.zero_le _, Nat.zero_le _⟩) hH (fun H locs hH => ?_)
    refine lv_goto (tgt := 19) hx hb dX3_pieces_15 (by decide) ?_
    subst hQ
    exact ng_iret hx hb hr hlk (congrArg Prod.fst (Option.some.inj hg)) (congrArg Prod.snd (Option.some.inj hg)) hH dX3_pieces_19
set_option maxHeartbeats 8000000 in
set_option maxRecDepth 100000 in
theorem cC_piece (l : Launch) (D : va_G) (cI cZ cA : ClassId) (h : Nat → Nat) (hi : nInj 48 h) (p1 p2 : Int32) (σ : nS) (q : Int32 × nS) (hg : gC_piece p1 p2 σ = some q) : nMi l yX3_piece cX3_piece 3 (some .int) 16 D cI cZ cA 48 (cfC cI cZ cA h) h [.ref (h 0), .int p1, .int p2] σ q.1 q.2 := by
  unfold gC_piece at hg
  refine ng_body_i (by decide) hi (Nat.le_of_ble_eq_true rfl) ?_
  intro p e R s m args below meth c sz Q ls hx hb hml hr hlk hts hown hK hR hQ hl hH
  have hown : s.vm.findClass RX3 = some m.cls := hown
  have hl : lv_has ls 3 [(0, .ref (h 0)), (1, .int p1), (2, .int p2)] := hl
  refine lv_aload_n hx hb dX3_piece_0 rfl (lv_at hl 0 rfl) ?_
  refine ng_get hx hb hts hown hK hH 0 (by decide) rfl rfl inlX3 0 (by decide) mw_15 rfl dX3_piece_1 ?_
  refine lv_iload_n hx hb dX3_piece_4 rfl (lv_at hl 2 rfl) ?_
  obtain ⟨q1, hc2, hg⟩ := ob_b hg
  refine ng_ci (ng_rV hx hb hml hown hts hK hH (As := [.int p2]) (rest := []) 1 (cN_hasPost l D cI cZ cA h hi p2 σ q1 hc2 _) (by decide) rfl rfl mw_145 mw_109 mw_110 mw_14 mw_111 pdX1_hasPost ⟨by rw [hR]; show _ ≤ _; simp only [nRm]; omega, by rw [hR]; show _ ≤ _; simp only [nRm]; omega⟩ hl.1 rfl (Nat.le_of_ble_eq_true rfl) dX3_piece_5 ⟨Nat.zero_le _, Nat.zero_le _⟩) hH (fun H locs hH => ?_)
  refine lv_if_eq (tgt := 30) hx hb dX3_piece_8 (by decide) (fun c3 => ?_) (fun c3 => ?_)
  · replace hg := ob_t c3 hg
    refine lv_iconst (v := (-1 : Int32)) hx hb dX3_piece_30 (by decide) ?_
    subst hQ
    exact ng_iret hx hb hr hlk (congrArg Prod.fst (Option.some.inj hg)) (congrArg Prod.snd (Option.some.inj hg)) hH dX3_piece_31
  · replace hg := ob_f c3 hg
    refine lv_aload_n hx hb dX3_piece_11 rfl (lv_at hl 0 rfl) ?_
    refine lv_iload_n hx hb dX3_piece_12 rfl (lv_at hl 1 rfl) ?_
    obtain ⟨q4, hc5, hg⟩ := ob_b hg
    refine ng_ci (ng_rV hx hb hml hown hts hK hH (As := [.int p1]) (rest := []) 0 (cC_findPieces l D cI cZ cA h hi p1 σ q4 hc5 _) (by decide) rfl rfl mw_361 mw_362 mw_363 mw_2 mw_364 pdX3_findPieces ⟨by rw [hR]; show _ ≤ _; simp only [nRm]; omega, by rw [hR]; show _ ≤ _; simp only [nRm]; omega⟩ hl.1 rfl (Nat.le_of_ble_eq_true rfl) dX3_piece_13 ⟨Nat.zero_le _, Nat.zero_le _⟩) hH (fun H locs hH => ?_)
    refine lv_if_eq (tgt := 30) hx hb dX3_piece_16 (by decide) (fun c6 => ?_) (fun c6 => ?_)
    · replace hg := ob_t c6 hg
      refine lv_iconst (v := (-1 : Int32)) hx hb dX3_piece_30 (by decide) ?_
      subst hQ
      exact ng_iret hx hb hr hlk (congrArg Prod.fst (Option.some.inj hg)) (congrArg Prod.snd (Option.some.inj hg)) hH dX3_piece_31
    · replace hg := ob_f c6 hg
      refine lv_aload_n hx hb dX3_piece_19 rfl (lv_at hl 0 rfl) ?_
      refine ng_get hx hb hts hown hK hH 0 (by decide) rfl rfl inlX3 1 (by decide) mw_19 rfl dX3_piece_20 ?_
      refine lv_iload_n hx hb dX3_piece_23 rfl (lv_at hl 2 rfl) ?_
      obtain ⟨q7, hc8, hg⟩ := ob_b hg
      refine ng_ci (ng_rV hx hb hml hown hts hK hH (As := [.int p2]) (rest := []) 9 (cS_partOf l D cI cZ cA h hi p2 q4.2 q7 hc8 _) (by decide) rfl rfl mw_283 mw_284 mw_285 mw_18 mw_286 pdX2_partOf ⟨by rw [hR]; show _ ≤ _; simp only [nRm]; omega, by rw [hR]; show _ ≤ _; simp only [nRm]; omega⟩ hl.1 rfl (Nat.le_of_ble_eq_true rfl) dX3_piece_24 ⟨Nat.zero_le _, Nat.zero_le _⟩) hH (fun H locs hH => ?_)
      refine lv_goto (tgt := 31) hx hb dX3_piece_27 (by decide) ?_
      subst hQ
      exact ng_iret hx hb hr hlk (congrArg Prod.fst (Option.some.inj hg)) (congrArg Prod.snd (Option.some.inj hg)) hH dX3_piece_31
