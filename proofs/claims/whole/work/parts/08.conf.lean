set_option maxHeartbeats 8000000 in
set_option maxRecDepth 100000 in
theorem cC_regret (l : Launch) (D : va_G) (cI cZ cA : ClassId) (h : Nat → Nat) (hi : nInj 48 h) (σ : nS) (q : Int32 × nS) (hg : gC_regret σ = some q) : nMi l yX3_regret cX3_regret 1 (some .int) 16 D cI cZ cA 48 (cfC cI cZ cA h) h [.ref (h 0)] σ q.1 q.2 := by
  unfold gC_regret at hg
  refine ng_body_i (by decide) hi (Nat.le_of_ble_eq_true rfl) ?_
  intro p e R s m args below meth c sz Q ls hx hb hml hr hlk hts hown hK hR hQ hl hH
  have hown : s.vm.findClass RX3 = some m.cls := hown
  have hl : lv_has ls 1 [(0, .ref (h 0))] := hl
  refine lv_aload_n hx hb dX3_regret_0 rfl (lv_at hl 0 rfl) ?_
  obtain ⟨q1, hc2, hg⟩ := ob_b hg
  refine ng_ci (ng_rV hx hb hml hown hts hK hH (As := []) (rest := []) 0 (cC_findRegret l D cI cZ cA h hi σ q1 hc2 _) (by decide) rfl rfl mw_419 mw_420 mw_421 mw_2 mw_422 pdX3_findRegret ⟨by rw [hR]; show _ ≤ _; simp only [nRm]; omega, by rw [hR]; show _ ≤ _; simp only [nRm]; omega⟩ hl.1 rfl (Nat.le_of_ble_eq_true rfl) dX3_regret_1 ⟨Nat.zero_le _, Nat.zero_le _⟩) hH (fun H locs hH => ?_)
  refine lv_if_eq (tgt := 17) hx hb dX3_regret_4 (by decide) (fun c3 => ?_) (fun c3 => ?_)
  · replace hg := ob_t c3 hg
    refine lv_iconst (v := (-1 : Int32)) hx hb dX3_regret_17 (by decide) ?_
    subst hQ
    exact ng_iret hx hb hr hlk (congrArg Prod.fst (Option.some.inj hg)) (congrArg Prod.snd (Option.some.inj hg)) hH dX3_regret_18
  · replace hg := ob_f c3 hg
    refine lv_aload_n hx hb dX3_regret_7 rfl (lv_at hl 0 rfl) ?_
    refine ng_get hx hb hts hown hK hH 0 (by decide) rfl rfl inlX3 1 (by decide) mw_19 rfl dX3_regret_8 ?_
    obtain ⟨q4, hc5, hg⟩ := ob_b hg
    refine ng_ci (ng_rV hx hb hml hown hts hK hH (As := []) (rest := []) 9 (cS_leastCost l D cI cZ cA h hi q1.2 q4 hc5 _) (by decide) rfl rfl mw_239 mw_240 mw_241 mw_18 mw_242 pdX2_leastCost ⟨by rw [hR]; show _ ≤ _; simp only [nRm]; omega, by rw [hR]; show _ ≤ _; simp only [nRm]; omega⟩ hl.1 rfl (Nat.le_of_ble_eq_true rfl) dX3_regret_11 ⟨Nat.zero_le _, Nat.zero_le _⟩) hH (fun H locs hH => ?_)
    refine lv_goto (tgt := 18) hx hb dX3_regret_14 (by decide) ?_
    subst hQ
    exact ng_iret hx hb hr hlk (congrArg Prod.fst (Option.some.inj hg)) (congrArg Prod.snd (Option.some.inj hg)) hH dX3_regret_18
set_option maxHeartbeats 8000000 in
set_option maxRecDepth 100000 in
theorem cC_regretPart (l : Launch) (D : va_G) (cI cZ cA : ClassId) (h : Nat → Nat) (hi : nInj 48 h) (p1 : Int32) (σ : nS) (q : Int32 × nS) (hg : gC_regretPart p1 σ = some q) : nMi l yX3_regretPart cX3_regretPart 2 (some .int) 16 D cI cZ cA 48 (cfC cI cZ cA h) h [.ref (h 0), .int p1] σ q.1 q.2 := by
  unfold gC_regretPart at hg
  refine ng_body_i (by decide) hi (Nat.le_of_ble_eq_true rfl) ?_
  intro p e R s m args below meth c sz Q ls hx hb hml hr hlk hts hown hK hR hQ hl hH
  have hown : s.vm.findClass RX3 = some m.cls := hown
  have hl : lv_has ls 2 [(0, .ref (h 0)), (1, .int p1)] := hl
  refine lv_aload_n hx hb dX3_regretPart_0 rfl (lv_at hl 0 rfl) ?_
  refine ng_get hx hb hts hown hK hH 0 (by decide) rfl rfl inlX3 0 (by decide) mw_15 rfl dX3_regretPart_1 ?_
  refine lv_iload_n hx hb dX3_regretPart_4 rfl (lv_at hl 1 rfl) ?_
  obtain ⟨q1, hc2, hg⟩ := ob_b hg
  refine ng_ci (ng_rV hx hb hml hown hts hK hH (As := [.int p1]) (rest := []) 1 (cN_hasPost l D cI cZ cA h hi p1 σ q1 hc2 _) (by decide) rfl rfl mw_145 mw_109 mw_110 mw_14 mw_111 pdX1_hasPost ⟨by rw [hR]; show _ ≤ _; simp only [nRm]; omega, by rw [hR]; show _ ≤ _; simp only [nRm]; omega⟩ hl.1 rfl (Nat.le_of_ble_eq_true rfl) dX3_regretPart_5 ⟨Nat.zero_le _, Nat.zero_le _⟩) hH (fun H locs hH => ?_)
  refine lv_if_eq (tgt := 29) hx hb dX3_regretPart_8 (by decide) (fun c3 => ?_) (fun c3 => ?_)
  · replace hg := ob_t c3 hg
    refine lv_iconst (v := (-1 : Int32)) hx hb dX3_regretPart_29 (by decide) ?_
    subst hQ
    exact ng_iret hx hb hr hlk (congrArg Prod.fst (Option.some.inj hg)) (congrArg Prod.snd (Option.some.inj hg)) hH dX3_regretPart_30
  · replace hg := ob_f c3 hg
    refine lv_aload_n hx hb dX3_regretPart_11 rfl (lv_at hl 0 rfl) ?_
    obtain ⟨q4, hc5, hg⟩ := ob_b hg
    refine ng_ci (ng_rV hx hb hml hown hts hK hH (As := []) (rest := []) 0 (cC_findRegret l D cI cZ cA h hi σ q4 hc5 _) (by decide) rfl rfl mw_419 mw_420 mw_421 mw_2 mw_422 pdX3_findRegret ⟨by rw [hR]; show _ ≤ _; simp only [nRm]; omega, by rw [hR]; show _ ≤ _; simp only [nRm]; omega⟩ hl.1 rfl (Nat.le_of_ble_eq_true rfl) dX3_regretPart_12 ⟨Nat.zero_le _, Nat.zero_le _⟩) hH (fun H locs hH => ?_)
    refine lv_if_eq (tgt := 29) hx hb dX3_regretPart_15 (by decide) (fun c6 => ?_) (fun c6 => ?_)
    · replace hg := ob_t c6 hg
      refine lv_iconst (v := (-1 : Int32)) hx hb dX3_regretPart_29 (by decide) ?_
      subst hQ
      exact ng_iret hx hb hr hlk (congrArg Prod.fst (Option.some.inj hg)) (congrArg Prod.snd (Option.some.inj hg)) hH dX3_regretPart_30
    · replace hg := ob_f c6 hg
      refine lv_aload_n hx hb dX3_regretPart_18 rfl (lv_at hl 0 rfl) ?_
      refine ng_get hx hb hts hown hK hH 0 (by decide) rfl rfl inlX3 1 (by decide) mw_19 rfl dX3_regretPart_19 ?_
      refine lv_iload_n hx hb dX3_regretPart_22 rfl (lv_at hl 1 rfl) ?_
      obtain ⟨q7, hc8, hg⟩ := ob_b hg
      refine ng_ci (ng_rV hx hb hml hown hts hK hH (As := [.int p1]) (rest := []) 9 (cS_partOf l D cI cZ cA h hi p1 q4.2 q7 hc8 _) (by decide) rfl rfl mw_283 mw_284 mw_285 mw_18 mw_286 pdX2_partOf ⟨by rw [hR]; show _ ≤ _; simp only [nRm]; omega, by rw [hR]; show _ ≤ _; simp only [nRm]; omega⟩ hl.1 rfl (Nat.le_of_ble_eq_true rfl) dX3_regretPart_23 ⟨Nat.zero_le _, Nat.zero_le _⟩) hH (fun H locs hH => ?_)
      refine lv_goto (tgt := 30) hx hb dX3_regretPart_26 (by decide) ?_
      subst hQ
      exact ng_iret hx hb hr hlk (congrArg Prod.fst (Option.some.inj hg)) (congrArg Prod.snd (Option.some.inj hg)) hH dX3_regretPart_30
set_option maxHeartbeats 8000000 in
set_option maxRecDepth 100000 in
theorem cN_joinPosts (l : Launch) (D : va_G) (cI cZ cA : ClassId) (h : Nat → Nat) (hi : nInj 48 h) (p1 : Int32) (σ : nS) (q : nS) (hg : gN_joinPosts p1 σ = some q) : nMv l yX1_joinPosts cX1_joinPosts 3 none 1 D cI cZ cA 48 (cfC cI cZ cA h) h [.ref (h 1), .int p1] σ q := by
  unfold gN_joinPosts at hg
  refine ng_body_v (by decide) hi (Nat.le_of_ble_eq_true rfl) ?_
  intro p e R s m args below meth c sz Q ls hx hb hml hr hlk hts hown hK hR hQ hl hH
  have hown : s.vm.findClass RX1 = some m.cls := hown
  have hl : lv_has ls 3 [(0, .ref (h 1)), (1, .int p1)] := hl
  refine lv_iconst (v := (0 : Int32)) hx hb dX1_joinPosts_0 (by decide) ?_
  refine lv_istore_n (lv' := [(2, .int (0 : Int32)), (0, .ref (h 1)), (1, .int p1)]) hx hb dX1_joinPosts_1 rfl hl (by decide) rfl (fun ls hl => ?_)
  have LP_2 : ∀ (K_2 : nS → Option nS) (kk_2 : ∀ (σe_2 : nS) (H : Heap) (locs : List Loc) (ls : Array Slot), K_2 σe_2 = some q → nH D 48 (cfC cI cZ cA h) h (nAd 48 h sz) s.heap σe_2 H locs → lv_has ls 3 [(0, .ref (h 1)), (1, .int p1)] → W p l e R s m args below meth c H locs 0 0 Q (F0 m 23 ls [])) (n : Nat) (v2_2 : Int32) (σl_2 : nS) (H : Heap) (locs : List Loc) (ls : Array Slot), gN_joinPosts_L2 p1 K_2 n v2_2 σl_2 = some q → nH D 48 (cfC cI cZ cA h) h (nAd 48 h sz) s.heap σl_2 H locs → lv_has ls 3 [(0, .ref (h 1)), (1, .int p1), (2, .int v2_2)] → W p l e R s m args below meth c H locs 0 0 Q (F0 m 2 ls []) := by
    intro K_2 kk_2 n
    induction n with
    | zero => intro v2_2 σl_2 H locs ls hg hH hl; rw [gN_joinPosts_L2] at hg; exact ob_n hg
    | succ n ih_2 =>
      intro v2_2 σl_2 H locs ls hg hH hl
      rw [gN_joinPosts_L2] at hg
      refine lv_iload_n hx hb dX1_joinPosts_2 rfl (lv_at hl 2 rfl) ?_
      refine lv_aload_n hx hb dX1_joinPosts_3 rfl (lv_at hl 0 rfl) ?_
      refine ng_get hx hb hts hown hK hH 1 (by decide) rfl rfl inlX1 5 (by decide) mw_37 rfl dX1_joinPosts_4 ?_
      refine lv_icmp_ge (tgt := 23) hx hb dX1_joinPosts_7 (by decide) (fun c13 => ?_) (fun c13 => ?_)
      · replace hg := ob_t c13 hg
        exact kk_2 σl_2 H locs ls hg hH (lv_sub hl [0, 1] rfl)
      · replace hg := ob_f c13 hg
        refine lv_aload_n hx hb dX1_joinPosts_10 rfl (lv_at hl 0 rfl) ?_
        refine ng_get hx hb hts hown hK hH 1 (by decide) rfl rfl inlX1 8 (by decide) mw_40 rfl dX1_joinPosts_11 ?_
        refine lv_iload_n hx hb dX1_joinPosts_14 rfl (lv_at hl 2 rfl) ?_
        refine lv_iconst (v := (0 : Int32)) hx hb dX1_joinPosts_15 (by decide) ?_
        obtain ⟨hb14, hg⟩ := ob_i hg
        refine ng_iast hx hb hK hH 8 (by decide) (fun _ => rfl) hb14 dX1_joinPosts_16 (fun H locs hH => ?_)
        refine lv_iinc (v := (v2_2 + 1)) (lv' := [(2, .int (v2_2 + 1)), (0, .ref (h 1)), (1, .int p1)]) hx hb dX1_joinPosts_17 hl (k := 2) rfl rfl (by decide) rfl (fun ls hl => ?_)
        refine lv_goto (tgt := 2) hx hb dX1_joinPosts_20 (by decide) ?_
        exact ih_2 (v2_2 + 1) (nst σl_2 8 v2_2.toNatClampNeg (0 : Int32)) H locs ls hg hH (lv_sub hl [1, 2, 0] rfl)
  refine LP_2 _ ?_ _ _ _ _ _ _ hg hH (lv_sub hl [1, 2, 0] rfl)
  intro σe_2 H locs ls hg hH hl
  refine lv_iconst (v := (0 : Int32)) hx hb dX1_joinPosts_23 (by decide) ?_
  refine lv_istore_n (lv' := [(2, .int (0 : Int32)), (0, .ref (h 1)), (1, .int p1)]) hx hb dX1_joinPosts_24 rfl hl (by decide) rfl (fun ls hl => ?_)
  have LP_25 : ∀ (K_25 : nS → Option nS) (kk_25 : ∀ (σe_25 : nS) (H : Heap) (locs : List Loc) (ls : Array Slot), K_25 σe_25 = some q → nH D 48 (cfC cI cZ cA h) h (nAd 48 h sz) s.heap σe_25 H locs → lv_has ls 3 [] → W p l e R s m args below meth c H locs 0 0 Q (F0 m 97 ls [])) (n : Nat) (v2_25 : Int32) (σl_25 : nS) (H : Heap) (locs : List Loc) (ls : Array Slot), gN_joinPosts_L25 p1 K_25 n v2_25 σl_25 = some q → nH D 48 (cfC cI cZ cA h) h (nAd 48 h sz) s.heap σl_25 H locs → lv_has ls 3 [(0, .ref (h 1)), (1, .int p1), (2, .int v2_25)] → W p l e R s m args below meth c H locs 0 0 Q (F0 m 25 ls []) := by
    intro K_25 kk_25 n
    induction n with
    | zero => intro v2_25 σl_25 H locs ls hg hH hl; rw [gN_joinPosts_L25] at hg; exact ob_n hg
    | succ n ih_25 =>
      intro v2_25 σl_25 H locs ls hg hH hl
      rw [gN_joinPosts_L25] at hg
      refine lv_iload_n hx hb dX1_joinPosts_25 rfl (lv_at hl 2 rfl) ?_
      refine lv_aload_n hx hb dX1_joinPosts_26 rfl (lv_at hl 0 rfl) ?_
      refine ng_get hx hb hts hown hK hH 1 (by decide) rfl rfl inlX1 6 (by decide) mw_38 rfl dX1_joinPosts_27 ?_
      refine lv_icmp_ge (tgt := 97) hx hb dX1_joinPosts_30 (by decide) (fun c1 => ?_) (fun c1 => ?_)
      · replace hg := ob_t c1 hg
        exact kk_25 σl_25 H locs ls hg hH (lv_sub hl [] rfl)
      · replace hg := ob_f c1 hg
        refine lv_aload_n hx hb dX1_joinPosts_33 rfl (lv_at hl 0 rfl) ?_
        refine ng_get hx hb hts hown hK hH 1 (by decide) rfl rfl inlX1 4 (by decide) mw_36 rfl dX1_joinPosts_34 ?_
        refine lv_iload_n hx hb dX1_joinPosts_37 rfl (lv_at hl 2 rfl) ?_
        obtain ⟨hb2, hg⟩ := ob_i hg
        refine ng_zald hx hb hK hH 6 (by decide) (fun _ => rfl) hb2 dX1_joinPosts_38 ?_
        refine lv_if_ne (tgt := 91) hx hb dX1_joinPosts_39 (by decide) (fun c3 => ?_) (fun c3 => ?_)
        · replace hg := ob_f c3 hg
          refine lv_iinc (v := (v2_25 + 1)) (lv' := [(2, .int (v2_25 + 1)), (0, .ref (h 1)), (1, .int p1)]) hx hb dX1_joinPosts_91 hl (k := 2) rfl rfl (by decide) rfl (fun ls hl => ?_)
          refine lv_goto (tgt := 25) hx hb dX1_joinPosts_94 (by decide) ?_
          exact ih_25 (v2_25 + 1) σl_25 H locs ls hg hH (lv_sub hl [1, 2, 0] rfl)
        · replace hg := ob_t c3 hg
          refine lv_iload_n hx hb dX1_joinPosts_42 rfl (lv_at hl 2 rfl) ?_
          refine lv_iload_n hx hb dX1_joinPosts_43 rfl (lv_at hl 1 rfl) ?_
          refine lv_icmp_eq (tgt := 91) hx hb dX1_joinPosts_44 (by decide) (fun c4 => ?_) (fun c4 => ?_)
          · replace hg := ob_t c4 hg
            refine lv_iinc (v := (v2_25 + 1)) (lv' := [(2, .int (v2_25 + 1)), (0, .ref (h 1)), (1, .int p1)]) hx hb dX1_joinPosts_91 hl (k := 2) rfl rfl (by decide) rfl (fun ls hl => ?_)
            refine lv_goto (tgt := 25) hx hb dX1_joinPosts_94 (by decide) ?_
            exact ih_25 (v2_25 + 1) σl_25 H locs ls hg hH (lv_sub hl [1, 2, 0] rfl)
          · replace hg := ob_f c4 hg
            refine lv_aload_n hx hb dX1_joinPosts_47 rfl (lv_at hl 0 rfl) ?_
            refine ng_get hx hb hts hown hK hH 1 (by decide) rfl rfl inlX1 8 (by decide) mw_40 rfl dX1_joinPosts_48 ?_
            refine lv_aload_n hx hb dX1_joinPosts_51 rfl (lv_at hl 0 rfl) ?_
            refine ng_get hx hb hts hown hK hH 1 (by decide) rfl rfl inlX1 0 (by decide) mw_31 rfl dX1_joinPosts_52 ?_
            refine lv_iload_n hx hb dX1_joinPosts_55 rfl (lv_at hl 2 rfl) ?_
            obtain ⟨hb5, hg⟩ := ob_i hg
            refine ng_iald hx hb hK hH 2 (by decide) (fun _ => rfl) hb5 dX1_joinPosts_56 ?_
            refine lv_dup2_11 hx hb dX1_joinPosts_57 rfl rfl ?_
            obtain ⟨hb6, hg⟩ := ob_i hg
            refine ng_iald hx hb hK hH 8 (by decide) (fun _ => rfl) hb6 dX1_joinPosts_58 ?_
            refine lv_iconst (v := (1 : Int32)) hx hb dX1_joinPosts_59 (by decide) ?_
            refine lv_aload_n hx hb dX1_joinPosts_60 rfl (lv_at hl 0 rfl) ?_
            refine ng_get hx hb hts hown hK hH 1 (by decide) rfl rfl inlX1 1 (by decide) mw_32 rfl dX1_joinPosts_61 ?_
            refine lv_iload_n hx hb dX1_joinPosts_64 rfl (lv_at hl 2 rfl) ?_
            obtain ⟨hb7, hg⟩ := ob_i hg
            refine ng_iald hx hb hK hH 3 (by decide) (fun _ => rfl) hb7 dX1_joinPosts_65 ?_
            refine lv_ishl hx hb dX1_joinPosts_66 ?_
            refine lv_ior hx hb dX1_joinPosts_67 ?_
            obtain ⟨hb8, hg⟩ := ob_i hg
            refine ng_iast hx hb hK hH 8 (by decide) (fun _ => rfl) hb8 dX1_joinPosts_68 (fun H locs hH => ?_)
            refine lv_aload_n hx hb dX1_joinPosts_69 rfl (lv_at hl 0 rfl) ?_
            refine ng_get hx hb hts hown hK hH 1 (by decide) rfl rfl inlX1 8 (by decide) mw_40 rfl dX1_joinPosts_70 ?_
            refine lv_aload_n hx hb dX1_joinPosts_73 rfl (lv_at hl 0 rfl) ?_
            refine ng_get hx hb hts hown hK hH 1 (by decide) rfl rfl inlX1 1 (by decide) mw_32 rfl dX1_joinPosts_74 ?_
            refine lv_iload_n hx hb dX1_joinPosts_77 rfl (lv_at hl 2 rfl) ?_
            obtain ⟨hb9, hg⟩ := ob_i hg
            refine ng_iald hx hb hK hH 3 (by decide) (fun _ => rfl) hb9 dX1_joinPosts_78 ?_
            refine lv_dup2_11 hx hb dX1_joinPosts_79 rfl rfl ?_
            obtain ⟨hb10, hg⟩ := ob_i hg
            refine ng_iald hx hb hK hH 8 (by decide) (fun _ => rfl) hb10 dX1_joinPosts_80 ?_
            refine lv_iconst (v := (1 : Int32)) hx hb dX1_joinPosts_81 (by decide) ?_
            refine lv_aload_n hx hb dX1_joinPosts_82 rfl (lv_at hl 0 rfl) ?_
            refine ng_get hx hb hts hown hK hH 1 (by decide) rfl rfl inlX1 0 (by decide) mw_31 rfl dX1_joinPosts_83 ?_
            refine lv_iload_n hx hb dX1_joinPosts_86 rfl (lv_at hl 2 rfl) ?_
            obtain ⟨hb11, hg⟩ := ob_i hg
            refine ng_iald hx hb hK hH 2 (by decide) (fun _ => rfl) hb11 dX1_joinPosts_87 ?_
            refine lv_ishl hx hb dX1_joinPosts_88 ?_
            refine lv_ior hx hb dX1_joinPosts_89 ?_
            obtain ⟨hb12, hg⟩ := ob_i hg
            refine ng_iast hx hb hK hH 8 (by decide) (fun _ => rfl) hb12 dX1_joinPosts_90 (fun H locs hH => ?_)
            refine lv_iinc (v := (v2_25 + 1)) (lv' := [(2, .int (v2_25 + 1)), (0, .ref (h 1)), (1, .int p1)]) hx hb dX1_joinPosts_91 hl (k := 2) rfl rfl (by decide) rfl (fun ls hl => ?_)
            refine lv_goto (tgt := 25) hx hb dX1_joinPosts_94 (by decide) ?_
            exact ih_25 (v2_25 + 1) (nst (nst σl_25 8 (σl_25 2 v2_25.toNatClampNeg).toNatClampNeg ((σl_25 8 (σl_25 2 v2_25.toNatClampNeg).toNatClampNeg) ||| ((1 : Int32) <<< ((σl_25 3 v2_25.toNatClampNeg) &&& 31)))) 8 ((nst σl_25 8 (σl_25 2 v2_25.toNatClampNeg).toNatClampNeg ((σl_25 8 (σl_25 2 v2_25.toNatClampNeg).toNatClampNeg) ||| ((1 : Int32) <<< ((σl_25 3 v2_25.toNatClampNeg) &&& 31)))) 3 v2_25.toNatClampNeg).toNatClampNeg (((nst σl_25 8 (σl_25 2 v2_25.toNatClampNeg).toNatClampNeg ((σl_25 8 (σl_25 2 v2_25.toNatClampNeg).toNatClampNeg) ||| ((1 : Int32) <<< ((σl_25 3 v2_25.toNatClampNeg) &&& 31)))) 8 ((nst σl_25 8 (σl_25 2 v2_25.toNatClampNeg).toNatClampNeg ((σl_25 8 (σl_25 2 v2_25.toNatClampNeg).toNatClampNeg) ||| ((1 : Int32) <<< ((σl_25 3 v2_25.toNatClampNeg) &&& 31)))) 3 v2_25.toNatClampNeg).toNatClampNeg) ||| ((1 : Int32) <<< (((nst σl_25 8 (σl_25 2 v2_25.toNatClampNeg).toNatClampNeg ((σl_25 8 (σl_25 2 v2_25.toNatClampNeg).toNatClampNeg) ||| ((1 : Int32) <<< ((σl_25 3 v2_25.toNatClampNeg) &&& 31)))) 2 v2_25.toNatClampNeg) &&& 31)))) H locs ls hg hH (lv_sub hl [1, 2, 0] rfl)
  refine LP_25 _ ?_ _ _ _ _ _ _ hg hH (lv_sub hl [1, 2, 0] rfl)
  intro σe_25 H locs ls hg hH hl
  subst hQ
  exact ng_vret hx hb hr hlk (Option.some.inj hg) hH dX1_joinPosts_97
set_option maxHeartbeats 8000000 in
set_option maxRecDepth 100000 in
theorem cN_priceOfHeap (l : Launch) (D : va_G) (cI cZ cA : ClassId) (h : Nat → Nat) (hi : nInj 48 h) (p1 : Int32) (σ : nS) (q : Int32) (hg : gN_priceOfHeap p1 σ = some q) : nMi l yX1_priceOfHeap cX1_priceOfHeap 4 (some .int) 2 D cI cZ cA 48 (cfC cI cZ cA h) h [.ref (h 1), .int p1] σ q σ := by
  unfold gN_priceOfHeap at hg
  refine ng_body_i (by decide) hi (Nat.le_of_ble_eq_true rfl) ?_
  intro p e R s m args below meth c sz Q ls hx hb hml hr hlk hts hown hK hR hQ hl hH
  have hown : s.vm.findClass RX1 = some m.cls := hown
  have hl : lv_has ls 4 [(0, .ref (h 1)), (1, .int p1)] := hl
  refine lv_iconst (v := (0 : Int32)) hx hb dX1_priceOfHeap_0 (by decide) ?_
  refine lv_istore_n (lv' := [(2, .int (0 : Int32)), (0, .ref (h 1)), (1, .int p1)]) hx hb dX1_priceOfHeap_1 rfl hl (by decide) rfl (fun ls hl => ?_)
  refine lv_iconst (v := (0 : Int32)) hx hb dX1_priceOfHeap_2 (by decide) ?_
  refine lv_istore_n (lv' := [(3, .int (0 : Int32)), (2, .int (0 : Int32)), (0, .ref (h 1)), (1, .int p1)]) hx hb dX1_priceOfHeap_3 rfl hl (by decide) rfl (fun ls hl => ?_)
  have LP_4 : ∀ (K_4 : Int32 → Option Int32) (kk_4 : ∀ (w2_4 : Int32) (H : Heap) (locs : List Loc) (ls : Array Slot), K_4 w2_4 = some q → nH D 48 (cfC cI cZ cA h) h (nAd 48 h sz) s.heap σ H locs → lv_has ls 4 [(2, .int w2_4)] → W p l e R s m args below meth c H locs 0 0 Q (F0 m 35 ls [])) (n : Nat) (v2_4 v3_4 : Int32) (H : Heap) (locs : List Loc) (ls : Array Slot), gN_priceOfHeap_L4 p1 σ K_4 n v2_4 v3_4 = some q → nH D 48 (cfC cI cZ cA h) h (nAd 48 h sz) s.heap σ H locs → lv_has ls 4 [(0, .ref (h 1)), (1, .int p1), (2, .int v2_4), (3, .int v3_4)] → W p l e R s m args below meth c H locs 0 0 Q (F0 m 4 ls []) := by
    intro K_4 kk_4 n
    induction n with
    | zero => intro v2_4 v3_4 H locs ls hg hH hl; rw [gN_priceOfHeap_L4] at hg; exact ob_n hg
    | succ n ih_4 =>
      intro v2_4 v3_4 H locs ls hg hH hl
      rw [gN_priceOfHeap_L4] at hg
      refine lv_iload_n hx hb dX1_priceOfHeap_4 rfl (lv_at hl 3 rfl) ?_
      refine lv_aload_n hx hb dX1_priceOfHeap_5 rfl (lv_at hl 0 rfl) ?_
      refine ng_get hx hb hts hown hK hH 1 (by decide) rfl rfl inlX1 5 (by decide) mw_37 rfl dX1_priceOfHeap_6 ?_
      refine lv_icmp_ge (tgt := 35) hx hb dX1_priceOfHeap_9 (by decide) (fun c1 => ?_) (fun c1 => ?_)
      · replace hg := ob_t c1 hg
        exact kk_4 v2_4 H locs ls hg hH (lv_sub hl [2] rfl)
      · replace hg := ob_f c1 hg
        refine lv_iload_n hx hb dX1_priceOfHeap_12 rfl (lv_at hl 1 rfl) ?_
        refine lv_iload_n hx hb dX1_priceOfHeap_13 rfl (lv_at hl 3 rfl) ?_
        obtain ⟨q2, hc3, hg⟩ := ob_b hg
        refine ng_ci (ng_rSN (host := "NetCuts") hx hb hml hown hts hK hH (As := [.int p1, .int v3_4]) (rest := []) (cC_holds l D cI cZ cA h hi p1 v3_4 σ q2 hc3 _) hK.2.2 mw_147 mw_2 mw_148 pdX3_holds.2 ⟨by rw [hR]; show _ ≤ _; simp only [nRm]; omega, by rw [hR]; show _ ≤ _; simp only [nRm]; omega⟩ hl.1 rfl (Nat.le_of_ble_eq_true rfl) dX1_priceOfHeap_14 ⟨Nat.zero_le _, Nat.zero_le _⟩) hH (fun H locs hH => ?_)
        refine lv_if_eq (tgt := 29) hx hb dX1_priceOfHeap_17 (by decide) (fun c4 => ?_) (fun c4 => ?_)
        · replace hg := ob_t c4 hg
          refine lv_iinc (v := (v3_4 + 1)) (lv' := [(3, .int (v3_4 + 1)), (0, .ref (h 1)), (1, .int p1), (2, .int v2_4)]) hx hb dX1_priceOfHeap_29 hl (k := 3) rfl rfl (by decide) rfl (fun ls hl => ?_)
          refine lv_goto (tgt := 4) hx hb dX1_priceOfHeap_32 (by decide) ?_
          exact ih_4 v2_4 (v3_4 + 1) H locs ls hg hH (lv_sub hl [1, 2, 3, 0] rfl)
        · replace hg := ob_f c4 hg
          refine lv_iload_n hx hb dX1_priceOfHeap_20 rfl (lv_at hl 2 rfl) ?_
          refine lv_aload_n hx hb dX1_priceOfHeap_21 rfl (lv_at hl 0 rfl) ?_
          refine ng_get hx hb hts hown hK hH 1 (by decide) rfl rfl inlX1 7 (by decide) mw_39 rfl dX1_priceOfHeap_22 ?_
          refine lv_iload_n hx hb dX1_priceOfHeap_25 rfl (lv_at hl 3 rfl) ?_
          obtain ⟨hb5, hg⟩ := ob_i hg
          refine ng_iald hx hb hK hH 7 (by decide) (fun _ => rfl) hb5 dX1_priceOfHeap_26 ?_
          refine lv_iadd hx hb dX1_priceOfHeap_27 ?_
          refine lv_istore_n (lv' := [(2, .int (v2_4 + (σ 7 v3_4.toNatClampNeg))), (0, .ref (h 1)), (1, .int p1), (3, .int v3_4)]) hx hb dX1_priceOfHeap_28 rfl hl (by decide) rfl (fun ls hl => ?_)
          refine lv_iinc (v := (v3_4 + 1)) (lv' := [(3, .int (v3_4 + 1)), (2, .int (v2_4 + (σ 7 v3_4.toNatClampNeg))), (0, .ref (h 1)), (1, .int p1)]) hx hb dX1_priceOfHeap_29 hl (k := 3) rfl rfl (by decide) rfl (fun ls hl => ?_)
          refine lv_goto (tgt := 4) hx hb dX1_priceOfHeap_32 (by decide) ?_
          exact ih_4 (v2_4 + (σ 7 v3_4.toNatClampNeg)) (v3_4 + 1) H locs ls hg hH (lv_sub hl [2, 3, 1, 0] rfl)
  refine LP_4 _ ?_ _ _ _ _ _ _ hg hH (lv_sub hl [2, 3, 1, 0] rfl)
  intro w2_4 H locs ls hg hH hl
  refine lv_iload_n hx hb dX1_priceOfHeap_35 rfl (lv_at hl 0 rfl) ?_
  subst hQ
  exact ng_iret hx hb hr hlk (Option.some.inj hg) rfl hH dX1_priceOfHeap_36
set_option maxHeartbeats 8000000 in
set_option maxRecDepth 100000 in
theorem cN_reach (l : Launch) (D : va_G) (cI cZ cA : ClassId) (h : Nat → Nat) (hi : nInj 48 h) (p1 p2 : Int32) (σ : nS) (q : Int32) (hg : gN_reach p1 p2 σ = some q) : nMi l yX1_reach cX1_reach 7 (some .int) 2 D cI cZ cA 48 (cfC cI cZ cA h) h [.ref (h 1), .int p1, .int p2] σ q σ := by
  unfold gN_reach at hg
  refine ng_body_i (by decide) hi (Nat.le_of_ble_eq_true rfl) ?_
  intro p e R s m args below meth c sz Q ls hx hb hml hr hlk hts hown hK hR hQ hl hH
  have hown : s.vm.findClass RX1 = some m.cls := hown
  have hl : lv_has ls 7 [(0, .ref (h 1)), (1, .int p1), (2, .int p2)] := hl
  refine lv_iconst (v := (1 : Int32)) hx hb dX1_reach_0 (by decide) ?_
  refine lv_iload_n hx hb dX1_reach_1 rfl (lv_at hl 1 rfl) ?_
  refine lv_ishl hx hb dX1_reach_2 ?_
  refine lv_istore_n (lv' := [(3, .int ((1 : Int32) <<< (p1 &&& 31))), (0, .ref (h 1)), (1, .int p1), (2, .int p2)]) hx hb dX1_reach_3 rfl hl (by decide) rfl (fun ls hl => ?_)
  refine lv_iconst (v := (1 : Int32)) hx hb dX1_reach_4 (by decide) ?_
  refine lv_istore (lv' := [(4, .int (1 : Int32)), (3, .int ((1 : Int32) <<< (p1 &&& 31))), (0, .ref (h 1)), (1, .int p1), (2, .int p2)]) hx hb dX1_reach_5 hl (by decide) rfl (fun ls hl => ?_)
  have LP_7 : ∀ (K_7 : Int32 → Option Int32) (kk_7 : ∀ (w3_7 : Int32) (H : Heap) (locs : List Loc) (ls : Array Slot), K_7 w3_7 = some q → nH D 48 (cfC cI cZ cA h) h (nAd 48 h sz) s.heap σ H locs → lv_has ls 7 [(3, .int w3_7)] → W p l e R s m args below meth c H locs 0 0 Q (F0 m 79 ls [])) (n : Nat) (v3_7 v4_7 : Int32) (H : Heap) (locs : List Loc) (ls : Array Slot), gN_reach_L7 p2 σ K_7 n v3_7 v4_7 = some q → nH D 48 (cfC cI cZ cA h) h (nAd 48 h sz) s.heap σ H locs → lv_has ls 7 [(0, .ref (h 1)), (2, .int p2), (3, .int v3_7), (4, .int v4_7)] → W p l e R s m args below meth c H locs 0 0 Q (F0 m 7 ls []) := by
    intro K_7 kk_7 n
    induction n with
    | zero => intro v3_7 v4_7 H locs ls hg hH hl; rw [gN_reach_L7] at hg; exact ob_n hg
    | succ n ih_7 =>
      intro v3_7 v4_7 H locs ls hg hH hl
      rw [gN_reach_L7] at hg
      refine lv_iload hx hb dX1_reach_7 (lv_at hl 3 rfl) ?_
      refine lv_aload_n hx hb dX1_reach_9 rfl (lv_at hl 0 rfl) ?_
      refine ng_get hx hb hts hown hK hH 1 (by decide) rfl rfl inlX1 5 (by decide) mw_37 rfl dX1_reach_10 ?_
      refine lv_icmp_ge (tgt := 79) hx hb dX1_reach_13 (by decide) (fun c1 => ?_) (fun c1 => ?_)
      · replace hg := ob_t c1 hg
        exact kk_7 v3_7 H locs ls hg hH (lv_sub hl [2] rfl)
      · replace hg := ob_f c1 hg
        refine lv_iload_n hx hb dX1_reach_16 rfl (lv_at hl 2 rfl) ?_
        refine lv_istore (lv' := [(5, .int v3_7), (0, .ref (h 1)), (2, .int p2), (3, .int v3_7), (4, .int v4_7)]) hx hb dX1_reach_17 hl (by decide) rfl (fun ls hl => ?_)
        refine lv_iconst (v := (0 : Int32)) hx hb dX1_reach_19 (by decide) ?_
        refine lv_istore (lv' := [(6, .int (0 : Int32)), (5, .int v3_7), (0, .ref (h 1)), (2, .int p2), (3, .int v3_7), (4, .int v4_7)]) hx hb dX1_reach_20 hl (by decide) rfl (fun ls hl => ?_)
        have LP_22 : ∀ (K_22 : Int32 → Option Int32) (kk_22 : ∀ (w5_22 : Int32) (H : Heap) (locs : List Loc) (ls : Array Slot), K_22 w5_22 = some q → nH D 48 (cfC cI cZ cA h) h (nAd 48 h sz) s.heap σ H locs → lv_has ls 7 [(0, .ref (h 1)), (2, .int p2), (3, .int v3_7), (4, .int v4_7), (5, .int w5_22)] → W p l e R s m args below meth c H locs 0 0 Q (F0 m 62 ls [])) (n : Nat) (v5_22 v6_22 : Int32) (H : Heap) (locs : List Loc) (ls : Array Slot), gN_reach_L22 p2 v3_7 v4_7 σ K_22 n v5_22 v6_22 = some q → nH D 48 (cfC cI cZ cA h) h (nAd 48 h sz) s.heap σ H locs → lv_has ls 7 [(0, .ref (h 1)), (2, .int p2), (3, .int v3_7), (4, .int v4_7), (5, .int v5_22), (6, .int v6_22)] → W p l e R s m args below meth c H locs 0 0 Q (F0 m 22 ls []) := by
          intro K_22 kk_22 n
          induction n with
          | zero => intro v5_22 v6_22 H locs ls hg hH hl; rw [gN_reach_L22] at hg; exact ob_n hg
          | succ n ih_22 =>
            intro v5_22 v6_22 H locs ls hg hH hl
            rw [gN_reach_L22] at hg
            refine lv_iload hx hb dX1_reach_22 (lv_at hl 5 rfl) ?_
            refine lv_aload_n hx hb dX1_reach_24 rfl (lv_at hl 0 rfl) ?_
            refine ng_get hx hb hts hown hK hH 1 (by decide) rfl rfl inlX1 5 (by decide) mw_37 rfl dX1_reach_25 ?_
            refine lv_icmp_ge (tgt := 62) hx hb dX1_reach_28 (by decide) (fun c3 => ?_) (fun c3 => ?_)
            · replace hg := ob_t c3 hg
              exact kk_22 v5_22 H locs ls hg hH (lv_sub hl [0, 1, 2, 3, 4] rfl)
            · replace hg := ob_f c3 hg
              refine lv_iload_n hx hb dX1_reach_31 rfl (lv_at hl 2 rfl) ?_
              refine lv_iload hx hb dX1_reach_32 (lv_at hl 5 rfl) ?_
              obtain ⟨q4, hc5, hg⟩ := ob_b hg
              refine ng_ci (ng_rSN (host := "NetCuts") hx hb hml hown hts hK hH (As := [.int v3_7, .int v6_22]) (rest := []) (cC_holds l D cI cZ cA h hi v3_7 v6_22 σ q4 hc5 _) hK.2.2 mw_147 mw_2 mw_148 pdX3_holds.2 ⟨by rw [hR]; show _ ≤ _; simp only [nRm]; omega, by rw [hR]; show _ ≤ _; simp only [nRm]; omega⟩ hl.1 rfl (Nat.le_of_ble_eq_true rfl) dX1_reach_34 ⟨Nat.zero_le _, Nat.zero_le _⟩) hH (fun H locs hH => ?_)
              refine lv_if_eq (tgt := 56) hx hb dX1_reach_37 (by decide) (fun c6 => ?_) (fun c6 => ?_)
              · replace hg := ob_t c6 hg
                refine lv_iinc (v := (v6_22 + 1)) (lv' := [(6, .int (v6_22 + 1)), (0, .ref (h 1)), (2, .int p2), (3, .int v3_7), (4, .int v4_7), (5, .int v5_22)]) hx hb dX1_reach_56 hl (k := 5) rfl rfl (by decide) rfl (fun ls hl => ?_)
                refine lv_goto (tgt := 22) hx hb dX1_reach_59 (by decide) ?_
                exact ih_22 v5_22 (v6_22 + 1) H locs ls hg hH (lv_sub hl [1, 2, 3, 4, 5, 0] rfl)
              · replace hg := ob_f c6 hg
                refine lv_iload hx hb dX1_reach_40 (lv_at hl 4 rfl) ?_
                refine lv_aload_n hx hb dX1_reach_42 rfl (lv_at hl 0 rfl) ?_
                refine ng_get hx hb hts hown hK hH 1 (by decide) rfl rfl inlX1 8 (by decide) mw_40 rfl dX1_reach_43 ?_
                refine lv_iload hx hb dX1_reach_46 (lv_at hl 5 rfl) ?_
                obtain ⟨hb7, hg⟩ := ob_i hg
                refine ng_iald hx hb hK hH 8 (by decide) (fun _ => rfl) hb7 dX1_reach_48 ?_
                refine lv_iload_n hx hb dX1_reach_49 rfl (lv_at hl 1 rfl) ?_
                refine lv_iconst (v := (-1 : Int32)) hx hb dX1_reach_50 (by decide) ?_
                refine lv_ixor hx hb dX1_reach_51 ?_
                refine lv_iand hx hb dX1_reach_52 ?_
                refine lv_ior hx hb dX1_reach_53 ?_
                refine lv_istore (lv' := [(5, .int (v5_22 ||| ((σ 8 v6_22.toNatClampNeg) &&& (p2 ^^^ (-1 : Int32))))), (0, .ref (h 1)), (2, .int p2), (3, .int v3_7), (4, .int v4_7), (6, .int v6_22)]) hx hb dX1_reach_54 hl (by decide) rfl (fun ls hl => ?_)
                refine lv_iinc (v := (v6_22 + 1)) (lv' := [(6, .int (v6_22 + 1)), (5, .int (v5_22 ||| ((σ 8 v6_22.toNatClampNeg) &&& (p2 ^^^ (-1 : Int32))))), (0, .ref (h 1)), (2, .int p2), (3, .int v3_7), (4, .int v4_7)]) hx hb dX1_reach_56 hl (k := 5) rfl rfl (by decide) rfl (fun ls hl => ?_)
                refine lv_goto (tgt := 22) hx hb dX1_reach_59 (by decide) ?_
                exact ih_22 (v5_22 ||| ((σ 8 v6_22.toNatClampNeg) &&& (p2 ^^^ (-1 : Int32)))) (v6_22 + 1) H locs ls hg hH (lv_sub hl [2, 3, 4, 5, 1, 0] rfl)
        refine LP_22 _ ?_ _ _ _ _ _ _ hg hH (lv_sub hl [2, 3, 4, 5, 1, 0] rfl)
        intro w5_22 H locs ls hg hH hl
        refine lv_iload hx hb dX1_reach_62 (lv_at hl 4 rfl) ?_
        refine lv_iload_n hx hb dX1_reach_64 rfl (lv_at hl 2 rfl) ?_
        refine lv_icmp_ne (tgt := 70) hx hb dX1_reach_65 (by decide) (fun c2 => ?_) (fun c2 => ?_)
        · replace hg := ob_f c2 hg
          refine lv_iload hx hb dX1_reach_70 (lv_at hl 4 rfl) ?_
          refine lv_istore_n (lv' := [(3, .int w5_22), (0, .ref (h 1)), (2, .int p2), (4, .int v4_7), (5, .int w5_22)]) hx hb dX1_reach_72 rfl hl (by decide) rfl (fun ls hl => ?_)
          refine lv_iinc (v := (v4_7 + 1)) (lv' := [(4, .int (v4_7 + 1)), (3, .int w5_22), (0, .ref (h 1)), (2, .int p2), (5, .int w5_22)]) hx hb dX1_reach_73 hl (k := 3) rfl rfl (by decide) rfl (fun ls hl => ?_)
          refine lv_goto (tgt := 7) hx hb dX1_reach_76 (by decide) ?_
          exact ih_7 w5_22 (v4_7 + 1) H locs ls hg hH (lv_sub hl [2, 3, 1, 0] rfl)
        · replace hg := ob_t c2 hg
          refine lv_iload_n hx hb dX1_reach_68 rfl (lv_at hl 2 rfl) ?_
          subst hQ
          exact ng_iret hx hb hr hlk (Option.some.inj hg) rfl hH dX1_reach_69
  refine LP_7 _ ?_ _ _ _ _ _ _ hg hH (lv_sub hl [2, 4, 1, 0] rfl)
  intro w3_7 H locs ls hg hH hl
  refine lv_iload_n hx hb dX1_reach_79 rfl (lv_at hl 0 rfl) ?_
  subst hQ
  exact ng_iret hx hb hr hlk (Option.some.inj hg) rfl hH dX1_reach_80
set_option maxHeartbeats 8000000 in
set_option maxRecDepth 100000 in
theorem cN_barringHeap (l : Launch) (D : va_G) (cI cZ cA : ClassId) (h : Nat → Nat) (hi : nInj 48 h) (p1 p2 : Int32) (σ : nS) (q : Int32 × nS) (hg : gN_barringHeap p1 p2 σ = some q) : nMi l yX1_barringHeap cX1_barringHeap 8 (some .int) 3 D cI cZ cA 48 (cfC cI cZ cA h) h [.ref (h 1), .int p1, .int p2] σ q.1 q.2 := by
  unfold gN_barringHeap at hg
  refine ng_body_i (by decide) hi (Nat.le_of_ble_eq_true rfl) ?_
  intro p e R s m args below meth c sz Q ls hx hb hml hr hlk hts hown hK hR hQ hl hH
  have hown : s.vm.findClass RX1 = some m.cls := hown
  have hl : lv_has ls 8 [(0, .ref (h 1)), (1, .int p1), (2, .int p2)] := hl
  refine lv_aload_n hx hb dX1_barringHeap_0 rfl (lv_at hl 0 rfl) ?_
  refine lv_iload_n hx hb dX1_barringHeap_1 rfl (lv_at hl 1 rfl) ?_
  refine lv_iload_n hx hb dX1_barringHeap_2 rfl (lv_at hl 2 rfl) ?_
  obtain ⟨q1, hc2, hg⟩ := ob_b hg
  refine ng_ci (ng_rV hx hb hml hown hts hK hH (As := [.int p1, .int p2]) (rest := []) 1 (cN_hasTwo l D cI cZ cA h hi p1 p2 σ q1 hc2 _) (by decide) rfl rfl mw_104 mw_105 mw_106 mw_14 mw_107 pdX1_hasTwo ⟨by rw [hR]; show _ ≤ _; simp only [nRm]; omega, by rw [hR]; show _ ≤ _; simp only [nRm]; omega⟩ hl.1 rfl (Nat.le_of_ble_eq_true rfl) dX1_barringHeap_3 ⟨Nat.zero_le _, Nat.zero_le _⟩) hH (fun H locs hH => ?_)
  refine lv_if_ne (tgt := 11) hx hb dX1_barringHeap_6 (by decide) (fun c3 => ?_) (fun c3 => ?_)
  · replace hg := ob_f c3 hg
    refine lv_aload_n hx hb dX1_barringHeap_11 rfl (lv_at hl 0 rfl) ?_
    refine lv_iconst (v := (-1 : Int32)) hx hb dX1_barringHeap_12 (by decide) ?_
    obtain ⟨q4, hc5, hg⟩ := ob_b hg
    refine ng_cv (ng_rV hx hb hml hown hts hK hH (As := [.int (-1 : Int32)]) (rest := []) 1 (cN_joinPosts l D cI cZ cA h hi (-1 : Int32) σ q4 hc5 _) (by decide) rfl rfl mw_445 mw_446 mw_447 mw_14 mw_448 pdX1_joinPosts ⟨by rw [hR]; show _ ≤ _; simp only [nRm]; omega, by rw [hR]; show _ ≤ _; simp only [nRm]; omega⟩ hl.1 rfl (Nat.le_of_ble_eq_true rfl) dX1_barringHeap_13 ⟨Nat.zero_le _, Nat.zero_le _⟩) hH (fun H locs hH => ?_)
    refine lv_iconst (v := (1 : Int32)) hx hb dX1_barringHeap_16 (by decide) ?_
    refine lv_iload_n hx hb dX1_barringHeap_17 rfl (lv_at hl 1 rfl) ?_
    refine lv_ishl hx hb dX1_barringHeap_18 ?_
    refine lv_iconst (v := (1 : Int32)) hx hb dX1_barringHeap_19 (by decide) ?_
    refine lv_iload_n hx hb dX1_barringHeap_20 rfl (lv_at hl 2 rfl) ?_
    refine lv_ishl hx hb dX1_barringHeap_21 ?_
    refine lv_ior hx hb dX1_barringHeap_22 ?_
    refine lv_istore_n (lv' := [(3, .int (((1 : Int32) <<< (p1 &&& 31)) ||| ((1 : Int32) <<< (p2 &&& 31)))), (0, .ref (h 1)), (1, .int p1), (2, .int p2)]) hx hb dX1_barringHeap_23 rfl hl (by decide) rfl (fun ls hl => ?_)
    refine lv_iconst (v := (-1 : Int32)) hx hb dX1_barringHeap_24 (by decide) ?_
    refine lv_istore (lv' := [(4, .int (-1 : Int32)), (3, .int (((1 : Int32) <<< (p1 &&& 31)) ||| ((1 : Int32) <<< (p2 &&& 31)))), (0, .ref (h 1)), (1, .int p1), (2, .int p2)]) hx hb dX1_barringHeap_25 hl (by decide) rfl (fun ls hl => ?_)
    refine lv_ldc hx hb hown (hts _ mw_444) dX1_barringHeap_27 ?_
    refine lv_istore (lv' := [(5, .int (1000000 : Int32)), (4, .int (-1 : Int32)), (3, .int (((1 : Int32) <<< (p1 &&& 31)) ||| ((1 : Int32) <<< (p2 &&& 31)))), (0, .ref (h 1)), (1, .int p1), (2, .int p2)]) hx hb dX1_barringHeap_29 hl (by decide) rfl (fun ls hl => ?_)
    refine lv_iconst (v := (0 : Int32)) hx hb dX1_barringHeap_31 (by decide) ?_
    refine lv_istore (lv' := [(6, .int (0 : Int32)), (5, .int (1000000 : Int32)), (4, .int (-1 : Int32)), (3, .int (((1 : Int32) <<< (p1 &&& 31)) ||| ((1 : Int32) <<< (p2 &&& 31)))), (0, .ref (h 1)), (1, .int p1), (2, .int p2)]) hx hb dX1_barringHeap_32 hl (by decide) rfl (fun ls hl => ?_)
    have LP_34 : ∀ (K_34 : Int32 → Option (Int32 × nS)) (kk_34 : ∀ (w4_34 : Int32) (H : Heap) (locs : List Loc) (ls : Array Slot), K_34 w4_34 = some q → nH D 48 (cfC cI cZ cA h) h (nAd 48 h sz) s.heap q4 H locs → lv_has ls 8 [(4, .int w4_34)] → W p l e R s m args below meth c H locs 0 0 Q (F0 m 95 ls [])) (n : Nat) (v4_34 v5_34 v6_34 : Int32) (H : Heap) (locs : List Loc) (ls : Array Slot), gN_barringHeap_L34 p1 p2 (((1 : Int32) <<< (p1 &&& 31)) ||| ((1 : Int32) <<< (p2 &&& 31))) q4 K_34 n v4_34 v5_34 v6_34 = some q → nH D 48 (cfC cI cZ cA h) h (nAd 48 h sz) s.heap q4 H locs → lv_has ls 8 [(0, .ref (h 1)), (1, .int p1), (2, .int p2), (3, .int (((1 : Int32) <<< (p1 &&& 31)) ||| ((1 : Int32) <<< (p2 &&& 31)))), (4, .int v4_34), (5, .int v5_34), (6, .int v6_34)] → W p l e R s m args below meth c H locs 0 0 Q (F0 m 34 ls []) := by
      intro K_34 kk_34 n
      induction n with
      | zero => intro v4_34 v5_34 v6_34 H locs ls hg hH hl; rw [gN_barringHeap_L34] at hg; exact ob_n hg
      | succ n ih_34 =>
        intro v4_34 v5_34 v6_34 H locs ls hg hH hl
        rw [gN_barringHeap_L34] at hg
        refine lv_iload hx hb dX1_barringHeap_34 (lv_at hl 6 rfl) ?_
        refine lv_iconst (v := (1 : Int32)) hx hb dX1_barringHeap_36 (by decide) ?_
        refine lv_aload_n hx hb dX1_barringHeap_37 rfl (lv_at hl 0 rfl) ?_
        refine ng_get hx hb hts hown hK hH 1 (by decide) rfl rfl inlX1 5 (by decide) mw_37 rfl dX1_barringHeap_38 ?_
        refine lv_ishl hx hb dX1_barringHeap_41 ?_
        refine lv_icmp_ge (tgt := 95) hx hb dX1_barringHeap_42 (by decide) (fun c6 => ?_) (fun c6 => ?_)
        · replace hg := ob_t c6 hg
          exact kk_34 v4_34 H locs ls hg hH (lv_sub hl [4] rfl)
        · replace hg := ob_f c6 hg
          refine lv_iload hx hb dX1_barringHeap_45 (lv_at hl 6 rfl) ?_
          refine lv_iload_n hx hb dX1_barringHeap_47 rfl (lv_at hl 3 rfl) ?_
          refine lv_iand hx hb dX1_barringHeap_48 ?_
          refine lv_if_ne (tgt := 89) hx hb dX1_barringHeap_49 (by decide) (fun c7 => ?_) (fun c7 => ?_)
          · replace hg := ob_f c7 hg
            refine lv_iinc (v := (v6_34 + 1)) (lv' := [(6, .int (v6_34 + 1)), (0, .ref (h 1)), (1, .int p1), (2, .int p2), (3, .int (((1 : Int32) <<< (p1 &&& 31)) ||| ((1 : Int32) <<< (p2 &&& 31)))), (4, .int v4_34), (5, .int v5_34)]) hx hb dX1_barringHeap_89 hl (k := 6) rfl rfl (by decide) rfl (fun ls hl => ?_)
            refine lv_goto (tgt := 34) hx hb dX1_barringHeap_92 (by decide) ?_
            exact ih_34 v4_34 v5_34 (v6_34 + 1) H locs ls hg hH (lv_sub hl [1, 2, 3, 4, 5, 6, 0] rfl)
          · replace hg := ob_t c7 hg
            refine lv_aload_n hx hb dX1_barringHeap_52 rfl (lv_at hl 0 rfl) ?_
            refine lv_iload hx hb dX1_barringHeap_53 (lv_at hl 6 rfl) ?_
            obtain ⟨q8, hc9, hg⟩ := ob_b hg
            refine ng_ci (ng_rV hx hb hml hown hts hK hH (As := [.int v6_34]) (rest := []) 1 (cN_priceOfHeap l D cI cZ cA h hi v6_34 q4 q8 hc9 _) (by decide) rfl rfl mw_449 mw_450 mw_451 mw_14 mw_452 pdX1_priceOfHeap ⟨by rw [hR]; show _ ≤ _; simp only [nRm]; omega, by rw [hR]; show _ ≤ _; simp only [nRm]; omega⟩ hl.1 rfl (Nat.le_of_ble_eq_true rfl) dX1_barringHeap_55 ⟨Nat.zero_le _, Nat.zero_le _⟩) hH (fun H locs hH => ?_)
            refine lv_istore (lv' := [(7, .int q8), (0, .ref (h 1)), (1, .int p1), (2, .int p2), (3, .int (((1 : Int32) <<< (p1 &&& 31)) ||| ((1 : Int32) <<< (p2 &&& 31)))), (4, .int v4_34), (5, .int v5_34), (6, .int v6_34)]) hx hb dX1_barringHeap_58 hl (by decide) rfl (fun ls hl => ?_)
            refine lv_iload hx hb dX1_barringHeap_60 (lv_at hl 0 rfl) ?_
            refine lv_iload hx hb dX1_barringHeap_62 (lv_at hl 6 rfl) ?_
            refine lv_icmp_ge (tgt := 89) hx hb dX1_barringHeap_64 (by decide) (fun c10 => ?_) (fun c10 => ?_)
            · replace hg := ob_t c10 hg
              refine lv_iinc (v := (v6_34 + 1)) (lv' := [(6, .int (v6_34 + 1)), (7, .int q8), (0, .ref (h 1)), (1, .int p1), (2, .int p2), (3, .int (((1 : Int32) <<< (p1 &&& 31)) ||| ((1 : Int32) <<< (p2 &&& 31)))), (4, .int v4_34), (5, .int v5_34)]) hx hb dX1_barringHeap_89 hl (k := 7) rfl rfl (by decide) rfl (fun ls hl => ?_)
              refine lv_goto (tgt := 34) hx hb dX1_barringHeap_92 (by decide) ?_
              exact ih_34 v4_34 v5_34 (v6_34 + 1) H locs ls hg hH (lv_sub hl [2, 3, 4, 5, 6, 7, 0] rfl)
            · replace hg := ob_f c10 hg
              refine lv_aload_n hx hb dX1_barringHeap_67 rfl (lv_at hl 1 rfl) ?_
              refine lv_iload_n hx hb dX1_barringHeap_68 rfl (lv_at hl 2 rfl) ?_
              refine lv_iload hx hb dX1_barringHeap_69 (lv_at hl 7 rfl) ?_
              obtain ⟨q11, hc12, hg⟩ := ob_b hg
              refine ng_ci (ng_rV hx hb hml hown hts hK hH (As := [.int p1, .int v6_34]) (rest := []) 1 (cN_reach l D cI cZ cA h hi p1 v6_34 q4 q11 hc12 _) (by decide) rfl rfl mw_453 mw_454 mw_455 mw_14 mw_456 pdX1_reach ⟨by rw [hR]; show _ ≤ _; simp only [nRm]; omega, by rw [hR]; show _ ≤ _; simp only [nRm]; omega⟩ hl.1 rfl (Nat.le_of_ble_eq_true rfl) dX1_barringHeap_71 ⟨Nat.zero_le _, Nat.zero_le _⟩) hH (fun H locs hH => ?_)
              refine lv_iload_n hx hb dX1_barringHeap_74 rfl (lv_at hl 3 rfl) ?_
              obtain ⟨q13, hc14, hg⟩ := ob_b hg
              refine ng_ci (ng_rSN (host := "NetCuts") hx hb hml hown hts hK hH (As := [.int q11, .int p2]) (rest := []) (cC_holds l D cI cZ cA h hi q11 p2 q4 q13 hc14 _) hK.2.2 mw_147 mw_2 mw_148 pdX3_holds.2 ⟨by rw [hR]; show _ ≤ _; simp only [nRm]; omega, by rw [hR]; show _ ≤ _; simp only [nRm]; omega⟩ hl.1 rfl (Nat.le_of_ble_eq_true rfl) dX1_barringHeap_75 ⟨Nat.zero_le _, Nat.zero_le _⟩) hH (fun H locs hH => ?_)
              refine lv_if_ne (tgt := 89) hx hb dX1_barringHeap_78 (by decide) (fun c15 => ?_) (fun c15 => ?_)
              · replace hg := ob_f c15 hg
                refine lv_iinc (v := (v6_34 + 1)) (lv' := [(6, .int (v6_34 + 1)), (7, .int q8), (0, .ref (h 1)), (1, .int p1), (2, .int p2), (3, .int (((1 : Int32) <<< (p1 &&& 31)) ||| ((1 : Int32) <<< (p2 &&& 31)))), (4, .int v4_34), (5, .int v5_34)]) hx hb dX1_barringHeap_89 hl (k := 7) rfl rfl (by decide) rfl (fun ls hl => ?_)
                refine lv_goto (tgt := 34) hx hb dX1_barringHeap_92 (by decide) ?_
                exact ih_34 v4_34 v5_34 (v6_34 + 1) H locs ls hg hH (lv_sub hl [2, 3, 4, 5, 6, 7, 0] rfl)
              · replace hg := ob_t c15 hg
                refine lv_iload hx hb dX1_barringHeap_81 (lv_at hl 7 rfl) ?_
                refine lv_istore (lv' := [(4, .int v6_34), (7, .int q8), (0, .ref (h 1)), (1, .int p1), (2, .int p2), (3, .int (((1 : Int32) <<< (p1 &&& 31)) ||| ((1 : Int32) <<< (p2 &&& 31)))), (5, .int v5_34), (6, .int v6_34)]) hx hb dX1_barringHeap_83 hl (by decide) rfl (fun ls hl => ?_)
                refine lv_iload hx hb dX1_barringHeap_85 (lv_at hl 1 rfl) ?_
                refine lv_istore (lv' := [(5, .int q8), (4, .int v6_34), (7, .int q8), (0, .ref (h 1)), (1, .int p1), (2, .int p2), (3, .int (((1 : Int32) <<< (p1 &&& 31)) ||| ((1 : Int32) <<< (p2 &&& 31)))), (6, .int v6_34)]) hx hb dX1_barringHeap_87 hl (by decide) rfl (fun ls hl => ?_)
                refine lv_iinc (v := (v6_34 + 1)) (lv' := [(6, .int (v6_34 + 1)), (5, .int q8), (4, .int v6_34), (7, .int q8), (0, .ref (h 1)), (1, .int p1), (2, .int p2), (3, .int (((1 : Int32) <<< (p1 &&& 31)) ||| ((1 : Int32) <<< (p2 &&& 31))))]) hx hb dX1_barringHeap_89 hl (k := 7) rfl rfl (by decide) rfl (fun ls hl => ?_)
                refine lv_goto (tgt := 34) hx hb dX1_barringHeap_92 (by decide) ?_
                exact ih_34 v6_34 q8 (v6_34 + 1) H locs ls hg hH (lv_sub hl [4, 5, 6, 7, 2, 1, 0] rfl)
    refine LP_34 _ ?_ _ _ _ _ _ _ _ hg hH (lv_sub hl [4, 5, 6, 3, 2, 1, 0] rfl)
    intro w4_34 H locs ls hg hH hl
    refine lv_iload hx hb dX1_barringHeap_95 (lv_at hl 0 rfl) ?_
    subst hQ
    exact ng_iret hx hb hr hlk (congrArg Prod.fst (Option.some.inj hg)) (congrArg Prod.snd (Option.some.inj hg)) hH dX1_barringHeap_97
  · replace hg := ob_t c3 hg
    refine lv_iconst (v := (-1 : Int32)) hx hb dX1_barringHeap_9 (by decide) ?_
    subst hQ
    exact ng_iret hx hb hr hlk (congrArg Prod.fst (Option.some.inj hg)) (congrArg Prod.snd (Option.some.inj hg)) hH dX1_barringHeap_10
