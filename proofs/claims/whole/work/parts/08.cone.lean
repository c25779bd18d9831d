set_option maxHeartbeats 8000000 in
set_option maxRecDepth 100000 in
theorem cH_heapOf (l : Launch) (D : va_G) (cI cZ cA : ClassId) (h : Nat → Nat) (hi : nInj 48 h) (p1 p2 : Int32) (σ : nS) (q : Int32) (hg : gH_heapOf p1 p2 σ = some q) : nMi l yX0_heapOf cX0_heapOf 4 (some .int) 2 D cI cZ cA 48 (cfC cI cZ cA h) h [.int p1, .int p2] σ q σ := by
  unfold gH_heapOf at hg
  refine ng_body_i (by decide) hi (Nat.le_of_ble_eq_true rfl) ?_
  intro p e R s m args below meth c sz Q ls hx hb hml hr hlk hts hown hK hR hQ hl hH
  have hown : s.vm.findClass RX0 = some m.cls := hown
  have hl : lv_has ls 4 [(0, .int p1), (1, .int p2)] := hl
  refine lv_iconst (v := (0 : Int32)) hx hb dX0_heapOf_0 (by decide) ?_
  refine lv_istore_n (lv' := [(2, .int (0 : Int32)), (0, .int p1), (1, .int p2)]) hx hb dX0_heapOf_1 rfl hl (by decide) rfl (fun ls hl => ?_)
  refine lv_iconst (v := (1 : Int32)) hx hb dX0_heapOf_2 (by decide) ?_
  refine lv_istore_n (lv' := [(3, .int (1 : Int32)), (2, .int (0 : Int32)), (0, .int p1), (1, .int p2)]) hx hb dX0_heapOf_3 rfl hl (by decide) rfl (fun ls hl => ?_)
  have LP_4 : ∀ (K_4 : Int32 → Option Int32) (kk_4 : ∀ (w2_4 : Int32) (H : Heap) (locs : List Loc) (ls : Array Slot), K_4 w2_4 = some q → nH D 48 (cfC cI cZ cA h) h (nAd 48 h sz) s.heap σ H locs → lv_has ls 4 [(2, .int w2_4)] → W p l e R s m args below meth c H locs 0 0 Q (F0 m 33 ls [])) (n : Nat) (v2_4 v3_4 : Int32) (H : Heap) (locs : List Loc) (ls : Array Slot), gH_heapOf_L4 p1 p2 σ K_4 n v2_4 v3_4 = some q → nH D 48 (cfC cI cZ cA h) h (nAd 48 h sz) s.heap σ H locs → lv_has ls 4 [(0, .int p1), (1, .int p2), (2, .int v2_4), (3, .int v3_4)] → W p l e R s m args below meth c H locs 0 0 Q (F0 m 4 ls []) := by
    intro K_4 kk_4 n
    induction n with
    | zero => intro v2_4 v3_4 H locs ls hg hH hl; rw [gH_heapOf_L4] at hg; exact ob_n hg
    | succ n ih_4 =>
      intro v2_4 v3_4 H locs ls hg hH hl
      rw [gH_heapOf_L4] at hg
      refine lv_iload_n hx hb dX0_heapOf_4 rfl (lv_at hl 3 rfl) ?_
      refine lv_iload_n hx hb dX0_heapOf_5 rfl (lv_at hl 1 rfl) ?_
      refine lv_icmp_ge (tgt := 33) hx hb dX0_heapOf_6 (by decide) (fun c1 => ?_) (fun c1 => ?_)
      · replace hg := ob_t c1 hg
        exact kk_4 v2_4 H locs ls hg hH (lv_sub hl [2] rfl)
      · replace hg := ob_f c1 hg
        refine lv_iload_n hx hb dX0_heapOf_9 rfl (lv_at hl 0 rfl) ?_
        refine lv_iload_n hx hb dX0_heapOf_10 rfl (lv_at hl 1 rfl) ?_
        refine lv_iconst (v := (1 : Int32)) hx hb dX0_heapOf_11 (by decide) ?_
        refine lv_isub hx hb dX0_heapOf_12 ?_
        refine lv_iload_n hx hb dX0_heapOf_13 rfl (lv_at hl 3 rfl) ?_
        refine lv_isub hx hb dX0_heapOf_14 ?_
        obtain ⟨q2, hc3, hg⟩ := ob_b hg
        refine ng_ci (ng_rSN (host := "NetCuts") hx hb hml hown hts hK hH (As := [.int p1, .int ((p2 - (1 : Int32)) - v3_4)]) (rest := []) (cC_holds l D cI cZ cA h hi p1 ((p2 - (1 : Int32)) - v3_4) σ q2 hc3 _) hK.2.1 mw_147 mw_2 mw_148 pdX3_holds.2 ⟨by rw [hR]; show _ ≤ _; simp only [nRm]; omega, by rw [hR]; show _ ≤ _; simp only [nRm]; omega⟩ hl.1 rfl (Nat.le_of_ble_eq_true rfl) dX0_heapOf_15 ⟨Nat.zero_le _, Nat.zero_le _⟩) hH (fun H locs hH => ?_)
        refine lv_if_eq (tgt := 27) hx hb dX0_heapOf_18 (by decide) (fun c4 => ?_) (fun c4 => ?_)
        · replace hg := ob_t c4 hg
          refine lv_iinc (v := (v3_4 + 1)) (lv' := [(3, .int (v3_4 + 1)), (0, .int p1), (1, .int p2), (2, .int v2_4)]) hx hb dX0_heapOf_27 hl (k := 3) rfl rfl (by decide) rfl (fun ls hl => ?_)
          refine lv_goto (tgt := 4) hx hb dX0_heapOf_30 (by decide) ?_
          exact ih_4 v2_4 (v3_4 + 1) H locs ls hg hH (lv_sub hl [1, 2, 3, 0] rfl)
        · replace hg := ob_f c4 hg
          refine lv_iload_n hx hb dX0_heapOf_21 rfl (lv_at hl 2 rfl) ?_
          refine lv_iconst (v := (1 : Int32)) hx hb dX0_heapOf_22 (by decide) ?_
          refine lv_iload_n hx hb dX0_heapOf_23 rfl (lv_at hl 3 rfl) ?_
          refine lv_ishl hx hb dX0_heapOf_24 ?_
          refine lv_ior hx hb dX0_heapOf_25 ?_
          refine lv_istore_n (lv' := [(2, .int (v2_4 ||| ((1 : Int32) <<< (v3_4 &&& 31)))), (0, .int p1), (1, .int p2), (3, .int v3_4)]) hx hb dX0_heapOf_26 rfl hl (by decide) rfl (fun ls hl => ?_)
          refine lv_iinc (v := (v3_4 + 1)) (lv' := [(3, .int (v3_4 + 1)), (2, .int (v2_4 ||| ((1 : Int32) <<< (v3_4 &&& 31)))), (0, .int p1), (1, .int p2)]) hx hb dX0_heapOf_27 hl (k := 3) rfl rfl (by decide) rfl (fun ls hl => ?_)
          refine lv_goto (tgt := 4) hx hb dX0_heapOf_30 (by decide) ?_
          exact ih_4 (v2_4 ||| ((1 : Int32) <<< (v3_4 &&& 31))) (v3_4 + 1) H locs ls hg hH (lv_sub hl [2, 3, 1, 0] rfl)
  refine LP_4 _ ?_ _ _ _ _ _ _ hg hH (lv_sub hl [2, 3, 1, 0] rfl)
  intro w2_4 H locs ls hg hH hl
  refine lv_iload_n hx hb dX0_heapOf_33 rfl (lv_at hl 0 rfl) ?_
  subst hQ
  exact ng_iret hx hb hr hlk (Option.some.inj hg) rfl hH dX0_heapOf_34
set_option maxHeartbeats 8000000 in
set_option maxRecDepth 100000 in
theorem cN_sumAround (l : Launch) (D : va_G) (cI cZ cA : ClassId) (h : Nat → Nat) (hi : nInj 48 h) (p1 : Int32) (σ : nS) (q : Int32) (hg : gN_sumAround p1 σ = some q) : nMi l yX1_sumAround cX1_sumAround 4 (some .int) 2 D cI cZ cA 48 (cfC cI cZ cA h) h [.ref (h 1), .int p1] σ q σ := by
  unfold gN_sumAround at hg
  refine ng_body_i (by decide) hi (Nat.le_of_ble_eq_true rfl) ?_
  intro p e R s m args below meth c sz Q ls hx hb hml hr hlk hts hown hK hR hQ hl hH
  have hown : s.vm.findClass RX1 = some m.cls := hown
  have hl : lv_has ls 4 [(0, .ref (h 1)), (1, .int p1)] := hl
  refine lv_iconst (v := (0 : Int32)) hx hb dX1_sumAround_0 (by decide) ?_
  refine lv_istore_n (lv' := [(2, .int (0 : Int32)), (0, .ref (h 1)), (1, .int p1)]) hx hb dX1_sumAround_1 rfl hl (by decide) rfl (fun ls hl => ?_)
  refine lv_iconst (v := (0 : Int32)) hx hb dX1_sumAround_2 (by decide) ?_
  refine lv_istore_n (lv' := [(3, .int (0 : Int32)), (2, .int (0 : Int32)), (0, .ref (h 1)), (1, .int p1)]) hx hb dX1_sumAround_3 rfl hl (by decide) rfl (fun ls hl => ?_)
  have LP_4 : ∀ (K_4 : Int32 → Option Int32) (kk_4 : ∀ (w2_4 : Int32) (H : Heap) (locs : List Loc) (ls : Array Slot), K_4 w2_4 = some q → nH D 48 (cfC cI cZ cA h) h (nAd 48 h sz) s.heap σ H locs → lv_has ls 4 [(2, .int w2_4)] → W p l e R s m args below meth c H locs 0 0 Q (F0 m 59 ls [])) (n : Nat) (v2_4 v3_4 : Int32) (H : Heap) (locs : List Loc) (ls : Array Slot), gN_sumAround_L4 p1 σ K_4 n v2_4 v3_4 = some q → nH D 48 (cfC cI cZ cA h) h (nAd 48 h sz) s.heap σ H locs → lv_has ls 4 [(0, .ref (h 1)), (1, .int p1), (2, .int v2_4), (3, .int v3_4)] → W p l e R s m args below meth c H locs 0 0 Q (F0 m 4 ls []) := by
    intro K_4 kk_4 n
    induction n with
    | zero => intro v2_4 v3_4 H locs ls hg hH hl; rw [gN_sumAround_L4] at hg; exact ob_n hg
    | succ n ih_4 =>
      intro v2_4 v3_4 H locs ls hg hH hl
      rw [gN_sumAround_L4] at hg
      refine lv_iload_n hx hb dX1_sumAround_4 rfl (lv_at hl 3 rfl) ?_
      refine lv_aload_n hx hb dX1_sumAround_5 rfl (lv_at hl 0 rfl) ?_
      refine ng_get hx hb hts hown hK hH 1 (by decide) rfl rfl inlX1 6 (by decide) mw_38 rfl dX1_sumAround_6 ?_
      refine lv_icmp_ge (tgt := 59) hx hb dX1_sumAround_9 (by decide) (fun c1 => ?_) (fun c1 => ?_)
      · replace hg := ob_t c1 hg
        exact kk_4 v2_4 H locs ls hg hH (lv_sub hl [2] rfl)
      · replace hg := ob_f c1 hg
        refine lv_aload_n hx hb dX1_sumAround_12 rfl (lv_at hl 0 rfl) ?_
        refine ng_get hx hb hts hown hK hH 1 (by decide) rfl rfl inlX1 4 (by decide) mw_36 rfl dX1_sumAround_13 ?_
        refine lv_iload_n hx hb dX1_sumAround_16 rfl (lv_at hl 3 rfl) ?_
        obtain ⟨hb2, hg⟩ := ob_i hg
        refine ng_zald hx hb hK hH 6 (by decide) (fun _ => rfl) hb2 dX1_sumAround_17 ?_
        refine lv_if_ne (tgt := 53) hx hb dX1_sumAround_18 (by decide) (fun c3 => ?_) (fun c3 => ?_)
        · replace hg := ob_f c3 hg
          refine lv_iinc (v := (v3_4 + 1)) (lv' := [(3, .int (v3_4 + 1)), (0, .ref (h 1)), (1, .int p1), (2, .int v2_4)]) hx hb dX1_sumAround_53 hl (k := 3) rfl rfl (by decide) rfl (fun ls hl => ?_)
          refine lv_goto (tgt := 4) hx hb dX1_sumAround_56 (by decide) ?_
          exact ih_4 v2_4 (v3_4 + 1) H locs ls hg hH (lv_sub hl [1, 2, 3, 0] rfl)
        · replace hg := ob_t c3 hg
          refine lv_iload_n hx hb dX1_sumAround_21 rfl (lv_at hl 1 rfl) ?_
          refine lv_aload_n hx hb dX1_sumAround_22 rfl (lv_at hl 0 rfl) ?_
          refine ng_get hx hb hts hown hK hH 1 (by decide) rfl rfl inlX1 0 (by decide) mw_31 rfl dX1_sumAround_23 ?_
          refine lv_iload_n hx hb dX1_sumAround_26 rfl (lv_at hl 3 rfl) ?_
          obtain ⟨hb4, hg⟩ := ob_i hg
          refine ng_iald hx hb hK hH 2 (by decide) (fun _ => rfl) hb4 dX1_sumAround_27 ?_
          obtain ⟨q5, hc6, hg⟩ := ob_b hg
          refine ng_ci (ng_rSN (host := "NetCuts") hx hb hml hown hts hK hH (As := [.int p1, .int (σ 2 v3_4.toNatClampNeg)]) (rest := []) (cC_holds l D cI cZ cA h hi p1 (σ 2 v3_4.toNatClampNeg) σ q5 hc6 _) hK.2.2 mw_147 mw_2 mw_148 pdX3_holds.2 ⟨by rw [hR]; show _ ≤ _; simp only [nRm]; omega, by rw [hR]; show _ ≤ _; simp only [nRm]; omega⟩ hl.1 rfl (Nat.le_of_ble_eq_true rfl) dX1_sumAround_28 ⟨Nat.zero_le _, Nat.zero_le _⟩) hH (fun H locs hH => ?_)
          refine lv_iload_n hx hb dX1_sumAround_31 rfl (lv_at hl 1 rfl) ?_
          refine lv_aload_n hx hb dX1_sumAround_32 rfl (lv_at hl 0 rfl) ?_
          refine ng_get hx hb hts hown hK hH 1 (by decide) rfl rfl inlX1 1 (by decide) mw_32 rfl dX1_sumAround_33 ?_
          refine lv_iload_n hx hb dX1_sumAround_36 rfl (lv_at hl 3 rfl) ?_
          obtain ⟨hb7, hg⟩ := ob_i hg
          refine ng_iald hx hb hK hH 3 (by decide) (fun _ => rfl) hb7 dX1_sumAround_37 ?_
          obtain ⟨q8, hc9, hg⟩ := ob_b hg
          refine ng_ci (ng_rSN (host := "NetCuts") hx hb hml hown hts hK hH (As := [.int p1, .int (σ 3 v3_4.toNatClampNeg)]) (rest := [.int q5]) (cC_holds l D cI cZ cA h hi p1 (σ 3 v3_4.toNatClampNeg) σ q8 hc9 _) hK.2.2 mw_147 mw_2 mw_148 pdX3_holds.2 ⟨by rw [hR]; show _ ≤ _; simp only [nRm]; omega, by rw [hR]; show _ ≤ _; simp only [nRm]; omega⟩ hl.1 rfl (Nat.le_of_ble_eq_true rfl) dX1_sumAround_38 ⟨Nat.zero_le _, Nat.zero_le _⟩) hH (fun H locs hH => ?_)
          refine lv_icmp_eq (tgt := 53) hx hb dX1_sumAround_41 (by decide) (fun c10 => ?_) (fun c10 => ?_)
          · replace hg := ob_t c10 hg
            refine lv_iinc (v := (v3_4 + 1)) (lv' := [(3, .int (v3_4 + 1)), (0, .ref (h 1)), (1, .int p1), (2, .int v2_4)]) hx hb dX1_sumAround_53 hl (k := 3) rfl rfl (by decide) rfl (fun ls hl => ?_)
            refine lv_goto (tgt := 4) hx hb dX1_sumAround_56 (by decide) ?_
            exact ih_4 v2_4 (v3_4 + 1) H locs ls hg hH (lv_sub hl [1, 2, 3, 0] rfl)
          · replace hg := ob_f c10 hg
            refine lv_iload_n hx hb dX1_sumAround_44 rfl (lv_at hl 2 rfl) ?_
            refine lv_aload_n hx hb dX1_sumAround_45 rfl (lv_at hl 0 rfl) ?_
            refine ng_get hx hb hts hown hK hH 1 (by decide) rfl rfl inlX1 2 (by decide) mw_33 rfl dX1_sumAround_46 ?_
            refine lv_iload_n hx hb dX1_sumAround_49 rfl (lv_at hl 3 rfl) ?_
            obtain ⟨hb11, hg⟩ := ob_i hg
            refine ng_iald hx hb hK hH 4 (by decide) (fun _ => rfl) hb11 dX1_sumAround_50 ?_
            refine lv_iadd hx hb dX1_sumAround_51 ?_
            refine lv_istore_n (lv' := [(2, .int (v2_4 + (σ 4 v3_4.toNatClampNeg))), (0, .ref (h 1)), (1, .int p1), (3, .int v3_4)]) hx hb dX1_sumAround_52 rfl hl (by decide) rfl (fun ls hl => ?_)
            refine lv_iinc (v := (v3_4 + 1)) (lv' := [(3, .int (v3_4 + 1)), (2, .int (v2_4 + (σ 4 v3_4.toNatClampNeg))), (0, .ref (h 1)), (1, .int p1)]) hx hb dX1_sumAround_53 hl (k := 3) rfl rfl (by decide) rfl (fun ls hl => ?_)
            refine lv_goto (tgt := 4) hx hb dX1_sumAround_56 (by decide) ?_
            exact ih_4 (v2_4 + (σ 4 v3_4.toNatClampNeg)) (v3_4 + 1) H locs ls hg hH (lv_sub hl [2, 3, 1, 0] rfl)
  refine LP_4 _ ?_ _ _ _ _ _ _ hg hH (lv_sub hl [2, 3, 1, 0] rfl)
  intro w2_4 H locs ls hg hH hl
  refine lv_iload_n hx hb dX1_sumAround_59 rfl (lv_at hl 0 rfl) ?_
  subst hQ
  exact ng_iret hx hb hr hlk (Option.some.inj hg) rfl hH dX1_sumAround_60
set_option maxHeartbeats 8000000 in
set_option maxRecDepth 100000 in
theorem cH_gather (l : Launch) (D : va_G) (cI cZ cA : ClassId) (h : Nat → Nat) (hi : nInj 48 h) (σ : nS) (q : nS) (hg : gH_gather σ = some q) : nMv l yX0_gather cX0_gather 6 none 3 D cI cZ cA 48 (cfC cI cZ cA h) h [.ref (h 45), .ref (h 1)] σ q := by
  unfold gH_gather at hg
  refine ng_body_v (by decide) hi (Nat.le_of_ble_eq_true rfl) ?_
  intro p e R s m args below meth c sz Q ls hx hb hml hr hlk hts hown hK hR hQ hl hH
  have hown : s.vm.findClass RX0 = some m.cls := hown
  have hl : lv_has ls 6 [(0, .ref (h 45)), (1, .ref (h 1))] := hl
  refine lv_aload_n hx hb dX0_gather_0 rfl (lv_at hl 0 rfl) ?_
  refine lv_iconst (v := (0 : Int32)) hx hb dX0_gather_1 (by decide) ?_
  refine ng_put hx hb hts hown hK hH 45 (by decide) rfl rfl inlX0 tyX0 tyX0_ok nmX0 1 (by decide) mw_62 rfl (by decide +kernel) (Nat.le_of_ble_eq_true rfl) rfl dX0_gather_2 (fun H locs hH => ?_)
  refine lv_aload_n hx hb dX0_gather_5 rfl (lv_at hl 1 rfl) ?_
  refine ng_get hx hb hts hown hK hH 1 (by decide) rfl rfl inlX1 5 (by decide) mw_390 rfl dX0_gather_6 ?_
  refine lv_iconst (v := (2 : Int32)) hx hb dX0_gather_9 (by decide) ?_
  refine lv_icmp_ge (tgt := 14) hx hb dX0_gather_10 (by decide) (fun c1 => ?_) (fun c1 => ?_)
  · replace hg := ob_t c1 hg
    refine lv_ldc hx hb hown (hts _ mw_391) dX0_gather_14 ?_
    refine lv_istore_n (lv' := [(2, .int (1000000 : Int32)), (0, .ref (h 45)), (1, .ref (h 1))]) hx hb dX0_gather_16 rfl hl (by decide) rfl (fun ls hl => ?_)
    refine lv_iconst (v := (1 : Int32)) hx hb dX0_gather_17 (by decide) ?_
    refine lv_istore_n (lv' := [(3, .int (1 : Int32)), (2, .int (1000000 : Int32)), (0, .ref (h 45)), (1, .ref (h 1))]) hx hb dX0_gather_18 rfl hl (by decide) rfl (fun ls hl => ?_)
    have LP_19 : ∀ (K_19 : nS → Option nS) (kk_19 : ∀ (σe_19 : nS) (H : Heap) (locs : List Loc) (ls : Array Slot), K_19 σe_19 = some q → nH D 48 (cfC cI cZ cA h) h (nAd 48 h sz) s.heap σe_19 H locs → lv_has ls 6 [] → W p l e R s m args below meth c H locs 0 0 Q (F0 m 96 ls [])) (n : Nat) (v2_19 v3_19 : Int32) (σl_19 : nS) (H : Heap) (locs : List Loc) (ls : Array Slot), gH_gather_L19 K_19 n v2_19 v3_19 σl_19 = some q → nH D 48 (cfC cI cZ cA h) h (nAd 48 h sz) s.heap σl_19 H locs → lv_has ls 6 [(0, .ref (h 45)), (1, .ref (h 1)), (2, .int v2_19), (3, .int v3_19)] → W p l e R s m args below meth c H locs 0 0 Q (F0 m 19 ls []) := by
      intro K_19 kk_19 n
      induction n with
      | zero => intro v2_19 v3_19 σl_19 H locs ls hg hH hl; rw [gH_gather_L19] at hg; exact ob_n hg
      | succ n ih_19 =>
        intro v2_19 v3_19 σl_19 H locs ls hg hH hl
        rw [gH_gather_L19] at hg
        refine lv_iload_n hx hb dX0_gather_19 rfl (lv_at hl 3 rfl) ?_
        refine lv_iconst (v := (1 : Int32)) hx hb dX0_gather_20 (by decide) ?_
        refine lv_aload_n hx hb dX0_gather_21 rfl (lv_at hl 1 rfl) ?_
        refine ng_get hx hb hts hown hK hH 1 (by decide) rfl rfl inlX1 5 (by decide) mw_390 rfl dX0_gather_22 ?_
        refine lv_iconst (v := (1 : Int32)) hx hb dX0_gather_25 (by decide) ?_
        refine lv_isub hx hb dX0_gather_26 ?_
        refine lv_ishl hx hb dX0_gather_27 ?_
        refine lv_icmp_ge (tgt := 96) hx hb dX0_gather_28 (by decide) (fun c2 => ?_) (fun c2 => ?_)
        · replace hg := ob_t c2 hg
          exact kk_19 σl_19 H locs ls hg hH (lv_sub hl [] rfl)
        · replace hg := ob_f c2 hg
          refine lv_iload_n hx hb dX0_gather_31 rfl (lv_at hl 3 rfl) ?_
          refine lv_aload_n hx hb dX0_gather_32 rfl (lv_at hl 1 rfl) ?_
          refine ng_get hx hb hts hown hK hH 1 (by decide) rfl rfl inlX1 5 (by decide) mw_390 rfl dX0_gather_33 ?_
          obtain ⟨q3, hc4, hg⟩ := ob_b hg
          refine ng_ci (ng_rS hx hb hml hown hts hK hH (As := [.int v3_19, .int (σl_19 1 5)]) (rest := []) (cH_heapOf l D cI cZ cA h hi v3_19 (σl_19 1 5) σl_19 q3 hc4 _) mw_392 mw_393 mw_22 mw_394 pdX0_heapOf.2 ⟨by rw [hR]; show _ ≤ _; simp only [nRm]; omega, by rw [hR]; show _ ≤ _; simp only [nRm]; omega⟩ hl.1 rfl (Nat.le_of_ble_eq_true rfl) dX0_gather_36 ⟨Nat.zero_le _, Nat.zero_le _⟩) hH (fun H locs hH => ?_)
          refine lv_istore (lv' := [(4, .int q3), (0, .ref (h 45)), (1, .ref (h 1)), (2, .int v2_19), (3, .int v3_19)]) hx hb dX0_gather_39 hl (by decide) rfl (fun ls hl => ?_)
          refine lv_aload_n hx hb dX0_gather_41 rfl (lv_at hl 2 rfl) ?_
          refine lv_iload hx hb dX0_gather_42 (lv_at hl 0 rfl) ?_
          obtain ⟨q5, hc6, hg⟩ := ob_b hg
          refine ng_ci (ng_rV hx hb hml hown hts hK hH (As := [.int q3]) (rest := []) 1 (cN_sumAround l D cI cZ cA h hi q3 σl_19 q5 hc6 _) (by decide) rfl rfl mw_395 mw_396 mw_397 mw_14 mw_398 pdX1_sumAround ⟨by rw [hR]; show _ ≤ _; simp only [nRm]; omega, by rw [hR]; show _ ≤ _; simp only [nRm]; omega⟩ hl.1 rfl (Nat.le_of_ble_eq_true rfl) dX0_gather_44 ⟨Nat.zero_le _, Nat.zero_le _⟩) hH (fun H locs hH => ?_)
          refine lv_istore (lv' := [(5, .int q5), (4, .int q3), (0, .ref (h 45)), (1, .ref (h 1)), (2, .int v2_19), (3, .int v3_19)]) hx hb dX0_gather_47 hl (by decide) rfl (fun ls hl => ?_)
          refine lv_iload hx hb dX0_gather_49 (lv_at hl 0 rfl) ?_
          refine lv_iload_n hx hb dX0_gather_51 rfl (lv_at hl 4 rfl) ?_
          refine lv_icmp_ge (tgt := 63) hx hb dX0_gather_52 (by decide) (fun c7 => ?_) (fun c7 => ?_)
          · replace hg := ob_t c7 hg
            refine lv_iload hx hb dX0_gather_63 (lv_at hl 0 rfl) ?_
            refine lv_iload_n hx hb dX0_gather_65 rfl (lv_at hl 4 rfl) ?_
            refine lv_icmp_ne (tgt := 90) hx hb dX0_gather_66 (by decide) (fun c8 => ?_) (fun c8 => ?_)
            · replace hg := ob_f c8 hg
              refine lv_iinc (v := (v3_19 + 1)) (lv' := [(3, .int (v3_19 + 1)), (5, .int q5), (4, .int q3), (0, .ref (h 45)), (1, .ref (h 1)), (2, .int v2_19)]) hx hb dX0_gather_90 hl (k := 5) rfl rfl (by decide) rfl (fun ls hl => ?_)
              refine lv_goto (tgt := 19) hx hb dX0_gather_93 (by decide) ?_
              exact ih_19 v2_19 (v3_19 + 1) σl_19 H locs ls hg hH (lv_sub hl [3, 4, 5, 0] rfl)
            · replace hg := ob_t c8 hg
              refine lv_aload_n hx hb dX0_gather_69 rfl (lv_at hl 2 rfl) ?_
              refine ng_get hx hb hts hown hK hH 45 (by decide) rfl rfl inlX0 0 (by decide) mw_61 rfl dX0_gather_70 ?_
              refine lv_aload_n hx hb dX0_gather_73 rfl (lv_at hl 2 rfl) ?_
              refine ng_get hx hb hts hown hK hH 45 (by decide) rfl rfl inlX0 1 (by decide) mw_62 rfl dX0_gather_74 ?_
              refine lv_iload hx hb dX0_gather_77 (lv_at hl 1 rfl) ?_
              obtain ⟨hb9, hg⟩ := ob_i hg
              refine ng_iast hx hb hK hH 46 (by decide) (fun _ => rfl) hb9 dX0_gather_79 (fun H locs hH => ?_)
              refine lv_aload_n hx hb dX0_gather_80 rfl (lv_at hl 2 rfl) ?_
              refine lv_dup hx hb dX0_gather_81 rfl ?_
              refine ng_get hx hb hts hown hK hH 45 (by decide) rfl rfl inlX0 1 (by decide) mw_62 rfl dX0_gather_82 ?_
              refine lv_iconst (v := (1 : Int32)) hx hb dX0_gather_85 (by decide) ?_
              refine lv_iadd hx hb dX0_gather_86 ?_
              refine ng_put hx hb hts hown hK hH 45 (by decide) rfl rfl inlX0 tyX0 tyX0_ok nmX0 1 (by decide) mw_62 rfl (by decide +kernel) (Nat.le_of_ble_eq_true rfl) rfl dX0_gather_87 (fun H locs hH => ?_)
              refine lv_iinc (v := (v3_19 + 1)) (lv' := [(3, .int (v3_19 + 1)), (5, .int q5), (4, .int q3), (0, .ref (h 45)), (1, .ref (h 1)), (2, .int v2_19)]) hx hb dX0_gather_90 hl (k := 5) rfl rfl (by decide) rfl (fun ls hl => ?_)
              refine lv_goto (tgt := 19) hx hb dX0_gather_93 (by decide) ?_
              exact ih_19 v2_19 (v3_19 + 1) (nst (nst σl_19 46 (σl_19 45 1).toNatClampNeg q3) 45 1 (((nst σl_19 46 (σl_19 45 1).toNatClampNeg q3) 45 1) + (1 : Int32))) H locs ls hg hH (lv_sub hl [3, 4, 5, 0] rfl)
          · replace hg := ob_f c7 hg
            refine lv_iload hx hb dX0_gather_55 (lv_at hl 0 rfl) ?_
            refine lv_istore_n (lv' := [(2, .int q5), (5, .int q5), (4, .int q3), (0, .ref (h 45)), (1, .ref (h 1)), (3, .int v3_19)]) hx hb dX0_gather_57 rfl hl (by decide) rfl (fun ls hl => ?_)
            refine lv_aload_n hx hb dX0_gather_58 rfl (lv_at hl 3 rfl) ?_
            refine lv_iconst (v := (0 : Int32)) hx hb dX0_gather_59 (by decide) ?_
            refine ng_put hx hb hts hown hK hH 45 (by decide) rfl rfl inlX0 tyX0 tyX0_ok nmX0 1 (by decide) mw_62 rfl (by decide +kernel) (Nat.le_of_ble_eq_true rfl) rfl dX0_gather_60 (fun H locs hH => ?_)
            refine lv_iload hx hb dX0_gather_63 (lv_at hl 1 rfl) ?_
            refine lv_iload_n hx hb dX0_gather_65 rfl (lv_at hl 0 rfl) ?_
            refine lv_icmp_ne (tgt := 90) hx hb dX0_gather_66 (by decide) (fun c10 => ?_) (fun c10 => ?_)
            · replace hg := ob_f c10 hg
              refine lv_iinc (v := (v3_19 + 1)) (lv' := [(3, .int (v3_19 + 1)), (2, .int q5), (5, .int q5), (4, .int q3), (0, .ref (h 45)), (1, .ref (h 1))]) hx hb dX0_gather_90 hl (k := 5) rfl rfl (by decide) rfl (fun ls hl => ?_)
              refine lv_goto (tgt := 19) hx hb dX0_gather_93 (by decide) ?_
              exact ih_19 q5 (v3_19 + 1) (nst σl_19 45 1 (0 : Int32)) H locs ls hg hH (lv_sub hl [4, 5, 1, 0] rfl)
            · replace hg := ob_t c10 hg
              refine lv_aload_n hx hb dX0_gather_69 rfl (lv_at hl 3 rfl) ?_
              refine ng_get hx hb hts hown hK hH 45 (by decide) rfl rfl inlX0 0 (by decide) mw_61 rfl dX0_gather_70 ?_
              refine lv_aload_n hx hb dX0_gather_73 rfl (lv_at hl 3 rfl) ?_
              refine ng_get hx hb hts hown hK hH 45 (by decide) rfl rfl inlX0 1 (by decide) mw_62 rfl dX0_gather_74 ?_
              refine lv_iload hx hb dX0_gather_77 (lv_at hl 2 rfl) ?_
              obtain ⟨hb11, hg⟩ := ob_i hg
              refine ng_iast hx hb hK hH 46 (by decide) (fun _ => rfl) hb11 dX0_gather_79 (fun H locs hH => ?_)
              refine lv_aload_n hx hb dX0_gather_80 rfl (lv_at hl 3 rfl) ?_
              refine lv_dup hx hb dX0_gather_81 rfl ?_
              refine ng_get hx hb hts hown hK hH 45 (by decide) rfl rfl inlX0 1 (by decide) mw_62 rfl dX0_gather_82 ?_
              refine lv_iconst (v := (1 : Int32)) hx hb dX0_gather_85 (by decide) ?_
              refine lv_iadd hx hb dX0_gather_86 ?_
              refine ng_put hx hb hts hown hK hH 45 (by decide) rfl rfl inlX0 tyX0 tyX0_ok nmX0 1 (by decide) mw_62 rfl (by decide +kernel) (Nat.le_of_ble_eq_true rfl) rfl dX0_gather_87 (fun H locs hH => ?_)
              refine lv_iinc (v := (v3_19 + 1)) (lv' := [(3, .int (v3_19 + 1)), (2, .int q5), (5, .int q5), (4, .int q3), (0, .ref (h 45)), (1, .ref (h 1))]) hx hb dX0_gather_90 hl (k := 5) rfl rfl (by decide) rfl (fun ls hl => ?_)
              refine lv_goto (tgt := 19) hx hb dX0_gather_93 (by decide) ?_
              exact ih_19 q5 (v3_19 + 1) (nst (nst (nst σl_19 45 1 (0 : Int32)) 46 ((nst σl_19 45 1 (0 : Int32)) 45 1).toNatClampNeg q3) 45 1 (((nst (nst σl_19 45 1 (0 : Int32)) 46 ((nst σl_19 45 1 (0 : Int32)) 45 1).toNatClampNeg q3) 45 1) + (1 : Int32))) H locs ls hg hH (lv_sub hl [4, 5, 1, 0] rfl)
    refine LP_19 _ ?_ _ _ _ _ _ _ _ hg hH (lv_sub hl [2, 3, 1, 0] rfl)
    intro σe_19 H locs ls hg hH hl
    subst hQ
    exact ng_vret hx hb hr hlk (Option.some.inj hg) hH dX0_gather_96
  · replace hg := ob_f c1 hg
    subst hQ
    exact ng_vret hx hb hr hlk (Option.some.inj hg) hH dX0_gather_13
set_option maxHeartbeats 8000000 in
set_option maxRecDepth 100000 in
theorem cC_wholes (l : Launch) (D : va_G) (cI cZ cA : ClassId) (h : Nat → Nat) (hi : nInj 48 h) (σ : nS) (q : Int32 × nS) (hg : gC_wholes σ = some q) : nMi l yX3_wholes cX3_wholes 1 (some .int) 4 D cI cZ cA 48 (cfC cI cZ cA h) h [.ref (h 0)] σ q.1 q.2 := by
  unfold gC_wholes at hg
  refine ng_body_i (by decide) hi (Nat.le_of_ble_eq_true rfl) ?_
  intro p e R s m args below meth c sz Q ls hx hb hml hr hlk hts hown hK hR hQ hl hH
  have hown : s.vm.findClass RX3 = some m.cls := hown
  have hl : lv_has ls 1 [(0, .ref (h 0))] := hl
  refine lv_aload_n hx hb dX3_wholes_0 rfl (lv_at hl 0 rfl) ?_
  refine ng_get hx hb hts hown hK hH 0 (by decide) rfl rfl inlX3 2 (by decide) mw_23 rfl dX3_wholes_1 ?_
  refine lv_aload_n hx hb dX3_wholes_4 rfl (lv_at hl 0 rfl) ?_
  refine ng_get hx hb hts hown hK hH 0 (by decide) rfl rfl inlX3 0 (by decide) mw_15 rfl dX3_wholes_5 ?_
  obtain ⟨q1, hc2, hg⟩ := ob_b hg
  refine ng_cv (ng_rV hx hb hml hown hts hK hH (As := [.ref (h 1)]) (rest := []) 45 (cH_gather l D cI cZ cA h hi σ q1 hc2 _) (by decide) rfl rfl mw_386 mw_387 mw_388 mw_22 mw_389 pdX0_gather ⟨by rw [hR]; show _ ≤ _; simp only [nRm]; omega, by rw [hR]; show _ ≤ _; simp only [nRm]; omega⟩ hl.1 rfl (Nat.le_of_ble_eq_true rfl) dX3_wholes_8 ⟨Nat.zero_le _, Nat.zero_le _⟩) hH (fun H locs hH => ?_)
  refine lv_aload_n hx hb dX3_wholes_11 rfl (lv_at hl 0 rfl) ?_
  refine ng_get hx hb hts hown hK hH 0 (by decide) rfl rfl inlX3 2 (by decide) mw_23 rfl dX3_wholes_12 ?_
  refine ng_get hx hb hts hown hK hH 45 (by decide) rfl rfl inlX0 1 (by decide) mw_385 rfl dX3_wholes_15 ?_
  subst hQ
  exact ng_iret hx hb hr hlk (congrArg Prod.fst (Option.some.inj hg)) (congrArg Prod.snd (Option.some.inj hg)) hH dX3_wholes_18
set_option maxHeartbeats 8000000 in
set_option maxRecDepth 100000 in
theorem cH_sideOf (l : Launch) (D : va_G) (cI cZ cA : ClassId) (h : Nat → Nat) (hi : nInj 48 h) (p1 p2 : Int32) (σ : nS) (q : Int32) (hg : gH_sideOf p1 p2 σ = some q) : nMi l yX0_sideOf cX0_sideOf 3 (some .int) 2 D cI cZ cA 48 (cfC cI cZ cA h) h [.ref (h 45), .int p1, .int p2] σ q σ := by
  unfold gH_sideOf at hg
  refine ng_body_i (by decide) hi (Nat.le_of_ble_eq_true rfl) ?_
  intro p e R s m args below meth c sz Q ls hx hb hml hr hlk hts hown hK hR hQ hl hH
  have hown : s.vm.findClass RX0 = some m.cls := hown
  have hl : lv_has ls 3 [(0, .ref (h 45)), (1, .int p1), (2, .int p2)] := hl
  refine lv_iload_n hx hb dX0_sideOf_0 rfl (lv_at hl 1 rfl) ?_
  refine lv_if_lt (tgt := 12) hx hb dX0_sideOf_1 (by decide) (fun c1 => ?_) (fun c1 => ?_)
  · replace hg := ob_t c1 hg
    refine lv_iconst (v := (-1 : Int32)) hx hb dX0_sideOf_12 (by decide) ?_
    subst hQ
    exact ng_iret hx hb hr hlk (Option.some.inj hg) rfl hH dX0_sideOf_13
  · replace hg := ob_f c1 hg
    refine lv_iload_n hx hb dX0_sideOf_4 rfl (lv_at hl 1 rfl) ?_
    refine lv_aload_n hx hb dX0_sideOf_5 rfl (lv_at hl 0 rfl) ?_
    refine ng_get hx hb hts hown hK hH 45 (by decide) rfl rfl inlX0 1 (by decide) mw_62 rfl dX0_sideOf_6 ?_
    refine lv_icmp_lt (tgt := 14) hx hb dX0_sideOf_9 (by decide) (fun c2 => ?_) (fun c2 => ?_)
    · replace hg := ob_t c2 hg
      refine lv_aload_n hx hb dX0_sideOf_14 rfl (lv_at hl 0 rfl) ?_
      refine ng_get hx hb hts hown hK hH 45 (by decide) rfl rfl inlX0 0 (by decide) mw_61 rfl dX0_sideOf_15 ?_
      refine lv_iload_n hx hb dX0_sideOf_18 rfl (lv_at hl 1 rfl) ?_
      obtain ⟨hb3, hg⟩ := ob_i hg
      refine ng_iald hx hb hK hH 46 (by decide) (fun _ => rfl) hb3 dX0_sideOf_19 ?_
      refine lv_iload_n hx hb dX0_sideOf_20 rfl (lv_at hl 2 rfl) ?_
      obtain ⟨q4, hc5, hg⟩ := ob_b hg
      refine ng_ci (ng_rSN (host := "NetCuts") hx hb hml hown hts hK hH (As := [.int (σ 46 p1.toNatClampNeg), .int p2]) (rest := []) (cC_holds l D cI cZ cA h hi (σ 46 p1.toNatClampNeg) p2 σ q4 hc5 _) hK.2.1 mw_147 mw_2 mw_148 pdX3_holds.2 ⟨by rw [hR]; show _ ≤ _; simp only [nRm]; omega, by rw [hR]; show _ ≤ _; simp only [nRm]; omega⟩ hl.1 rfl (Nat.le_of_ble_eq_true rfl) dX0_sideOf_21 ⟨Nat.zero_le _, Nat.zero_le _⟩) hH (fun H locs hH => ?_)
      refine lv_if_eq (tgt := 31) hx hb dX0_sideOf_24 (by decide) (fun c6 => ?_) (fun c6 => ?_)
      · replace hg := ob_t c6 hg
        refine lv_iconst (v := (0 : Int32)) hx hb dX0_sideOf_31 (by decide) ?_
        subst hQ
        exact ng_iret hx hb hr hlk (Option.some.inj hg) rfl hH dX0_sideOf_32
      · replace hg := ob_f c6 hg
        refine lv_iconst (v := (1 : Int32)) hx hb dX0_sideOf_27 (by decide) ?_
        refine lv_goto (tgt := 32) hx hb dX0_sideOf_28 (by decide) ?_
        subst hQ
        exact ng_iret hx hb hr hlk (Option.some.inj hg) rfl hH dX0_sideOf_32
    · replace hg := ob_f c2 hg
      refine lv_iconst (v := (-1 : Int32)) hx hb dX0_sideOf_12 (by decide) ?_
      subst hQ
      exact ng_iret hx hb hr hlk (Option.some.inj hg) rfl hH dX0_sideOf_13
set_option maxHeartbeats 8000000 in
set_option maxRecDepth 100000 in
theorem cC_whole (l : Launch) (D : va_G) (cI cZ cA : ClassId) (h : Nat → Nat) (hi : nInj 48 h) (p1 p2 : Int32) (σ : nS) (q : Int32 × nS) (hg : gC_whole p1 p2 σ = some q) : nMi l yX3_whole cX3_whole 3 (some .int) 4 D cI cZ cA 48 (cfC cI cZ cA h) h [.ref (h 0), .int p1, .int p2] σ q.1 q.2 := by
  unfold gC_whole at hg
  refine ng_body_i (by decide) hi (Nat.le_of_ble_eq_true rfl) ?_
  intro p e R s m args below meth c sz Q ls hx hb hml hr hlk hts hown hK hR hQ hl hH
  have hown : s.vm.findClass RX3 = some m.cls := hown
  have hl : lv_has ls 3 [(0, .ref (h 0)), (1, .int p1), (2, .int p2)] := hl
  refine lv_aload_n hx hb dX3_whole_0 rfl (lv_at hl 0 rfl) ?_
  refine ng_get hx hb hts hown hK hH 0 (by decide) rfl rfl inlX3 0 (by decide) mw_15 rfl dX3_whole_1 ?_
  refine lv_iload_n hx hb dX3_whole_4 rfl (lv_at hl 2 rfl) ?_
  obtain ⟨q1, hc2, hg⟩ := ob_b hg
  refine ng_ci (ng_rV hx hb hml hown hts hK hH (As := [.int p2]) (rest := []) 1 (cN_hasPost l D cI cZ cA h hi p2 σ q1 hc2 _) (by decide) rfl rfl mw_145 mw_109 mw_110 mw_14 mw_111 pdX1_hasPost ⟨by rw [hR]; show _ ≤ _; simp only [nRm]; omega, by rw [hR]; show _ ≤ _; simp only [nRm]; omega⟩ hl.1 rfl (Nat.le_of_ble_eq_true rfl) dX3_whole_5 ⟨Nat.zero_le _, Nat.zero_le _⟩) hH (fun H locs hH => ?_)
  refine lv_if_ne (tgt := 13) hx hb dX3_whole_8 (by decide) (fun c3 => ?_) (fun c3 => ?_)
  · replace hg := ob_f c3 hg
    refine lv_aload_n hx hb dX3_whole_13 rfl (lv_at hl 0 rfl) ?_
    refine ng_get hx hb hts hown hK hH 0 (by decide) rfl rfl inlX3 2 (by decide) mw_23 rfl dX3_whole_14 ?_
    refine lv_aload_n hx hb dX3_whole_17 rfl (lv_at hl 0 rfl) ?_
    refine ng_get hx hb hts hown hK hH 0 (by decide) rfl rfl inlX3 0 (by decide) mw_15 rfl dX3_whole_18 ?_
    obtain ⟨q4, hc5, hg⟩ := ob_b hg
    refine ng_cv (ng_rV hx hb hml hown hts hK hH (As := [.ref (h 1)]) (rest := []) 45 (cH_gather l D cI cZ cA h hi σ q4 hc5 _) (by decide) rfl rfl mw_386 mw_387 mw_388 mw_22 mw_389 pdX0_gather ⟨by rw [hR]; show _ ≤ _; simp only [nRm]; omega, by rw [hR]; show _ ≤ _; simp only [nRm]; omega⟩ hl.1 rfl (Nat.le_of_ble_eq_true rfl) dX3_whole_21 ⟨Nat.zero_le _, Nat.zero_le _⟩) hH (fun H locs hH => ?_)
    refine lv_aload_n hx hb dX3_whole_24 rfl (lv_at hl 0 rfl) ?_
    refine ng_get hx hb hts hown hK hH 0 (by decide) rfl rfl inlX3 2 (by decide) mw_23 rfl dX3_whole_25 ?_
    refine lv_iload_n hx hb dX3_whole_28 rfl (lv_at hl 1 rfl) ?_
    refine lv_iload_n hx hb dX3_whole_29 rfl (lv_at hl 2 rfl) ?_
    obtain ⟨q6, hc7, hg⟩ := ob_b hg
    refine ng_ci (ng_rV hx hb hml hown hts hK hH (As := [.int p1, .int p2]) (rest := []) 45 (cH_sideOf l D cI cZ cA h hi p1 p2 q4 q6 hc7 _) (by decide) rfl rfl mw_407 mw_408 mw_409 mw_22 mw_410 pdX0_sideOf ⟨by rw [hR]; show _ ≤ _; simp only [nRm]; omega, by rw [hR]; show _ ≤ _; simp only [nRm]; omega⟩ hl.1 rfl (Nat.le_of_ble_eq_true rfl) dX3_whole_30 ⟨Nat.zero_le _, Nat.zero_le _⟩) hH (fun H locs hH => ?_)
    subst hQ
    exact ng_iret hx hb hr hlk (congrArg Prod.fst (Option.some.inj hg)) (congrArg Prod.snd (Option.some.inj hg)) hH dX3_whole_33
  · replace hg := ob_t c3 hg
    refine lv_iconst (v := (-1 : Int32)) hx hb dX3_whole_11 (by decide) ?_
    subst hQ
    exact ng_iret hx hb hr hlk (congrArg Prod.fst (Option.some.inj hg)) (congrArg Prod.snd (Option.some.inj hg)) hH dX3_whole_12
set_option maxHeartbeats 8000000 in
set_option maxRecDepth 100000 in
theorem cC_findRegret (l : Launch) (D : va_G) (cI cZ cA : ClassId) (h : Nat → Nat) (hi : nInj 48 h) (σ : nS) (q : Int32 × nS) (hg : gC_findRegret σ = some q) : nMi l yX3_findRegret cX3_findRegret 4 (some .boolean) 15 D cI cZ cA 48 (cfC cI cZ cA h) h [.ref (h 0)] σ q.1 q.2 := by
  unfold gC_findRegret at hg
  refine ng_body_i (by decide) hi (Nat.le_of_ble_eq_true rfl) ?_
  intro p e R s m args below meth c sz Q ls hx hb hml hr hlk hts hown hK hR hQ hl hH
  have hown : s.vm.findClass RX3 = some m.cls := hown
  have hl : lv_has ls 4 [(0, .ref (h 0))] := hl
  refine lv_aload_n hx hb dX3_findRegret_0 rfl (lv_at hl 0 rfl) ?_
  refine ng_get hx hb hts hown hK hH 0 (by decide) rfl rfl inlX3 0 (by decide) mw_15 rfl dX3_findRegret_1 ?_
  refine ng_get hx hb hts hown hK hH 1 (by decide) rfl rfl inlX1 5 (by decide) mw_191 rfl dX3_findRegret_4 ?_
  refine lv_if_ne (tgt := 12) hx hb dX3_findRegret_7 (by decide) (fun c1 => ?_) (fun c1 => ?_)
  · replace hg := ob_f c1 hg
    refine lv_aload_n hx hb dX3_findRegret_12 rfl (lv_at hl 0 rfl) ?_
    refine ng_get hx hb hts hown hK hH 0 (by decide) rfl rfl inlX3 1 (by decide) mw_19 rfl dX3_findRegret_13 ?_
    refine lv_aload_n hx hb dX3_findRegret_16 rfl (lv_at hl 0 rfl) ?_
    refine ng_get hx hb hts hown hK hH 0 (by decide) rfl rfl inlX3 0 (by decide) mw_15 rfl dX3_findRegret_17 ?_
    refine ng_get hx hb hts hown hK hH 1 (by decide) rfl rfl inlX1 5 (by decide) mw_191 rfl dX3_findRegret_20 ?_
    obtain ⟨q2, hc3, hg⟩ := ob_b hg
    refine ng_cv (ng_rV hx hb hml hown hts hK hH (As := [.int (σ 1 5)]) (rest := []) 9 (cS_begin l D cI cZ cA h hi (σ 1 5) σ q2 hc3 _) (by decide) rfl rfl mw_197 mw_198 mw_199 mw_18 mw_200 pdX2_begin ⟨by rw [hR]; show _ ≤ _; simp only [nRm]; omega, by rw [hR]; show _ ≤ _; simp only [nRm]; omega⟩ hl.1 rfl (Nat.le_of_ble_eq_true rfl) dX3_findRegret_23 ⟨Nat.zero_le _, Nat.zero_le _⟩) hH (fun H locs hH => ?_)
    refine lv_iconst (v := (0 : Int32)) hx hb dX3_findRegret_26 (by decide) ?_
    refine lv_istore_n (lv' := [(1, .int (0 : Int32)), (0, .ref (h 0))]) hx hb dX3_findRegret_27 rfl hl (by decide) rfl (fun ls hl => ?_)
    have LP_28 : ∀ (K_28 : nS → Option (Int32 × nS)) (kk_28 : ∀ (σe_28 : nS) (H : Heap) (locs : List Loc) (ls : Array Slot), K_28 σe_28 = some q → nH D 48 (cfC cI cZ cA h) h (nAd 48 h sz) s.heap σe_28 H locs → lv_has ls 4 [(0, .ref (h 0))] → W p l e R s m args below meth c H locs 0 0 Q (F0 m 120 ls [])) (n : Nat) (v1_28 : Int32) (σl_28 : nS) (H : Heap) (locs : List Loc) (ls : Array Slot), gC_findRegret_L28 K_28 n v1_28 σl_28 = some q → nH D 48 (cfC cI cZ cA h) h (nAd 48 h sz) s.heap σl_28 H locs → lv_has ls 4 [(0, .ref (h 0)), (1, .int v1_28)] → W p l e R s m args below meth c H locs 0 0 Q (F0 m 28 ls []) := by
      intro K_28 kk_28 n
      induction n with
      | zero => intro v1_28 σl_28 H locs ls hg hH hl; rw [gC_findRegret_L28] at hg; exact ob_n hg
      | succ n ih_28 =>
        intro v1_28 σl_28 H locs ls hg hH hl
        rw [gC_findRegret_L28] at hg
        refine lv_iload_n hx hb dX3_findRegret_28 rfl (lv_at hl 1 rfl) ?_
        refine lv_aload_n hx hb dX3_findRegret_29 rfl (lv_at hl 0 rfl) ?_
        refine ng_get hx hb hts hown hK hH 0 (by decide) rfl rfl inlX3 0 (by decide) mw_15 rfl dX3_findRegret_30 ?_
        refine ng_get hx hb hts hown hK hH 1 (by decide) rfl rfl inlX1 6 (by decide) mw_192 rfl dX3_findRegret_33 ?_
        refine lv_icmp_ge (tgt := 120) hx hb dX3_findRegret_36 (by decide) (fun c6 => ?_) (fun c6 => ?_)
        · replace hg := ob_t c6 hg
          exact kk_28 σl_28 H locs ls hg hH (lv_sub hl [0] rfl)
        · replace hg := ob_f c6 hg
          refine lv_aload_n hx hb dX3_findRegret_39 rfl (lv_at hl 0 rfl) ?_
          refine ng_get hx hb hts hown hK hH 0 (by decide) rfl rfl inlX3 0 (by decide) mw_15 rfl dX3_findRegret_40 ?_
          refine ng_get hx hb hts hown hK hH 1 (by decide) rfl rfl inlX1 4 (by decide) mw_193 rfl dX3_findRegret_43 ?_
          refine lv_iload_n hx hb dX3_findRegret_46 rfl (lv_at hl 1 rfl) ?_
          obtain ⟨hb7, hg⟩ := ob_i hg
          refine ng_zald hx hb hK hH 6 (by decide) (fun _ => rfl) hb7 dX3_findRegret_47 ?_
          refine lv_if_ne (tgt := 114) hx hb dX3_findRegret_48 (by decide) (fun c8 => ?_) (fun c8 => ?_)
          · replace hg := ob_f c8 hg
            refine lv_iinc (v := (v1_28 + 1)) (lv' := [(1, .int (v1_28 + 1)), (0, .ref (h 0))]) hx hb dX3_findRegret_114 hl (k := 1) rfl rfl (by decide) rfl (fun ls hl => ?_)
            refine lv_goto (tgt := 28) hx hb dX3_findRegret_117 (by decide) ?_
            exact ih_28 (v1_28 + 1) σl_28 H locs ls hg hH (lv_sub hl [1, 0] rfl)
          · replace hg := ob_t c8 hg
            refine lv_aload_n hx hb dX3_findRegret_51 rfl (lv_at hl 0 rfl) ?_
            refine ng_get hx hb hts hown hK hH 0 (by decide) rfl rfl inlX3 0 (by decide) mw_15 rfl dX3_findRegret_52 ?_
            refine ng_get hx hb hts hown hK hH 1 (by decide) rfl rfl inlX1 2 (by decide) mw_196 rfl dX3_findRegret_55 ?_
            refine lv_iload_n hx hb dX3_findRegret_58 rfl (lv_at hl 1 rfl) ?_
            obtain ⟨hb9, hg⟩ := ob_i hg
            refine ng_iald hx hb hK hH 4 (by decide) (fun _ => rfl) hb9 dX3_findRegret_59 ?_
            refine lv_istore_n (lv' := [(2, .int (σl_28 4 v1_28.toNatClampNeg)), (0, .ref (h 0)), (1, .int v1_28)]) hx hb dX3_findRegret_60 rfl hl (by decide) rfl (fun ls hl => ?_)
            refine lv_aload_n hx hb dX3_findRegret_61 rfl (lv_at hl 1 rfl) ?_
            refine ng_get hx hb hts hown hK hH 0 (by decide) rfl rfl inlX3 0 (by decide) mw_15 rfl dX3_findRegret_62 ?_
            refine ng_get hx hb hts hown hK hH 1 (by decide) rfl rfl inlX1 3 (by decide) mw_423 rfl dX3_findRegret_65 ?_
            refine lv_iload_n hx hb dX3_findRegret_68 rfl (lv_at hl 2 rfl) ?_
            obtain ⟨hb10, hg⟩ := ob_i hg
            refine ng_zald hx hb hK hH 5 (by decide) (fun _ => rfl) hb10 dX3_findRegret_69 ?_
            refine lv_istore_n (lv' := [(3, .int (σl_28 5 v1_28.toNatClampNeg)), (2, .int (σl_28 4 v1_28.toNatClampNeg)), (0, .ref (h 0)), (1, .int v1_28)]) hx hb dX3_findRegret_70 rfl hl (by decide) rfl (fun ls hl => ?_)
            refine lv_aload_n hx hb dX3_findRegret_71 rfl (lv_at hl 2 rfl) ?_
            refine ng_get hx hb hts hown hK hH 0 (by decide) rfl rfl inlX3 1 (by decide) mw_19 rfl dX3_findRegret_72 ?_
            refine lv_aload_n hx hb dX3_findRegret_75 rfl (lv_at hl 2 rfl) ?_
            refine ng_get hx hb hts hown hK hH 0 (by decide) rfl rfl inlX3 0 (by decide) mw_15 rfl dX3_findRegret_76 ?_
            refine ng_get hx hb hts hown hK hH 1 (by decide) rfl rfl inlX1 0 (by decide) mw_194 rfl dX3_findRegret_79 ?_
            refine lv_iload_n hx hb dX3_findRegret_82 rfl (lv_at hl 3 rfl) ?_
            obtain ⟨hb11, hg⟩ := ob_i hg
            refine ng_iald hx hb hK hH 2 (by decide) (fun _ => rfl) hb11 dX3_findRegret_83 ?_
            refine lv_aload_n hx hb dX3_findRegret_84 rfl (lv_at hl 2 rfl) ?_
            refine ng_get hx hb hts hown hK hH 0 (by decide) rfl rfl inlX3 0 (by decide) mw_15 rfl dX3_findRegret_85 ?_
            refine ng_get hx hb hts hown hK hH 1 (by decide) rfl rfl inlX1 1 (by decide) mw_195 rfl dX3_findRegret_88 ?_
            refine lv_iload_n hx hb dX3_findRegret_91 rfl (lv_at hl 3 rfl) ?_
            obtain ⟨hb12, hg⟩ := ob_i hg
            refine ng_iald hx hb hK hH 3 (by decide) (fun _ => rfl) hb12 dX3_findRegret_92 ?_
            refine lv_iload_n hx hb dX3_findRegret_93 rfl (lv_at hl 0 rfl) ?_
            refine lv_if_eq (tgt := 101) hx hb dX3_findRegret_94 (by decide) (fun c13 => ?_) (fun c13 => ?_)
            · replace hg := ob_t c13 hg
              refine lv_iconst (v := (0 : Int32)) hx hb dX3_findRegret_101 (by decide) ?_
              refine lv_iload_n hx hb dX3_findRegret_102 rfl (lv_at hl 0 rfl) ?_
              refine lv_if_eq (tgt := 110) hx hb dX3_findRegret_103 (by decide) (fun c14 => ?_) (fun c14 => ?_)
              · replace hg := ob_t c14 hg
                refine lv_iload_n hx hb dX3_findRegret_110 rfl (lv_at hl 1 rfl) ?_
                obtain ⟨q15, hc16, hg⟩ := ob_b hg
                refine ng_cv (ng_rV hx hb hml hown hts hK hH (As := [.int (σl_28 2 v1_28.toNatClampNeg), .int (σl_28 3 v1_28.toNatClampNeg), .int (0 : Int32), .int (σl_28 4 v1_28.toNatClampNeg)]) (rest := []) 9 (cS_addCost l D cI cZ cA h hi (σl_28 2 v1_28.toNatClampNeg) (σl_28 3 v1_28.toNatClampNeg) (0 : Int32) (σl_28 4 v1_28.toNatClampNeg) σl_28 q15 hc16 _) (by decide) rfl rfl mw_205 mw_206 mw_207 mw_18 mw_208 pdX2_addCost ⟨by rw [hR]; show _ ≤ _; simp only [nRm]; omega, by rw [hR]; show _ ≤ _; simp only [nRm]; omega⟩ hl.1 rfl (Nat.le_of_ble_eq_true rfl) dX3_findRegret_111 ⟨Nat.zero_le _, Nat.zero_le _⟩) hH (fun H locs hH => ?_)
                refine lv_iinc (v := (v1_28 + 1)) (lv' := [(1, .int (v1_28 + 1)), (3, .int (σl_28 5 v1_28.toNatClampNeg)), (2, .int (σl_28 4 v1_28.toNatClampNeg)), (0, .ref (h 0))]) hx hb dX3_findRegret_114 hl (k := 3) rfl rfl (by decide) rfl (fun ls hl => ?_)
                refine lv_goto (tgt := 28) hx hb dX3_findRegret_117 (by decide) ?_
                exact ih_28 (v1_28 + 1) q15 H locs ls hg hH (lv_sub hl [3, 0] rfl)
              · replace hg := ob_f c14 hg
                refine lv_iconst (v := (0 : Int32)) hx hb dX3_findRegret_106 (by decide) ?_
                refine lv_goto (tgt := 111) hx hb dX3_findRegret_107 (by decide) ?_
                obtain ⟨q17, hc18, hg⟩ := ob_b hg
                refine ng_cv (ng_rV hx hb hml hown hts hK hH (As := [.int (σl_28 2 v1_28.toNatClampNeg), .int (σl_28 3 v1_28.toNatClampNeg), .int (0 : Int32), .int (0 : Int32)]) (rest := []) 9 (cS_addCost l D cI cZ cA h hi (σl_28 2 v1_28.toNatClampNeg) (σl_28 3 v1_28.toNatClampNeg) (0 : Int32) (0 : Int32) σl_28 q17 hc18 _) (by decide) rfl rfl mw_205 mw_206 mw_207 mw_18 mw_208 pdX2_addCost ⟨by rw [hR]; show _ ≤ _; simp only [nRm]; omega, by rw [hR]; show _ ≤ _; simp only [nRm]; omega⟩ hl.1 rfl (Nat.le_of_ble_eq_true rfl) dX3_findRegret_111 ⟨Nat.zero_le _, Nat.zero_le _⟩) hH (fun H locs hH => ?_)
                refine lv_iinc (v := (v1_28 + 1)) (lv' := [(1, .int (v1_28 + 1)), (3, .int (σl_28 5 v1_28.toNatClampNeg)), (2, .int (σl_28 4 v1_28.toNatClampNeg)), (0, .ref (h 0))]) hx hb dX3_findRegret_114 hl (k := 3) rfl rfl (by decide) rfl (fun ls hl => ?_)
                refine lv_goto (tgt := 28) hx hb dX3_findRegret_117 (by decide) ?_
                exact ih_28 (v1_28 + 1) q17 H locs ls hg hH (lv_sub hl [3, 0] rfl)
            · replace hg := ob_f c13 hg
              refine lv_iload_n hx hb dX3_findRegret_97 rfl (lv_at hl 1 rfl) ?_
              refine lv_goto (tgt := 102) hx hb dX3_findRegret_98 (by decide) ?_
              refine lv_iload_n hx hb dX3_findRegret_102 rfl (lv_at hl 0 rfl) ?_
              refine lv_if_eq (tgt := 110) hx hb dX3_findRegret_103 (by decide) (fun c19 => ?_) (fun c19 => ?_)
              · replace hg := ob_t c19 hg
                refine lv_iload_n hx hb dX3_findRegret_110 rfl (lv_at hl 1 rfl) ?_
                obtain ⟨q20, hc21, hg⟩ := ob_b hg
                refine ng_cv (ng_rV hx hb hml hown hts hK hH (As := [.int (σl_28 2 v1_28.toNatClampNeg), .int (σl_28 3 v1_28.toNatClampNeg), .int (σl_28 4 v1_28.toNatClampNeg), .int (σl_28 4 v1_28.toNatClampNeg)]) (rest := []) 9 (cS_addCost l D cI cZ cA h hi (σl_28 2 v1_28.toNatClampNeg) (σl_28 3 v1_28.toNatClampNeg) (σl_28 4 v1_28.toNatClampNeg) (σl_28 4 v1_28.toNatClampNeg) σl_28 q20 hc21 _) (by decide) rfl rfl mw_205 mw_206 mw_207 mw_18 mw_208 pdX2_addCost ⟨by rw [hR]; show _ ≤ _; simp only [nRm]; omega, by rw [hR]; show _ ≤ _; simp only [nRm]; omega⟩ hl.1 rfl (Nat.le_of_ble_eq_true rfl) dX3_findRegret_111 ⟨Nat.zero_le _, Nat.zero_le _⟩) hH (fun H locs hH => ?_)
                refine lv_iinc (v := (v1_28 + 1)) (lv' := [(1, .int (v1_28 + 1)), (3, .int (σl_28 5 v1_28.toNatClampNeg)), (2, .int (σl_28 4 v1_28.toNatClampNeg)), (0, .ref (h 0))]) hx hb dX3_findRegret_114 hl (k := 3) rfl rfl (by decide) rfl (fun ls hl => ?_)
                refine lv_goto (tgt := 28) hx hb dX3_findRegret_117 (by decide) ?_
                exact ih_28 (v1_28 + 1) q20 H locs ls hg hH (lv_sub hl [3, 0] rfl)
              · replace hg := ob_f c19 hg
                refine lv_iconst (v := (0 : Int32)) hx hb dX3_findRegret_106 (by decide) ?_
                refine lv_goto (tgt := 111) hx hb dX3_findRegret_107 (by decide) ?_
                obtain ⟨q22, hc23, hg⟩ := ob_b hg
                refine ng_cv (ng_rV hx hb hml hown hts hK hH (As := [.int (σl_28 2 v1_28.toNatClampNeg), .int (σl_28 3 v1_28.toNatClampNeg), .int (σl_28 4 v1_28.toNatClampNeg), .int (0 : Int32)]) (rest := []) 9 (cS_addCost l D cI cZ cA h hi (σl_28 2 v1_28.toNatClampNeg) (σl_28 3 v1_28.toNatClampNeg) (σl_28 4 v1_28.toNatClampNeg) (0 : Int32) σl_28 q22 hc23 _) (by decide) rfl rfl mw_205 mw_206 mw_207 mw_18 mw_208 pdX2_addCost ⟨by rw [hR]; show _ ≤ _; simp only [nRm]; omega, by rw [hR]; show _ ≤ _; simp only [nRm]; omega⟩ hl.1 rfl (Nat.le_of_ble_eq_true rfl) dX3_findRegret_111 ⟨Nat.zero_le _, Nat.zero_le _⟩) hH (fun H locs hH => ?_)
                refine lv_iinc (v := (v1_28 + 1)) (lv' := [(1, .int (v1_28 + 1)), (3, .int (σl_28 5 v1_28.toNatClampNeg)), (2, .int (σl_28 4 v1_28.toNatClampNeg)), (0, .ref (h 0))]) hx hb dX3_findRegret_114 hl (k := 3) rfl rfl (by decide) rfl (fun ls hl => ?_)
                refine lv_goto (tgt := 28) hx hb dX3_findRegret_117 (by decide) ?_
                exact ih_28 (v1_28 + 1) q22 H locs ls hg hH (lv_sub hl [3, 0] rfl)
    refine LP_28 _ ?_ _ _ _ _ _ _ hg hH (lv_sub hl [1, 0] rfl)
    intro σe_28 H locs ls hg hH hl
    refine lv_aload_n hx hb dX3_findRegret_120 rfl (lv_at hl 0 rfl) ?_
    refine ng_get hx hb hts hown hK hH 0 (by decide) rfl rfl inlX3 1 (by decide) mw_19 rfl dX3_findRegret_121 ?_
    obtain ⟨q4, hc5, hg⟩ := ob_b hg
    refine ng_cv (ng_rV hx hb hml hown hts hK hH (As := []) (rest := []) 9 (cS_run l D cI cZ cA h hi σe_28 q4 hc5 _) (by decide) rfl rfl mw_220 mw_221 mw_222 mw_18 mw_223 pdX2_run ⟨by rw [hR]; show _ ≤ _; simp only [nRm]; omega, by rw [hR]; show _ ≤ _; simp only [nRm]; omega⟩ hl.1 rfl (Nat.le_of_ble_eq_true rfl) dX3_findRegret_124 ⟨Nat.zero_le _, Nat.zero_le _⟩) hH (fun H locs hH => ?_)
    refine lv_iconst (v := (1 : Int32)) hx hb dX3_findRegret_127 (by decide) ?_
    subst hQ
    exact ng_zret hx hb hr hlk (by decide) (congrArg Prod.fst (Option.some.inj hg)) (congrArg Prod.snd (Option.some.inj hg)) hH dX3_findRegret_128
  · replace hg := ob_t c1 hg
    refine lv_iconst (v := (0 : Int32)) hx hb dX3_findRegret_10 (by decide) ?_
    subst hQ
    exact ng_zret hx hb hr hlk (by decide) (congrArg Prod.fst (Option.some.inj hg)) (congrArg Prod.snd (Option.some.inj hg)) hH dX3_findRegret_11
