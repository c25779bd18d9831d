set_option maxHeartbeats 8000000 in
set_option maxRecDepth 100000 in
theorem cM_heapPrice (l : Launch) (D : va_G) (cI cZ cA : ClassId) (h : Nat → Nat) (hi : nInj 14 h) (p1 : Int32) (σ : nS) (q : Int32) (hg : gM_heapPrice p1 σ = some q) : nMi l yX4_heapPrice cX4_heapPrice 4 (some .int) 1 D cI cZ cA 14 (cfM cI cZ h) h [.ref (h 0), .int p1] σ q σ := by
  unfold gM_heapPrice at hg
  refine ng_body_i (by decide) hi (Nat.le_of_ble_eq_true rfl) ?_
  intro p e R s m args below meth c sz Q ls hx hb hml hr hlk hts hown hK hR hQ hl hH
  have hown : s.vm.findClass RX4 = some m.cls := hown
  have hl : lv_has ls 4 [(0, .ref (h 0)), (1, .int p1)] := hl
  refine lv_iconst (v := (0 : Int32)) hx hb dX4_heapPrice_0 (by decide) ?_
  refine lv_istore_n (lv' := [(2, .int (0 : Int32)), (0, .ref (h 0)), (1, .int p1)]) hx hb dX4_heapPrice_1 rfl hl (by decide) rfl (fun ls hl => ?_)
  refine lv_iconst (v := (0 : Int32)) hx hb dX4_heapPrice_2 (by decide) ?_
  refine lv_istore_n (lv' := [(3, .int (0 : Int32)), (2, .int (0 : Int32)), (0, .ref (h 0)), (1, .int p1)]) hx hb dX4_heapPrice_3 rfl hl (by decide) rfl (fun ls hl => ?_)
  have LP_4 : ∀ (K_4 : Int32 → Option Int32) (kk_4 : ∀ (w2_4 : Int32) (H : Heap) (locs : List Loc) (ls : Array Slot), K_4 w2_4 = some q → nH D 14 (cfM cI cZ h) h (nAd 14 h sz) s.heap σ H locs → lv_has ls 4 [(2, .int w2_4)] → W p l e R s m args below meth c H locs 0 0 Q (F0 m 40 ls [])) (n : Nat) (v2_4 v3_4 : Int32) (H : Heap) (locs : List Loc) (ls : Array Slot), gM_heapPrice_L4 p1 σ K_4 n v2_4 v3_4 = some q → nH D 14 (cfM cI cZ h) h (nAd 14 h sz) s.heap σ H locs → lv_has ls 4 [(0, .ref (h 0)), (1, .int p1), (2, .int v2_4), (3, .int v3_4)] → W p l e R s m args below meth c H locs 0 0 Q (F0 m 4 ls []) := by
    intro K_4 kk_4 n
    induction n with
    | zero => intro v2_4 v3_4 H locs ls hg hH hl; rw [gM_heapPrice_L4] at hg; exact ob_n hg
    | succ n ih_4 =>
      intro v2_4 v3_4 H locs ls hg hH hl
      rw [gM_heapPrice_L4] at hg
      refine lv_iload_n hx hb dX4_heapPrice_4 rfl (lv_at hl 3 rfl) ?_
      refine lv_aload_n hx hb dX4_heapPrice_5 rfl (lv_at hl 0 rfl) ?_
      refine ng_get hx hb hts hown hK hH 0 (by decide) rfl rfl inlX4 2 (by decide) mw_92 rfl dX4_heapPrice_6 ?_
      refine lv_icmp_ge (tgt := 40) hx hb dX4_heapPrice_9 (by decide) (fun c1 => ?_) (fun c1 => ?_)
      · replace hg := ob_t c1 hg
        exact kk_4 v2_4 H locs ls hg hH (lv_sub hl [2] rfl)
      · replace hg := ob_f c1 hg
        refine lv_iload_n hx hb dX4_heapPrice_12 rfl (lv_at hl 2 rfl) ?_
        refine lv_iload_n hx hb dX4_heapPrice_13 rfl (lv_at hl 1 rfl) ?_
        refine lv_iload_n hx hb dX4_heapPrice_14 rfl (lv_at hl 3 rfl) ?_
        refine lv_ishr hx hb dX4_heapPrice_15 ?_
        refine lv_iconst (v := (1 : Int32)) hx hb dX4_heapPrice_16 (by decide) ?_
        refine lv_iand hx hb dX4_heapPrice_17 ?_
        refine lv_iconst (v := (1 : Int32)) hx hb dX4_heapPrice_18 (by decide) ?_
        refine lv_icmp_ne (tgt := 31) hx hb dX4_heapPrice_19 (by decide) (fun c2 => ?_) (fun c2 => ?_)
        · replace hg := ob_f c2 hg
          refine lv_iconst (v := (0 : Int32)) hx hb dX4_heapPrice_31 (by decide) ?_
          refine lv_iadd hx hb dX4_heapPrice_32 ?_
          refine lv_istore_n (lv' := [(2, .int (v2_4 + (0 : Int32))), (0, .ref (h 0)), (1, .int p1), (3, .int v3_4)]) hx hb dX4_heapPrice_33 rfl hl (by decide) rfl (fun ls hl => ?_)
          refine lv_iinc (v := (v3_4 + 1)) (lv' := [(3, .int (v3_4 + 1)), (2, .int (v2_4 + (0 : Int32))), (0, .ref (h 0)), (1, .int p1)]) hx hb dX4_heapPrice_34 hl (k := 3) rfl rfl (by decide) rfl (fun ls hl => ?_)
          refine lv_goto (tgt := 4) hx hb dX4_heapPrice_37 (by decide) ?_
          exact ih_4 (v2_4 + (0 : Int32)) (v3_4 + 1) H locs ls hg hH (lv_sub hl [2, 3, 1, 0] rfl)
        · replace hg := ob_t c2 hg
          refine lv_aload_n hx hb dX4_heapPrice_22 rfl (lv_at hl 0 rfl) ?_
          refine ng_get hx hb hts hown hK hH 0 (by decide) rfl rfl inlX4 0 (by decide) mw_67 rfl dX4_heapPrice_23 ?_
          refine lv_iload_n hx hb dX4_heapPrice_26 rfl (lv_at hl 3 rfl) ?_
          obtain ⟨hb3, hg⟩ := ob_i hg
          refine ng_iald hx hb hK hH 1 (by decide) (fun _ => rfl) hb3 dX4_heapPrice_27 ?_
          refine lv_goto (tgt := 32) hx hb dX4_heapPrice_28 (by decide) ?_
          refine lv_iadd hx hb dX4_heapPrice_32 ?_
          refine lv_istore_n (lv' := [(2, .int (v2_4 + (σ 1 v3_4.toNatClampNeg))), (0, .ref (h 0)), (1, .int p1), (3, .int v3_4)]) hx hb dX4_heapPrice_33 rfl hl (by decide) rfl (fun ls hl => ?_)
          refine lv_iinc (v := (v3_4 + 1)) (lv' := [(3, .int (v3_4 + 1)), (2, .int (v2_4 + (σ 1 v3_4.toNatClampNeg))), (0, .ref (h 0)), (1, .int p1)]) hx hb dX4_heapPrice_34 hl (k := 3) rfl rfl (by decide) rfl (fun ls hl => ?_)
          refine lv_goto (tgt := 4) hx hb dX4_heapPrice_37 (by decide) ?_
          exact ih_4 (v2_4 + (σ 1 v3_4.toNatClampNeg)) (v3_4 + 1) H locs ls hg hH (lv_sub hl [2, 3, 1, 0] rfl)
  refine LP_4 _ ?_ _ _ _ _ _ _ hg hH (lv_sub hl [2, 3, 1, 0] rfl)
  intro w2_4 H locs ls hg hH hl
  refine lv_iload_n hx hb dX4_heapPrice_40 rfl (lv_at hl 0 rfl) ?_
  subst hQ
  exact ng_iret hx hb hr hlk (Option.some.inj hg) rfl hH dX4_heapPrice_41
set_option maxHeartbeats 8000000 in
set_option maxRecDepth 100000 in
theorem cM_barOf (l : Launch) (D : va_G) (cI cZ cA : ClassId) (h : Nat → Nat) (hi : nInj 14 h) (p1 p2 : Int32) (σ : nS) (q : Int32 × nS) (hg : gM_barOf p1 p2 σ = some q) : nMi l yX4_barOf cX4_barOf 5 (some .int) 2 D cI cZ cA 14 (cfM cI cZ h) h [.ref (h 0), .int p1, .int p2] σ q.1 q.2 := by
  unfold gM_barOf at hg
  refine ng_body_i (by decide) hi (Nat.le_of_ble_eq_true rfl) ?_
  intro p e R s m args below meth c sz Q ls hx hb hml hr hlk hts hown hK hR hQ hl hH
  have hown : s.vm.findClass RX4 = some m.cls := hown
  have hl : lv_has ls 5 [(0, .ref (h 0)), (1, .int p1), (2, .int p2)] := hl
  refine lv_iconst (v := (-1 : Int32)) hx hb dX4_barOf_0 (by decide) ?_
  refine lv_istore_n (lv' := [(3, .int (-1 : Int32)), (0, .ref (h 0)), (1, .int p1), (2, .int p2)]) hx hb dX4_barOf_1 rfl hl (by decide) rfl (fun ls hl => ?_)
  refine lv_iconst (v := (0 : Int32)) hx hb dX4_barOf_2 (by decide) ?_
  refine lv_istore (lv' := [(4, .int (0 : Int32)), (3, .int (-1 : Int32)), (0, .ref (h 0)), (1, .int p1), (2, .int p2)]) hx hb dX4_barOf_3 hl (by decide) rfl (fun ls hl => ?_)
  have LP_5 : ∀ (K_5 : Int32 → nS → Option (Int32 × nS)) (kk_5 : ∀ (w3_5 : Int32) (σe_5 : nS) (H : Heap) (locs : List Loc) (ls : Array Slot), K_5 w3_5 σe_5 = some q → nH D 14 (cfM cI cZ h) h (nAd 14 h sz) s.heap σe_5 H locs → lv_has ls 5 [(3, .int w3_5)] → W p l e R s m args below meth c H locs 0 0 Q (F0 m 84 ls [])) (n : Nat) (v3_5 v4_5 : Int32) (σl_5 : nS) (H : Heap) (locs : List Loc) (ls : Array Slot), gM_barOf_L5 p1 p2 K_5 n v3_5 v4_5 σl_5 = some q → nH D 14 (cfM cI cZ h) h (nAd 14 h sz) s.heap σl_5 H locs → lv_has ls 5 [(0, .ref (h 0)), (1, .int p1), (2, .int p2), (3, .int v3_5), (4, .int v4_5)] → W p l e R s m args below meth c H locs 0 0 Q (F0 m 5 ls []) := by
    intro K_5 kk_5 n
    induction n with
    | zero => intro v3_5 v4_5 σl_5 H locs ls hg hH hl; rw [gM_barOf_L5] at hg; exact ob_n hg
    | succ n ih_5 =>
      intro v3_5 v4_5 σl_5 H locs ls hg hH hl
      rw [gM_barOf_L5] at hg
      refine lv_iload hx hb dX4_barOf_5 (lv_at hl 4 rfl) ?_
      refine lv_iconst (v := (1 : Int32)) hx hb dX4_barOf_7 (by decide) ?_
      refine lv_aload_n hx hb dX4_barOf_8 rfl (lv_at hl 0 rfl) ?_
      refine ng_get hx hb hts hown hK hH 0 (by decide) rfl rfl inlX4 2 (by decide) mw_92 rfl dX4_barOf_9 ?_
      refine lv_ishl hx hb dX4_barOf_12 ?_
      refine lv_icmp_ge (tgt := 84) hx hb dX4_barOf_13 (by decide) (fun c1 => ?_) (fun c1 => ?_)
      · replace hg := ob_t c1 hg
        exact kk_5 v3_5 σl_5 H locs ls hg hH (lv_sub hl [3] rfl)
      · replace hg := ob_f c1 hg
        refine lv_iload hx hb dX4_barOf_16 (lv_at hl 4 rfl) ?_
        refine lv_iload_n hx hb dX4_barOf_18 rfl (lv_at hl 1 rfl) ?_
        refine lv_ishr hx hb dX4_barOf_19 ?_
        refine lv_iconst (v := (1 : Int32)) hx hb dX4_barOf_20 (by decide) ?_
        refine lv_iand hx hb dX4_barOf_21 ?_
        refine lv_iconst (v := (1 : Int32)) hx hb dX4_barOf_22 (by decide) ?_
        refine lv_icmp_eq (tgt := 78) hx hb dX4_barOf_23 (by decide) (fun c2 => ?_) (fun c2 => ?_)
        · replace hg := ob_t c2 hg
          refine lv_iinc (v := (v4_5 + 1)) (lv' := [(4, .int (v4_5 + 1)), (0, .ref (h 0)), (1, .int p1), (2, .int p2), (3, .int v3_5)]) hx hb dX4_barOf_78 hl (k := 4) rfl rfl (by decide) rfl (fun ls hl => ?_)
          refine lv_goto (tgt := 5) hx hb dX4_barOf_81 (by decide) ?_
          exact ih_5 v3_5 (v4_5 + 1) σl_5 H locs ls hg hH (lv_sub hl [1, 2, 3, 4, 0] rfl)
        · replace hg := ob_f c2 hg
          refine lv_iload hx hb dX4_barOf_26 (lv_at hl 4 rfl) ?_
          refine lv_iload_n hx hb dX4_barOf_28 rfl (lv_at hl 2 rfl) ?_
          refine lv_ishr hx hb dX4_barOf_29 ?_
          refine lv_iconst (v := (1 : Int32)) hx hb dX4_barOf_30 (by decide) ?_
          refine lv_iand hx hb dX4_barOf_31 ?_
          refine lv_iconst (v := (1 : Int32)) hx hb dX4_barOf_32 (by decide) ?_
          refine lv_icmp_ne (tgt := 39) hx hb dX4_barOf_33 (by decide) (fun c3 => ?_) (fun c3 => ?_)
          · replace hg := ob_f c3 hg
            refine lv_aload_n hx hb dX4_barOf_39 rfl (lv_at hl 0 rfl) ?_
            refine lv_iload_n hx hb dX4_barOf_40 rfl (lv_at hl 1 rfl) ?_
            refine lv_iload hx hb dX4_barOf_41 (lv_at hl 4 rfl) ?_
            refine lv_iconst (v := (-1 : Int32)) hx hb dX4_barOf_43 (by decide) ?_
            obtain ⟨q4, hc5, hg⟩ := ob_b hg
            refine ng_cv (ng_rV hx hb hml hown hts hK hH (As := [.int p1, .int v4_5, .int (-1 : Int32)]) (rest := []) 0 (cM_reaches l D cI cZ cA h hi p1 v4_5 (-1 : Int32) σl_5 q4 hc5 _) (by decide) rfl rfl mw_466 mw_467 mw_468 mw_5 mw_469 pdX4_reaches ⟨by rw [hR]; show _ ≤ _; simp only [nRm]; omega, by rw [hR]; show _ ≤ _; simp only [nRm]; omega⟩ hl.1 rfl (Nat.le_of_ble_eq_true rfl) dX4_barOf_44 ⟨Nat.zero_le _, Nat.zero_le _⟩) hH (fun H locs hH => ?_)
            refine lv_aload_n hx hb dX4_barOf_47 rfl (lv_at hl 0 rfl) ?_
            refine ng_get hx hb hts hown hK hH 0 (by decide) rfl rfl inlX4 22 (by decide) mw_79 rfl dX4_barOf_48 ?_
            refine lv_iload_n hx hb dX4_barOf_51 rfl (lv_at hl 2 rfl) ?_
            obtain ⟨hb6, hg⟩ := ob_i hg
            refine ng_zald hx hb hK hH 13 (by decide) (fun _ => rfl) hb6 dX4_barOf_52 ?_
            refine lv_if_ne (tgt := 78) hx hb dX4_barOf_53 (by decide) (fun c7 => ?_) (fun c7 => ?_)
            · replace hg := ob_f c7 hg
              refine lv_iinc (v := (v4_5 + 1)) (lv' := [(4, .int (v4_5 + 1)), (0, .ref (h 0)), (1, .int p1), (2, .int p2), (3, .int v3_5)]) hx hb dX4_barOf_78 hl (k := 4) rfl rfl (by decide) rfl (fun ls hl => ?_)
              refine lv_goto (tgt := 5) hx hb dX4_barOf_81 (by decide) ?_
              exact ih_5 v3_5 (v4_5 + 1) q4 H locs ls hg hH (lv_sub hl [1, 2, 3, 4, 0] rfl)
            · replace hg := ob_t c7 hg
              refine lv_iload_n hx hb dX4_barOf_56 rfl (lv_at hl 3 rfl) ?_
              refine lv_iconst (v := (-1 : Int32)) hx hb dX4_barOf_57 (by decide) ?_
              refine lv_icmp_eq (tgt := 75) hx hb dX4_barOf_58 (by decide) (fun c8 => ?_) (fun c8 => ?_)
              · replace hg := ob_t c8 hg
                refine lv_iload hx hb dX4_barOf_75 (lv_at hl 4 rfl) ?_
                refine lv_istore_n (lv' := [(3, .int v4_5), (0, .ref (h 0)), (1, .int p1), (2, .int p2), (4, .int v4_5)]) hx hb dX4_barOf_77 rfl hl (by decide) rfl (fun ls hl => ?_)
                refine lv_iinc (v := (v4_5 + 1)) (lv' := [(4, .int (v4_5 + 1)), (3, .int v4_5), (0, .ref (h 0)), (1, .int p1), (2, .int p2)]) hx hb dX4_barOf_78 hl (k := 4) rfl rfl (by decide) rfl (fun ls hl => ?_)
                refine lv_goto (tgt := 5) hx hb dX4_barOf_81 (by decide) ?_
                exact ih_5 v4_5 (v4_5 + 1) q4 H locs ls hg hH (lv_sub hl [2, 3, 4, 1, 0] rfl)
              · replace hg := ob_f c8 hg
                refine lv_aload_n hx hb dX4_barOf_61 rfl (lv_at hl 0 rfl) ?_
                refine lv_iload hx hb dX4_barOf_62 (lv_at hl 4 rfl) ?_
                obtain ⟨q9, hc10, hg⟩ := ob_b hg
                refine ng_ci (ng_rV hx hb hml hown hts hK hH (As := [.int v4_5]) (rest := []) 0 (cM_heapPrice l D cI cZ cA h hi v4_5 q4 q9 hc10 _) (by decide) rfl rfl mw_470 mw_471 mw_472 mw_5 mw_473 pdX4_heapPrice ⟨by rw [hR]; show _ ≤ _; simp only [nRm]; omega, by rw [hR]; show _ ≤ _; simp only [nRm]; omega⟩ hl.1 rfl (Nat.le_of_ble_eq_true rfl) dX4_barOf_64 ⟨Nat.zero_le _, Nat.zero_le _⟩) hH (fun H locs hH => ?_)
                refine lv_aload_n hx hb dX4_barOf_67 rfl (lv_at hl 0 rfl) ?_
                refine lv_iload_n hx hb dX4_barOf_68 rfl (lv_at hl 3 rfl) ?_
                obtain ⟨q11, hc12, hg⟩ := ob_b hg
                refine ng_ci (ng_rV hx hb hml hown hts hK hH (As := [.int v3_5]) (rest := [.int q9]) 0 (cM_heapPrice l D cI cZ cA h hi v3_5 q4 q11 hc12 _) (by decide) rfl rfl mw_470 mw_471 mw_472 mw_5 mw_473 pdX4_heapPrice ⟨by rw [hR]; show _ ≤ _; simp only [nRm]; omega, by rw [hR]; show _ ≤ _; simp only [nRm]; omega⟩ hl.1 rfl (Nat.le_of_ble_eq_true rfl) dX4_barOf_69 ⟨Nat.zero_le _, Nat.zero_le _⟩) hH (fun H locs hH => ?_)
                refine lv_icmp_ge (tgt := 78) hx hb dX4_barOf_72 (by decide) (fun c13 => ?_) (fun c13 => ?_)
                · replace hg := ob_t c13 hg
                  refine lv_iinc (v := (v4_5 + 1)) (lv' := [(4, .int (v4_5 + 1)), (0, .ref (h 0)), (1, .int p1), (2, .int p2), (3, .int v3_5)]) hx hb dX4_barOf_78 hl (k := 4) rfl rfl (by decide) rfl (fun ls hl => ?_)
                  refine lv_goto (tgt := 5) hx hb dX4_barOf_81 (by decide) ?_
                  exact ih_5 v3_5 (v4_5 + 1) q4 H locs ls hg hH (lv_sub hl [1, 2, 3, 4, 0] rfl)
                · replace hg := ob_f c13 hg
                  refine lv_iload hx hb dX4_barOf_75 (lv_at hl 4 rfl) ?_
                  refine lv_istore_n (lv' := [(3, .int v4_5), (0, .ref (h 0)), (1, .int p1), (2, .int p2), (4, .int v4_5)]) hx hb dX4_barOf_77 rfl hl (by decide) rfl (fun ls hl => ?_)
                  refine lv_iinc (v := (v4_5 + 1)) (lv' := [(4, .int (v4_5 + 1)), (3, .int v4_5), (0, .ref (h 0)), (1, .int p1), (2, .int p2)]) hx hb dX4_barOf_78 hl (k := 4) rfl rfl (by decide) rfl (fun ls hl => ?_)
                  refine lv_goto (tgt := 5) hx hb dX4_barOf_81 (by decide) ?_
                  exact ih_5 v4_5 (v4_5 + 1) q4 H locs ls hg hH (lv_sub hl [2, 3, 4, 1, 0] rfl)
          · replace hg := ob_t c3 hg
            refine lv_goto (tgt := 78) hx hb dX4_barOf_36 (by decide) ?_
            refine lv_iinc (v := (v4_5 + 1)) (lv' := [(4, .int (v4_5 + 1)), (0, .ref (h 0)), (1, .int p1), (2, .int p2), (3, .int v3_5)]) hx hb dX4_barOf_78 hl (k := 4) rfl rfl (by decide) rfl (fun ls hl => ?_)
            refine lv_goto (tgt := 5) hx hb dX4_barOf_81 (by decide) ?_
            exact ih_5 v3_5 (v4_5 + 1) σl_5 H locs ls hg hH (lv_sub hl [1, 2, 3, 4, 0] rfl)
  refine LP_5 _ ?_ _ _ _ _ _ _ _ hg hH (lv_sub hl [2, 3, 4, 1, 0] rfl)
  intro w3_5 σe_5 H locs ls hg hH hl
  refine lv_iload_n hx hb dX4_barOf_84 rfl (lv_at hl 0 rfl) ?_
  subst hQ
  exact ng_iret hx hb hr hlk (congrArg Prod.fst (Option.some.inj hg)) (congrArg Prod.snd (Option.some.inj hg)) hH dX4_barOf_85
set_option maxHeartbeats 8000000 in
set_option maxRecDepth 100000 in
theorem cM_bar (l : Launch) (D : va_G) (cI cZ cA : ClassId) (h : Nat → Nat) (hi : nInj 14 h) (p1 p2 : Int32) (σ : nS) (q : Int32 × nS) (hg : gM_bar p1 p2 σ = some q) : nMi l yX4_bar cX4_bar 3 (some .int) 4 D cI cZ cA 14 (cfM cI cZ h) h [.ref (h 0), .int p1, .int p2] σ q.1 q.2 := by
  unfold gM_bar at hg
  refine ng_body_i (by decide) hi (Nat.le_of_ble_eq_true rfl) ?_
  intro p e R s m args below meth c sz Q ls hx hb hml hr hlk hts hown hK hR hQ hl hH
  have hown : s.vm.findClass RX4 = some m.cls := hown
  have hl : lv_has ls 3 [(0, .ref (h 0)), (1, .int p1), (2, .int p2)] := hl
  refine lv_aload_n hx hb dX4_bar_0 rfl (lv_at hl 0 rfl) ?_
  refine lv_iload_n hx hb dX4_bar_1 rfl (lv_at hl 1 rfl) ?_
  refine lv_iload_n hx hb dX4_bar_2 rfl (lv_at hl 2 rfl) ?_
  obtain ⟨q1, hc2, hg⟩ := ob_b hg
  refine ng_ci (ng_rV hx hb hml hown hts hK hH (As := [.int p1, .int p2]) (rest := []) 0 (cM_canTwo l D cI cZ cA h hi p1 p2 σ q1 hc2 _) (by decide) rfl rfl mw_248 mw_249 mw_250 mw_5 mw_251 pdX4_canTwo ⟨by rw [hR]; show _ ≤ _; simp only [nRm]; omega, by rw [hR]; show _ ≤ _; simp only [nRm]; omega⟩ hl.1 rfl (Nat.le_of_ble_eq_true rfl) dX4_bar_3 ⟨Nat.zero_le _, Nat.zero_le _⟩) hH (fun H locs hH => ?_)
  refine lv_if_eq (tgt := 19) hx hb dX4_bar_6 (by decide) (fun c3 => ?_) (fun c3 => ?_)
  · replace hg := ob_t c3 hg
    refine lv_iconst (v := (-1 : Int32)) hx hb dX4_bar_19 (by decide) ?_
    subst hQ
    exact ng_iret hx hb hr hlk (congrArg Prod.fst (Option.some.inj hg)) (congrArg Prod.snd (Option.some.inj hg)) hH dX4_bar_20
  · replace hg := ob_f c3 hg
    refine lv_aload_n hx hb dX4_bar_9 rfl (lv_at hl 0 rfl) ?_
    refine lv_iload_n hx hb dX4_bar_10 rfl (lv_at hl 1 rfl) ?_
    refine lv_iload_n hx hb dX4_bar_11 rfl (lv_at hl 2 rfl) ?_
    obtain ⟨q4, hc5, hg⟩ := ob_b hg
    refine ng_ci (ng_rV hx hb hml hown hts hK hH (As := [.int p1, .int p2]) (rest := []) 0 (cM_barOf l D cI cZ cA h hi p1 p2 q1.2 q4 hc5 _) (by decide) rfl rfl mw_462 mw_463 mw_464 mw_5 mw_465 pdX4_barOf ⟨by rw [hR]; show _ ≤ _; simp only [nRm]; omega, by rw [hR]; show _ ≤ _; simp only [nRm]; omega⟩ hl.1 rfl (Nat.le_of_ble_eq_true rfl) dX4_bar_12 ⟨Nat.zero_le _, Nat.zero_le _⟩) hH (fun H locs hH => ?_)
    refine lv_iconst (v := (-1 : Int32)) hx hb dX4_bar_15 (by decide) ?_
    refine lv_icmp_ne (tgt := 21) hx hb dX4_bar_16 (by decide) (fun c6 => ?_) (fun c6 => ?_)
    · replace hg := ob_f c6 hg
      refine lv_aload_n hx hb dX4_bar_21 rfl (lv_at hl 0 rfl) ?_
      refine lv_aload_n hx hb dX4_bar_22 rfl (lv_at hl 0 rfl) ?_
      refine lv_iload_n hx hb dX4_bar_23 rfl (lv_at hl 1 rfl) ?_
      refine lv_iload_n hx hb dX4_bar_24 rfl (lv_at hl 2 rfl) ?_
      obtain ⟨q7, hc8, hg⟩ := ob_b hg
      refine ng_ci (ng_rV hx hb hml hown hts hK hH (As := [.int p1, .int p2]) (rest := [.ref (h 0)]) 0 (cM_barOf l D cI cZ cA h hi p1 p2 q4.2 q7 hc8 _) (by decide) rfl rfl mw_462 mw_463 mw_464 mw_5 mw_465 pdX4_barOf ⟨by rw [hR]; show _ ≤ _; simp only [nRm]; omega, by rw [hR]; show _ ≤ _; simp only [nRm]; omega⟩ hl.1 rfl (Nat.le_of_ble_eq_true rfl) dX4_bar_25 ⟨Nat.zero_le _, Nat.zero_le _⟩) hH (fun H locs hH => ?_)
      obtain ⟨q9, hc10, hg⟩ := ob_b hg
      refine ng_ci (ng_rV hx hb hml hown hts hK hH (As := [.int q7.1]) (rest := []) 0 (cM_heapPrice l D cI cZ cA h hi q7.1 q7.2 q9 hc10 _) (by decide) rfl rfl mw_470 mw_471 mw_472 mw_5 mw_473 pdX4_heapPrice ⟨by rw [hR]; show _ ≤ _; simp only [nRm]; omega, by rw [hR]; show _ ≤ _; simp only [nRm]; omega⟩ hl.1 rfl (Nat.le_of_ble_eq_true rfl) dX4_bar_28 ⟨Nat.zero_le _, Nat.zero_le _⟩) hH (fun H locs hH => ?_)
      subst hQ
      exact ng_iret hx hb hr hlk (congrArg Prod.fst (Option.some.inj hg)) (congrArg Prod.snd (Option.some.inj hg)) hH dX4_bar_31
    · replace hg := ob_t c6 hg
      refine lv_iconst (v := (-1 : Int32)) hx hb dX4_bar_19 (by decide) ?_
      subst hQ
      exact ng_iret hx hb hr hlk (congrArg Prod.fst (Option.some.inj hg)) (congrArg Prod.snd (Option.some.inj hg)) hH dX4_bar_20
set_option maxHeartbeats 8000000 in
set_option maxRecDepth 100000 in
theorem cM_bars (l : Launch) (D : va_G) (cI cZ cA : ClassId) (h : Nat → Nat) (hi : nInj 14 h) (p1 p2 : Int32) (σ : nS) (q : Int32 × nS) (hg : gM_bars p1 p2 σ = some q) : nMi l yX4_bars cX4_bars 3 (some .int) 4 D cI cZ cA 14 (cfM cI cZ h) h [.ref (h 0), .int p1, .int p2] σ q.1 q.2 := by
  unfold gM_bars at hg
  refine ng_body_i (by decide) hi (Nat.le_of_ble_eq_true rfl) ?_
  intro p e R s m args below meth c sz Q ls hx hb hml hr hlk hts hown hK hR hQ hl hH
  have hown : s.vm.findClass RX4 = some m.cls := hown
  have hl : lv_has ls 3 [(0, .ref (h 0)), (1, .int p1), (2, .int p2)] := hl
  refine lv_aload_n hx hb dX4_bars_0 rfl (lv_at hl 0 rfl) ?_
  refine lv_iload_n hx hb dX4_bars_1 rfl (lv_at hl 1 rfl) ?_
  refine lv_iload_n hx hb dX4_bars_2 rfl (lv_at hl 2 rfl) ?_
  obtain ⟨q1, hc2, hg⟩ := ob_b hg
  refine ng_ci (ng_rV hx hb hml hown hts hK hH (As := [.int p1, .int p2]) (rest := []) 0 (cM_canTwo l D cI cZ cA h hi p1 p2 σ q1 hc2 _) (by decide) rfl rfl mw_248 mw_249 mw_250 mw_5 mw_251 pdX4_canTwo ⟨by rw [hR]; show _ ≤ _; simp only [nRm]; omega, by rw [hR]; show _ ≤ _; simp only [nRm]; omega⟩ hl.1 rfl (Nat.le_of_ble_eq_true rfl) dX4_bars_3 ⟨Nat.zero_le _, Nat.zero_le _⟩) hH (fun H locs hH => ?_)
  refine lv_if_eq (tgt := 18) hx hb dX4_bars_6 (by decide) (fun c3 => ?_) (fun c3 => ?_)
  · replace hg := ob_t c3 hg
    refine lv_iconst (v := (-1 : Int32)) hx hb dX4_bars_18 (by decide) ?_
    subst hQ
    exact ng_iret hx hb hr hlk (congrArg Prod.fst (Option.some.inj hg)) (congrArg Prod.snd (Option.some.inj hg)) hH dX4_bars_19
  · replace hg := ob_f c3 hg
    refine lv_aload_n hx hb dX4_bars_9 rfl (lv_at hl 0 rfl) ?_
    refine lv_iload_n hx hb dX4_bars_10 rfl (lv_at hl 1 rfl) ?_
    refine lv_iload_n hx hb dX4_bars_11 rfl (lv_at hl 2 rfl) ?_
    obtain ⟨q4, hc5, hg⟩ := ob_b hg
    refine ng_ci (ng_rV hx hb hml hown hts hK hH (As := [.int p1, .int p2]) (rest := []) 0 (cM_barOf l D cI cZ cA h hi p1 p2 q1.2 q4 hc5 _) (by decide) rfl rfl mw_462 mw_463 mw_464 mw_5 mw_465 pdX4_barOf ⟨by rw [hR]; show _ ≤ _; simp only [nRm]; omega, by rw [hR]; show _ ≤ _; simp only [nRm]; omega⟩ hl.1 rfl (Nat.le_of_ble_eq_true rfl) dX4_bars_12 ⟨Nat.zero_le _, Nat.zero_le _⟩) hH (fun H locs hH => ?_)
    refine lv_goto (tgt := 19) hx hb dX4_bars_15 (by decide) ?_
    subst hQ
    exact ng_iret hx hb hr hlk (congrArg Prod.fst (Option.some.inj hg)) (congrArg Prod.snd (Option.some.inj hg)) hH dX4_bars_19
set_option maxHeartbeats 8000000 in
set_option maxRecDepth 100000 in
theorem cM_bridge (l : Launch) (D : va_G) (cI cZ cA : ClassId) (h : Nat → Nat) (hi : nInj 14 h) (p1 : Int32) (σ : nS) (q : Int32 × nS) (hg : gM_bridge p1 σ = some q) : nMi l yX4_bridge cX4_bridge 2 (some .boolean) 3 D cI cZ cA 14 (cfM cI cZ h) h [.ref (h 0), .int p1] σ q.1 q.2 := by
  unfold gM_bridge at hg
  refine ng_body_i (by decide) hi (Nat.le_of_ble_eq_true rfl) ?_
  intro p e R s m args below meth c sz Q ls hx hb hml hr hlk hts hown hK hR hQ hl hH
  have hown : s.vm.findClass RX4 = some m.cls := hown
  have hl : lv_has ls 2 [(0, .ref (h 0)), (1, .int p1)] := hl
  refine lv_aload_n hx hb dX4_bridge_0 rfl (lv_at hl 0 rfl) ?_
  refine lv_iload_n hx hb dX4_bridge_1 rfl (lv_at hl 1 rfl) ?_
  obtain ⟨q1, hc2, hg⟩ := ob_b hg
  refine ng_ci (ng_rV hx hb hml hown hts hK hH (As := [.int p1]) (rest := []) 0 (cM_isLine l D cI cZ cA h hi p1 σ q1 hc2 _) (by decide) rfl rfl mw_137 mw_138 mw_139 mw_5 mw_140 pdX4_isLine ⟨by rw [hR]; show _ ≤ _; simp only [nRm]; omega, by rw [hR]; show _ ≤ _; simp only [nRm]; omega⟩ hl.1 rfl (Nat.le_of_ble_eq_true rfl) dX4_bridge_2 ⟨Nat.zero_le _, Nat.zero_le _⟩) hH (fun H locs hH => ?_)
  refine lv_if_ne (tgt := 10) hx hb dX4_bridge_5 (by decide) (fun c3 => ?_) (fun c3 => ?_)
  · replace hg := ob_f c3 hg
    refine lv_aload_n hx hb dX4_bridge_10 rfl (lv_at hl 0 rfl) ?_
    refine lv_aload_n hx hb dX4_bridge_11 rfl (lv_at hl 0 rfl) ?_
    refine ng_get hx hb hts hown hK hH 0 (by decide) rfl rfl inlX4 3 (by decide) mw_69 rfl dX4_bridge_12 ?_
    refine lv_iload_n hx hb dX4_bridge_15 rfl (lv_at hl 1 rfl) ?_
    obtain ⟨hb4, hg⟩ := ob_i hg
    refine ng_iald hx hb hK hH 3 (by decide) (fun _ => rfl) hb4 dX4_bridge_16 ?_
    refine lv_iconst (v := (0 : Int32)) hx hb dX4_bridge_17 (by decide) ?_
    refine lv_iload_n hx hb dX4_bridge_18 rfl (lv_at hl 1 rfl) ?_
    obtain ⟨q5, hc6, hg⟩ := ob_b hg
    refine ng_cv (ng_rV hx hb hml hown hts hK hH (As := [.int (σ 3 p1.toNatClampNeg), .int (0 : Int32), .int p1]) (rest := []) 0 (cM_reaches l D cI cZ cA h hi (σ 3 p1.toNatClampNeg) (0 : Int32) p1 σ q5 hc6 _) (by decide) rfl rfl mw_466 mw_467 mw_468 mw_5 mw_469 pdX4_reaches ⟨by rw [hR]; show _ ≤ _; simp only [nRm]; omega, by rw [hR]; show _ ≤ _; simp only [nRm]; omega⟩ hl.1 rfl (Nat.le_of_ble_eq_true rfl) dX4_bridge_19 ⟨Nat.zero_le _, Nat.zero_le _⟩) hH (fun H locs hH => ?_)
    refine lv_aload_n hx hb dX4_bridge_22 rfl (lv_at hl 0 rfl) ?_
    refine ng_get hx hb hts hown hK hH 0 (by decide) rfl rfl inlX4 22 (by decide) mw_79 rfl dX4_bridge_23 ?_
    refine lv_aload_n hx hb dX4_bridge_26 rfl (lv_at hl 0 rfl) ?_
    refine ng_get hx hb hts hown hK hH 0 (by decide) rfl rfl inlX4 4 (by decide) mw_70 rfl dX4_bridge_27 ?_
    refine lv_iload_n hx hb dX4_bridge_30 rfl (lv_at hl 1 rfl) ?_
    obtain ⟨hb7, hg⟩ := ob_i hg
    refine ng_iald hx hb hK hH 4 (by decide) (fun _ => rfl) hb7 dX4_bridge_31 ?_
    obtain ⟨hb8, hg⟩ := ob_i hg
    refine ng_zald hx hb hK hH 13 (by decide) (fun _ => rfl) hb8 dX4_bridge_32 ?_
    refine lv_if_ne (tgt := 40) hx hb dX4_bridge_33 (by decide) (fun c9 => ?_) (fun c9 => ?_)
    · replace hg := ob_f c9 hg
      refine lv_iconst (v := (0 : Int32)) hx hb dX4_bridge_40 (by decide) ?_
      subst hQ
      exact ng_zret hx hb hr hlk (by decide) (congrArg Prod.fst (Option.some.inj hg)) (congrArg Prod.snd (Option.some.inj hg)) hH dX4_bridge_41
    · replace hg := ob_t c9 hg
      refine lv_iconst (v := (1 : Int32)) hx hb dX4_bridge_36 (by decide) ?_
      refine lv_goto (tgt := 41) hx hb dX4_bridge_37 (by decide) ?_
      subst hQ
      exact ng_zret hx hb hr hlk (by decide) (congrArg Prod.fst (Option.some.inj hg)) (congrArg Prod.snd (Option.some.inj hg)) hH dX4_bridge_41
  · replace hg := ob_t c3 hg
    refine lv_iconst (v := (0 : Int32)) hx hb dX4_bridge_8 (by decide) ?_
    subst hQ
    exact ng_zret hx hb hr hlk (by decide) (congrArg Prod.fst (Option.some.inj hg)) (congrArg Prod.snd (Option.some.inj hg)) hH dX4_bridge_9
set_option maxHeartbeats 8000000 in
set_option maxRecDepth 100000 in
theorem cM_hinge (l : Launch) (D : va_G) (cI cZ cA : ClassId) (h : Nat → Nat) (hi : nInj 14 h) (p1 : Int32) (σ : nS) (q : Int32 × nS) (hg : gM_hinge p1 σ = some q) : nMi l yX4_hinge cX4_hinge 4 (some .boolean) 3 D cI cZ cA 14 (cfM cI cZ h) h [.ref (h 0), .int p1] σ q.1 q.2 := by
  unfold gM_hinge at hg
  refine ng_body_i (by decide) hi (Nat.le_of_ble_eq_true rfl) ?_
  intro p e R s m args below meth c sz Q ls hx hb hml hr hlk hts hown hK hR hQ hl hH
  have hown : s.vm.findClass RX4 = some m.cls := hown
  have hl : lv_has ls 4 [(0, .ref (h 0)), (1, .int p1)] := hl
  refine lv_aload_n hx hb dX4_hinge_0 rfl (lv_at hl 0 rfl) ?_
  refine lv_iload_n hx hb dX4_hinge_1 rfl (lv_at hl 1 rfl) ?_
  obtain ⟨q1, hc2, hg⟩ := ob_b hg
  refine ng_ci (ng_rV hx hb hml hown hts hK hH (As := [.int p1]) (rest := []) 0 (cM_isPost l D cI cZ cA h hi p1 σ q1 hc2 _) (by decide) rfl rfl mw_117 mw_118 mw_119 mw_5 mw_120 pdX4_isPost ⟨by rw [hR]; show _ ≤ _; simp only [nRm]; omega, by rw [hR]; show _ ≤ _; simp only [nRm]; omega⟩ hl.1 rfl (Nat.le_of_ble_eq_true rfl) dX4_hinge_2 ⟨Nat.zero_le _, Nat.zero_le _⟩) hH (fun H locs hH => ?_)
  refine lv_if_ne (tgt := 10) hx hb dX4_hinge_5 (by decide) (fun c3 => ?_) (fun c3 => ?_)
  · replace hg := ob_f c3 hg
    refine lv_iconst (v := (0 : Int32)) hx hb dX4_hinge_10 (by decide) ?_
    refine lv_istore_n (lv' := [(2, .int (0 : Int32)), (0, .ref (h 0)), (1, .int p1)]) hx hb dX4_hinge_11 rfl hl (by decide) rfl (fun ls hl => ?_)
    have LP_12 : ∀ (K_12 : nS → Option (Int32 × nS)) (kk_12 : ∀ (σe_12 : nS) (H : Heap) (locs : List Loc) (ls : Array Slot), K_12 σe_12 = some q → nH D 14 (cfM cI cZ h) h (nAd 14 h sz) s.heap σe_12 H locs → lv_has ls 4 [] → W p l e R s m args below meth c H locs 0 0 Q (F0 m 99 ls [])) (n : Nat) (v2_12 : Int32) (σl_12 : nS) (H : Heap) (locs : List Loc) (ls : Array Slot), gM_hinge_L12 p1 K_12 n v2_12 σl_12 = some q → nH D 14 (cfM cI cZ h) h (nAd 14 h sz) s.heap σl_12 H locs → lv_has ls 4 [(0, .ref (h 0)), (1, .int p1), (2, .int v2_12)] → W p l e R s m args below meth c H locs 0 0 Q (F0 m 12 ls []) := by
      intro K_12 kk_12 n
      induction n with
      | zero => intro v2_12 σl_12 H locs ls hg hH hl; rw [gM_hinge_L12] at hg; exact ob_n hg
      | succ n ih_12 =>
        intro v2_12 σl_12 H locs ls hg hH hl
        rw [gM_hinge_L12] at hg
        refine lv_iload_n hx hb dX4_hinge_12 rfl (lv_at hl 2 rfl) ?_
        refine lv_aload_n hx hb dX4_hinge_13 rfl (lv_at hl 0 rfl) ?_
        refine ng_get hx hb hts hown hK hH 0 (by decide) rfl rfl inlX4 2 (by decide) mw_92 rfl dX4_hinge_14 ?_
        refine lv_icmp_ge (tgt := 99) hx hb dX4_hinge_17 (by decide) (fun c4 => ?_) (fun c4 => ?_)
        · replace hg := ob_t c4 hg
          exact kk_12 σl_12 H locs ls hg hH (lv_sub hl [] rfl)
        · replace hg := ob_f c4 hg
          refine lv_iconst (v := (0 : Int32)) hx hb dX4_hinge_20 (by decide) ?_
          refine lv_istore_n (lv' := [(3, .int (0 : Int32)), (0, .ref (h 0)), (1, .int p1), (2, .int v2_12)]) hx hb dX4_hinge_21 rfl hl (by decide) rfl (fun ls hl => ?_)
          have LP_22 : ∀ (K_22 : nS → Option (Int32 × nS)) (kk_22 : ∀ (σe_22 : nS) (H : Heap) (locs : List Loc) (ls : Array Slot), K_22 σe_22 = some q → nH D 14 (cfM cI cZ h) h (nAd 14 h sz) s.heap σe_22 H locs → lv_has ls 4 [(0, .ref (h 0)), (1, .int p1), (2, .int v2_12)] → W p l e R s m args below meth c H locs 0 0 Q (F0 m 93 ls [])) (n : Nat) (v3_22 : Int32) (σl_22 : nS) (H : Heap) (locs : List Loc) (ls : Array Slot), gM_hinge_L22 p1 v2_12 K_22 n v3_22 σl_22 = some q → nH D 14 (cfM cI cZ h) h (nAd 14 h sz) s.heap σl_22 H locs → lv_has ls 4 [(0, .ref (h 0)), (1, .int p1), (2, .int v2_12), (3, .int v3_22)] → W p l e R s m args below meth c H locs 0 0 Q (F0 m 22 ls []) := by
            intro K_22 kk_22 n
            induction n with
            | zero => intro v3_22 σl_22 H locs ls hg hH hl; rw [gM_hinge_L22] at hg; exact ob_n hg
            | succ n ih_22 =>
              intro v3_22 σl_22 H locs ls hg hH hl
              rw [gM_hinge_L22] at hg
              refine lv_iload_n hx hb dX4_hinge_22 rfl (lv_at hl 3 rfl) ?_
              refine lv_aload_n hx hb dX4_hinge_23 rfl (lv_at hl 0 rfl) ?_
              refine ng_get hx hb hts hown hK hH 0 (by decide) rfl rfl inlX4 2 (by decide) mw_92 rfl dX4_hinge_24 ?_
              refine lv_icmp_ge (tgt := 93) hx hb dX4_hinge_27 (by decide) (fun c5 => ?_) (fun c5 => ?_)
              · replace hg := ob_t c5 hg
                exact kk_22 σl_22 H locs ls hg hH (lv_sub hl [0, 1, 2] rfl)
              · replace hg := ob_f c5 hg
                refine lv_iload_n hx hb dX4_hinge_30 rfl (lv_at hl 2 rfl) ?_
                refine lv_iload_n hx hb dX4_hinge_31 rfl (lv_at hl 1 rfl) ?_
                refine lv_icmp_eq (tgt := 87) hx hb dX4_hinge_32 (by decide) (fun c6 => ?_) (fun c6 => ?_)
                · replace hg := ob_t c6 hg
                  refine lv_iinc (v := (v3_22 + 1)) (lv' := [(3, .int (v3_22 + 1)), (0, .ref (h 0)), (1, .int p1), (2, .int v2_12)]) hx hb dX4_hinge_87 hl (k := 3) rfl rfl (by decide) rfl (fun ls hl => ?_)
                  refine lv_goto (tgt := 22) hx hb dX4_hinge_90 (by decide) ?_
                  exact ih_22 (v3_22 + 1) σl_22 H locs ls hg hH (lv_sub hl [1, 2, 3, 0] rfl)
                · replace hg := ob_f c6 hg
                  refine lv_iload_n hx hb dX4_hinge_35 rfl (lv_at hl 3 rfl) ?_
                  refine lv_iload_n hx hb dX4_hinge_36 rfl (lv_at hl 1 rfl) ?_
                  refine lv_icmp_eq (tgt := 87) hx hb dX4_hinge_37 (by decide) (fun c7 => ?_) (fun c7 => ?_)
                  · replace hg := ob_t c7 hg
                    refine lv_iinc (v := (v3_22 + 1)) (lv' := [(3, .int (v3_22 + 1)), (0, .ref (h 0)), (1, .int p1), (2, .int v2_12)]) hx hb dX4_hinge_87 hl (k := 3) rfl rfl (by decide) rfl (fun ls hl => ?_)
                    refine lv_goto (tgt := 22) hx hb dX4_hinge_90 (by decide) ?_
                    exact ih_22 (v3_22 + 1) σl_22 H locs ls hg hH (lv_sub hl [1, 2, 3, 0] rfl)
                  · replace hg := ob_f c7 hg
                    refine lv_iload_n hx hb dX4_hinge_40 rfl (lv_at hl 3 rfl) ?_
                    refine lv_iload_n hx hb dX4_hinge_41 rfl (lv_at hl 2 rfl) ?_
                    refine lv_icmp_ne (tgt := 48) hx hb dX4_hinge_42 (by decide) (fun c8 => ?_) (fun c8 => ?_)
                    · replace hg := ob_f c8 hg
                      refine lv_aload_n hx hb dX4_hinge_48 rfl (lv_at hl 0 rfl) ?_
                      refine lv_iload_n hx hb dX4_hinge_49 rfl (lv_at hl 2 rfl) ?_
                      refine lv_iconst (v := (0 : Int32)) hx hb dX4_hinge_50 (by decide) ?_
                      refine lv_iconst (v := (-1 : Int32)) hx hb dX4_hinge_51 (by decide) ?_
                      obtain ⟨q9, hc10, hg⟩ := ob_b hg
                      refine ng_cv (ng_rV hx hb hml hown hts hK hH (As := [.int v2_12, .int (0 : Int32), .int (-1 : Int32)]) (rest := []) 0 (cM_reaches l D cI cZ cA h hi v2_12 (0 : Int32) (-1 : Int32) σl_22 q9 hc10 _) (by decide) rfl rfl mw_466 mw_467 mw_468 mw_5 mw_469 pdX4_reaches ⟨by rw [hR]; show _ ≤ _; simp only [nRm]; omega, by rw [hR]; show _ ≤ _; simp only [nRm]; omega⟩ hl.1 rfl (Nat.le_of_ble_eq_true rfl) dX4_hinge_52 ⟨Nat.zero_le _, Nat.zero_le _⟩) hH (fun H locs hH => ?_)
                      refine lv_aload_n hx hb dX4_hinge_55 rfl (lv_at hl 0 rfl) ?_
                      refine ng_get hx hb hts hown hK hH 0 (by decide) rfl rfl inlX4 22 (by decide) mw_79 rfl dX4_hinge_56 ?_
                      refine lv_iload_n hx hb dX4_hinge_59 rfl (lv_at hl 3 rfl) ?_
                      obtain ⟨hb11, hg⟩ := ob_i hg
                      refine ng_zald hx hb hK hH 13 (by decide) (fun _ => rfl) hb11 dX4_hinge_60 ?_
                      refine lv_if_ne (tgt := 67) hx hb dX4_hinge_61 (by decide) (fun c12 => ?_) (fun c12 => ?_)
                      · replace hg := ob_f c12 hg
                        refine lv_aload_n hx hb dX4_hinge_67 rfl (lv_at hl 0 rfl) ?_
                        refine lv_iload_n hx hb dX4_hinge_68 rfl (lv_at hl 2 rfl) ?_
                        refine lv_iconst (v := (1 : Int32)) hx hb dX4_hinge_69 (by decide) ?_
                        refine lv_iload_n hx hb dX4_hinge_70 rfl (lv_at hl 1 rfl) ?_
                        refine lv_ishl hx hb dX4_hinge_71 ?_
                        refine lv_iconst (v := (-1 : Int32)) hx hb dX4_hinge_72 (by decide) ?_
                        obtain ⟨q13, hc14, hg⟩ := ob_b hg
                        refine ng_cv (ng_rV hx hb hml hown hts hK hH (As := [.int v2_12, .int ((1 : Int32) <<< (p1 &&& 31)), .int (-1 : Int32)]) (rest := []) 0 (cM_reaches l D cI cZ cA h hi v2_12 ((1 : Int32) <<< (p1 &&& 31)) (-1 : Int32) q9 q13 hc14 _) (by decide) rfl rfl mw_466 mw_467 mw_468 mw_5 mw_469 pdX4_reaches ⟨by rw [hR]; show _ ≤ _; simp only [nRm]; omega, by rw [hR]; show _ ≤ _; simp only [nRm]; omega⟩ hl.1 rfl (Nat.le_of_ble_eq_true rfl) dX4_hinge_73 ⟨Nat.zero_le _, Nat.zero_le _⟩) hH (fun H locs hH => ?_)
                        refine lv_aload_n hx hb dX4_hinge_76 rfl (lv_at hl 0 rfl) ?_
                        refine ng_get hx hb hts hown hK hH 0 (by decide) rfl rfl inlX4 22 (by decide) mw_79 rfl dX4_hinge_77 ?_
                        refine lv_iload_n hx hb dX4_hinge_80 rfl (lv_at hl 3 rfl) ?_
                        obtain ⟨hb15, hg⟩ := ob_i hg
                        refine ng_zald hx hb hK hH 13 (by decide) (fun _ => rfl) hb15 dX4_hinge_81 ?_
                        refine lv_if_ne (tgt := 87) hx hb dX4_hinge_82 (by decide) (fun c16 => ?_) (fun c16 => ?_)
                        · replace hg := ob_f c16 hg
                          refine lv_iinc (v := (v3_22 + 1)) (lv' := [(3, .int (v3_22 + 1)), (0, .ref (h 0)), (1, .int p1), (2, .int v2_12)]) hx hb dX4_hinge_87 hl (k := 3) rfl rfl (by decide) rfl (fun ls hl => ?_)
                          refine lv_goto (tgt := 22) hx hb dX4_hinge_90 (by decide) ?_
                          exact ih_22 (v3_22 + 1) q13 H locs ls hg hH (lv_sub hl [1, 2, 3, 0] rfl)
                        · replace hg := ob_t c16 hg
                          refine lv_iconst (v := (1 : Int32)) hx hb dX4_hinge_85 (by decide) ?_
                          subst hQ
                          exact ng_zret hx hb hr hlk (by decide) (congrArg Prod.fst (Option.some.inj hg)) (congrArg Prod.snd (Option.some.inj hg)) hH dX4_hinge_86
                      · replace hg := ob_t c12 hg
                        refine lv_goto (tgt := 87) hx hb dX4_hinge_64 (by decide) ?_
                        refine lv_iinc (v := (v3_22 + 1)) (lv' := [(3, .int (v3_22 + 1)), (0, .ref (h 0)), (1, .int p1), (2, .int v2_12)]) hx hb dX4_hinge_87 hl (k := 3) rfl rfl (by decide) rfl (fun ls hl => ?_)
                        refine lv_goto (tgt := 22) hx hb dX4_hinge_90 (by decide) ?_
                        exact ih_22 (v3_22 + 1) q9 H locs ls hg hH (lv_sub hl [1, 2, 3, 0] rfl)
                    · replace hg := ob_t c8 hg
                      refine lv_goto (tgt := 87) hx hb dX4_hinge_45 (by decide) ?_
                      refine lv_iinc (v := (v3_22 + 1)) (lv' := [(3, .int (v3_22 + 1)), (0, .ref (h 0)), (1, .int p1), (2, .int v2_12)]) hx hb dX4_hinge_87 hl (k := 3) rfl rfl (by decide) rfl (fun ls hl => ?_)
                      refine lv_goto (tgt := 22) hx hb dX4_hinge_90 (by decide) ?_
                      exact ih_22 (v3_22 + 1) σl_22 H locs ls hg hH (lv_sub hl [1, 2, 3, 0] rfl)
          refine LP_22 _ ?_ _ _ _ _ _ _ hg hH (lv_sub hl [1, 2, 3, 0] rfl)
          intro σe_22 H locs ls hg hH hl
          refine lv_iinc (v := (v2_12 + 1)) (lv' := [(2, .int (v2_12 + 1)), (0, .ref (h 0)), (1, .int p1)]) hx hb dX4_hinge_93 hl (k := 2) rfl rfl (by decide) rfl (fun ls hl => ?_)
          refine lv_goto (tgt := 12) hx hb dX4_hinge_96 (by decide) ?_
          exact ih_12 (v2_12 + 1) σe_22 H locs ls hg hH (lv_sub hl [1, 2, 0] rfl)
    refine LP_12 _ ?_ _ _ _ _ _ _ hg hH (lv_sub hl [1, 2, 0] rfl)
    intro σe_12 H locs ls hg hH hl
    refine lv_iconst (v := (0 : Int32)) hx hb dX4_hinge_99 (by decide) ?_
    subst hQ
    exact ng_zret hx hb hr hlk (by decide) (congrArg Prod.fst (Option.some.inj hg)) (congrArg Prod.snd (Option.some.inj hg)) hH dX4_hinge_100
  · replace hg := ob_t c3 hg
    refine lv_iconst (v := (0 : Int32)) hx hb dX4_hinge_8 (by decide) ?_
    subst hQ
    exact ng_zret hx hb hr hlk (by decide) (congrArg Prod.fst (Option.some.inj hg)) (congrArg Prod.snd (Option.some.inj hg)) hH dX4_hinge_9
set_option maxHeartbeats 8000000 in
set_option maxRecDepth 100000 in
theorem cM_count (l : Launch) (D : va_G) (cI cZ cA : ClassId) (h : Nat → Nat) (hi : nInj 14 h) (p1 : Int32) (σ : nS) (q : Int32 × nS) (hg : gM_count p1 σ = some q) : nMi l yX4_count cX4_count 6 (some .int) 2 D cI cZ cA 14 (cfM cI cZ h) h [.ref (h 0), .int p1] σ q.1 q.2 := by
  unfold gM_count at hg
  refine ng_body_i (by decide) hi (Nat.le_of_ble_eq_true rfl) ?_
  intro p e R s m args below meth c sz Q ls hx hb hml hr hlk hts hown hK hR hQ hl hH
  have hown : s.vm.findClass RX4 = some m.cls := hown
  have hl : lv_has ls 6 [(0, .ref (h 0)), (1, .int p1)] := hl
  refine lv_iconst (v := (0 : Int32)) hx hb dX4_count_0 (by decide) ?_
  refine lv_istore_n (lv' := [(2, .int (0 : Int32)), (0, .ref (h 0)), (1, .int p1)]) hx hb dX4_count_1 rfl hl (by decide) rfl (fun ls hl => ?_)
  refine lv_iload_n hx hb dX4_count_2 rfl (lv_at hl 2 rfl) ?_
  by_cases c1 : p1 = 0
  · replace hg := ob_t c1 hg
    refine lv_tableIn (tgt := 36) hx hb dX4_count_3 (by rw [c1]; decide) (by rw [c1]; decide) (by rw [c1]; rfl) (by decide) ?_
    refine lv_aload_n hx hb dX4_count_36 rfl (lv_at hl 1 rfl) ?_
    refine ng_get hx hb hts hown hK hH 0 (by decide) rfl rfl inlX4 2 (by decide) mw_92 rfl dX4_count_37 ?_
    subst hQ
    exact ng_iret hx hb hr hlk (congrArg Prod.fst (Option.some.inj hg)) (congrArg Prod.snd (Option.some.inj hg)) hH dX4_count_40
  · replace hg := ob_f c1 hg
    by_cases c2 : p1 = 1
    · replace hg := ob_t c2 hg
      refine lv_tableIn (tgt := 41) hx hb dX4_count_3 (by rw [c2]; decide) (by rw [c2]; decide) (by rw [c2]; rfl) (by decide) ?_
      refine lv_iconst (v := (0 : Int32)) hx hb dX4_count_41 (by decide) ?_
      refine lv_istore_n (lv' := [(3, .int (0 : Int32)), (2, .int (0 : Int32)), (0, .ref (h 0)), (1, .int p1)]) hx hb dX4_count_42 rfl hl (by decide) rfl (fun ls hl => ?_)
      have LP_43 : ∀ (K_43 : Int32 → Option (Int32 × nS)) (kk_43 : ∀ (w2_43 : Int32) (H : Heap) (locs : List Loc) (ls : Array Slot), K_43 w2_43 = some q → nH D 14 (cfM cI cZ h) h (nAd 14 h sz) s.heap σ H locs → lv_has ls 6 [(2, .int w2_43)] → W p l e R s m args below meth c H locs 0 0 Q (F0 m 74 ls [])) (n : Nat) (v2_43 v3_43 : Int32) (H : Heap) (locs : List Loc) (ls : Array Slot), gM_count_L43 σ K_43 n v2_43 v3_43 = some q → nH D 14 (cfM cI cZ h) h (nAd 14 h sz) s.heap σ H locs → lv_has ls 6 [(0, .ref (h 0)), (2, .int v2_43), (3, .int v3_43)] → W p l e R s m args below meth c H locs 0 0 Q (F0 m 43 ls []) := by
        intro K_43 kk_43 n
        induction n with
        | zero => intro v2_43 v3_43 H locs ls hg hH hl; rw [gM_count_L43] at hg; exact ob_n hg
        | succ n ih_43 =>
          intro v2_43 v3_43 H locs ls hg hH hl
          rw [gM_count_L43] at hg
          refine lv_iload_n hx hb dX4_count_43 rfl (lv_at hl 2 rfl) ?_
          refine lv_aload_n hx hb dX4_count_44 rfl (lv_at hl 0 rfl) ?_
          refine ng_get hx hb hts hown hK hH 0 (by decide) rfl rfl inlX4 8 (by decide) mw_116 rfl dX4_count_45 ?_
          refine lv_icmp_ge (tgt := 74) hx hb dX4_count_48 (by decide) (fun c3 => ?_) (fun c3 => ?_)
          · replace hg := ob_t c3 hg
            exact kk_43 v2_43 H locs ls hg hH (lv_sub hl [1] rfl)
          · replace hg := ob_f c3 hg
            refine lv_iload_n hx hb dX4_count_51 rfl (lv_at hl 1 rfl) ?_
            refine lv_aload_n hx hb dX4_count_52 rfl (lv_at hl 0 rfl) ?_
            refine ng_get hx hb hts hown hK hH 0 (by decide) rfl rfl inlX4 7 (by decide) mw_73 rfl dX4_count_53 ?_
            refine lv_iload_n hx hb dX4_count_56 rfl (lv_at hl 2 rfl) ?_
            obtain ⟨hb4, hg⟩ := ob_i hg
            refine ng_zald hx hb hK hH 7 (by decide) (fun _ => rfl) hb4 dX4_count_57 ?_
            refine lv_if_eq (tgt := 65) hx hb dX4_count_58 (by decide) (fun c5 => ?_) (fun c5 => ?_)
            · replace hg := ob_t c5 hg
              refine lv_iconst (v := (1 : Int32)) hx hb dX4_count_65 (by decide) ?_
              refine lv_iadd hx hb dX4_count_66 ?_
              refine lv_istore_n (lv' := [(2, .int (v2_43 + (1 : Int32))), (0, .ref (h 0)), (3, .int v3_43)]) hx hb dX4_count_67 rfl hl (by decide) rfl (fun ls hl => ?_)
              refine lv_iinc (v := (v3_43 + 1)) (lv' := [(3, .int (v3_43 + 1)), (2, .int (v2_43 + (1 : Int32))), (0, .ref (h 0))]) hx hb dX4_count_68 hl (k := 2) rfl rfl (by decide) rfl (fun ls hl => ?_)
              refine lv_goto (tgt := 43) hx hb dX4_count_71 (by decide) ?_
              exact ih_43 (v2_43 + (1 : Int32)) (v3_43 + 1) H locs ls hg hH (lv_sub hl [2, 1, 0] rfl)
            · replace hg := ob_f c5 hg
              refine lv_iconst (v := (0 : Int32)) hx hb dX4_count_61 (by decide) ?_
              refine lv_goto (tgt := 66) hx hb dX4_count_62 (by decide) ?_
              refine lv_iadd hx hb dX4_count_66 ?_
              refine lv_istore_n (lv' := [(2, .int (v2_43 + (0 : Int32))), (0, .ref (h 0)), (3, .int v3_43)]) hx hb dX4_count_67 rfl hl (by decide) rfl (fun ls hl => ?_)
              refine lv_iinc (v := (v3_43 + 1)) (lv' := [(3, .int (v3_43 + 1)), (2, .int (v2_43 + (0 : Int32))), (0, .ref (h 0))]) hx hb dX4_count_68 hl (k := 2) rfl rfl (by decide) rfl (fun ls hl => ?_)
              refine lv_goto (tgt := 43) hx hb dX4_count_71 (by decide) ?_
              exact ih_43 (v2_43 + (0 : Int32)) (v3_43 + 1) H locs ls hg hH (lv_sub hl [2, 1, 0] rfl)
      refine LP_43 _ ?_ _ _ _ _ _ _ hg hH (lv_sub hl [2, 1, 0] rfl)
      intro w2_43 H locs ls hg hH hl
      refine lv_iload_n hx hb dX4_count_74 rfl (lv_at hl 0 rfl) ?_
      subst hQ
      exact ng_iret hx hb hr hlk (congrArg Prod.fst (Option.some.inj hg)) (congrArg Prod.snd (Option.some.inj hg)) hH dX4_count_75
    · replace hg := ob_f c2 hg
      by_cases c6 : p1 = 2
      · replace hg := ob_t c6 hg
        refine lv_tableIn (tgt := 76) hx hb dX4_count_3 (by rw [c6]; decide) (by rw [c6]; decide) (by rw [c6]; rfl) (by decide) ?_
        refine lv_iconst (v := (0 : Int32)) hx hb dX4_count_76 (by decide) ?_
        refine lv_istore_n (lv' := [(3, .int (0 : Int32)), (2, .int (0 : Int32)), (0, .ref (h 0)), (1, .int p1)]) hx hb dX4_count_77 rfl hl (by decide) rfl (fun ls hl => ?_)
        have LP_78 : ∀ (K_78 : Int32 → Option (Int32 × nS)) (kk_78 : ∀ (w2_78 : Int32) (H : Heap) (locs : List Loc) (ls : Array Slot), K_78 w2_78 = some q → nH D 14 (cfM cI cZ h) h (nAd 14 h sz) s.heap σ H locs → lv_has ls 6 [(2, .int w2_78)] → W p l e R s m args below meth c H locs 0 0 Q (F0 m 109 ls [])) (n : Nat) (v2_78 v3_78 : Int32) (H : Heap) (locs : List Loc) (ls : Array Slot), gM_count_L78 σ K_78 n v2_78 v3_78 = some q → nH D 14 (cfM cI cZ h) h (nAd 14 h sz) s.heap σ H locs → lv_has ls 6 [(0, .ref (h 0)), (2, .int v2_78), (3, .int v3_78)] → W p l e R s m args below meth c H locs 0 0 Q (F0 m 78 ls []) := by
          intro K_78 kk_78 n
          induction n with
          | zero => intro v2_78 v3_78 H locs ls hg hH hl; rw [gM_count_L78] at hg; exact ob_n hg
          | succ n ih_78 =>
            intro v2_78 v3_78 H locs ls hg hH hl
            rw [gM_count_L78] at hg
            refine lv_iload_n hx hb dX4_count_78 rfl (lv_at hl 2 rfl) ?_
            refine lv_aload_n hx hb dX4_count_79 rfl (lv_at hl 0 rfl) ?_
            refine ng_get hx hb hts hown hK hH 0 (by decide) rfl rfl inlX4 2 (by decide) mw_92 rfl dX4_count_80 ?_
            refine lv_icmp_ge (tgt := 109) hx hb dX4_count_83 (by decide) (fun c7 => ?_) (fun c7 => ?_)
            · replace hg := ob_t c7 hg
              exact kk_78 v2_78 H locs ls hg hH (lv_sub hl [1] rfl)
            · replace hg := ob_f c7 hg
              refine lv_iload_n hx hb dX4_count_86 rfl (lv_at hl 1 rfl) ?_
              refine lv_aload_n hx hb dX4_count_87 rfl (lv_at hl 0 rfl) ?_
              refine ng_get hx hb hts hown hK hH 0 (by decide) rfl rfl inlX4 1 (by decide) mw_68 rfl dX4_count_88 ?_
              refine lv_iload_n hx hb dX4_count_91 rfl (lv_at hl 2 rfl) ?_
              obtain ⟨hb8, hg⟩ := ob_i hg
              refine ng_zald hx hb hK hH 2 (by decide) (fun _ => rfl) hb8 dX4_count_92 ?_
              refine lv_if_eq (tgt := 100) hx hb dX4_count_93 (by decide) (fun c9 => ?_) (fun c9 => ?_)
              · replace hg := ob_t c9 hg
                refine lv_iconst (v := (0 : Int32)) hx hb dX4_count_100 (by decide) ?_
                refine lv_iadd hx hb dX4_count_101 ?_
                refine lv_istore_n (lv' := [(2, .int (v2_78 + (0 : Int32))), (0, .ref (h 0)), (3, .int v3_78)]) hx hb dX4_count_102 rfl hl (by decide) rfl (fun ls hl => ?_)
                refine lv_iinc (v := (v3_78 + 1)) (lv' := [(3, .int (v3_78 + 1)), (2, .int (v2_78 + (0 : Int32))), (0, .ref (h 0))]) hx hb dX4_count_103 hl (k := 2) rfl rfl (by decide) rfl (fun ls hl => ?_)
                refine lv_goto (tgt := 78) hx hb dX4_count_106 (by decide) ?_
                exact ih_78 (v2_78 + (0 : Int32)) (v3_78 + 1) H locs ls hg hH (lv_sub hl [2, 1, 0] rfl)
              · replace hg := ob_f c9 hg
                refine lv_iconst (v := (1 : Int32)) hx hb dX4_count_96 (by decide) ?_
                refine lv_goto (tgt := 101) hx hb dX4_count_97 (by decide) ?_
                refine lv_iadd hx hb dX4_count_101 ?_
                refine lv_istore_n (lv' := [(2, .int (v2_78 + (1 : Int32))), (0, .ref (h 0)), (3, .int v3_78)]) hx hb dX4_count_102 rfl hl (by decide) rfl (fun ls hl => ?_)
                refine lv_iinc (v := (v3_78 + 1)) (lv' := [(3, .int (v3_78 + 1)), (2, .int (v2_78 + (1 : Int32))), (0, .ref (h 0))]) hx hb dX4_count_103 hl (k := 2) rfl rfl (by decide) rfl (fun ls hl => ?_)
                refine lv_goto (tgt := 78) hx hb dX4_count_106 (by decide) ?_
                exact ih_78 (v2_78 + (1 : Int32)) (v3_78 + 1) H locs ls hg hH (lv_sub hl [2, 1, 0] rfl)
        refine LP_78 _ ?_ _ _ _ _ _ _ hg hH (lv_sub hl [2, 1, 0] rfl)
        intro w2_78 H locs ls hg hH hl
        refine lv_iload_n hx hb dX4_count_109 rfl (lv_at hl 0 rfl) ?_
        subst hQ
        exact ng_iret hx hb hr hlk (congrArg Prod.fst (Option.some.inj hg)) (congrArg Prod.snd (Option.some.inj hg)) hH dX4_count_110
      · replace hg := ob_f c6 hg
        by_cases c10 : p1 = 3
        · replace hg := ob_t c10 hg
          refine lv_tableIn (tgt := 111) hx hb dX4_count_3 (by rw [c10]; decide) (by rw [c10]; decide) (by rw [c10]; rfl) (by decide) ?_
          refine lv_aload_n hx hb dX4_count_111 rfl (lv_at hl 1 rfl) ?_
          refine ng_get hx hb hts hown hK hH 0 (by decide) rfl rfl inlX4 11 (by decide) mw_166 rfl dX4_count_112 ?_
          subst hQ
          exact ng_iret hx hb hr hlk (congrArg Prod.fst (Option.some.inj hg)) (congrArg Prod.snd (Option.some.inj hg)) hH dX4_count_115
        · replace hg := ob_f c10 hg
          by_cases c11 : p1 = 4
          · replace hg := ob_t c11 hg
            refine lv_tableIn (tgt := 116) hx hb dX4_count_3 (by rw [c11]; decide) (by rw [c11]; decide) (by rw [c11]; rfl) (by decide) ?_
            refine lv_iconst (v := (0 : Int32)) hx hb dX4_count_116 (by decide) ?_
            refine lv_istore_n (lv' := [(3, .int (0 : Int32)), (2, .int (0 : Int32)), (0, .ref (h 0)), (1, .int p1)]) hx hb dX4_count_117 rfl hl (by decide) rfl (fun ls hl => ?_)
            have LP_118 : ∀ (K_118 : Int32 → nS → Option (Int32 × nS)) (kk_118 : ∀ (w2_118 : Int32) (σe_118 : nS) (H : Heap) (locs : List Loc) (ls : Array Slot), K_118 w2_118 σe_118 = some q → nH D 14 (cfM cI cZ h) h (nAd 14 h sz) s.heap σe_118 H locs → lv_has ls 6 [(2, .int w2_118)] → W p l e R s m args below meth c H locs 0 0 Q (F0 m 192 ls [])) (n : Nat) (v2_118 v3_118 : Int32) (σl_118 : nS) (H : Heap) (locs : List Loc) (ls : Array Slot), gM_count_L118 K_118 n v2_118 v3_118 σl_118 = some q → nH D 14 (cfM cI cZ h) h (nAd 14 h sz) s.heap σl_118 H locs → lv_has ls 6 [(0, .ref (h 0)), (2, .int v2_118), (3, .int v3_118)] → W p l e R s m args below meth c H locs 0 0 Q (F0 m 118 ls []) := by
              intro K_118 kk_118 n
              induction n with
              | zero => intro v2_118 v3_118 σl_118 H locs ls hg hH hl; rw [gM_count_L118] at hg; exact ob_n hg
              | succ n ih_118 =>
                intro v2_118 v3_118 σl_118 H locs ls hg hH hl
                rw [gM_count_L118] at hg
                refine lv_iload_n hx hb dX4_count_118 rfl (lv_at hl 2 rfl) ?_
                refine lv_aload_n hx hb dX4_count_119 rfl (lv_at hl 0 rfl) ?_
                refine ng_get hx hb hts hown hK hH 0 (by decide) rfl rfl inlX4 2 (by decide) mw_92 rfl dX4_count_120 ?_
                refine lv_icmp_ge (tgt := 192) hx hb dX4_count_123 (by decide) (fun c12 => ?_) (fun c12 => ?_)
                · replace hg := ob_t c12 hg
                  exact kk_118 v2_118 σl_118 H locs ls hg hH (lv_sub hl [1] rfl)
                · replace hg := ob_f c12 hg
                  refine lv_iconst (v := (1 : Int32)) hx hb dX4_count_126 (by decide) ?_
                  refine lv_istore (lv' := [(4, .int (1 : Int32)), (0, .ref (h 0)), (2, .int v2_118), (3, .int v3_118)]) hx hb dX4_count_127 hl (by decide) rfl (fun ls hl => ?_)
                  refine lv_aload_n hx hb dX4_count_129 rfl (lv_at hl 1 rfl) ?_
                  refine lv_iload_n hx hb dX4_count_130 rfl (lv_at hl 3 rfl) ?_
                  refine lv_iconst (v := (0 : Int32)) hx hb dX4_count_131 (by decide) ?_
                  refine lv_iconst (v := (-1 : Int32)) hx hb dX4_count_132 (by decide) ?_
                  obtain ⟨q13, hc14, hg⟩ := ob_b hg
                  refine ng_cv (ng_rV hx hb hml hown hts hK hH (As := [.int v3_118, .int (0 : Int32), .int (-1 : Int32)]) (rest := []) 0 (cM_reaches l D cI cZ cA h hi v3_118 (0 : Int32) (-1 : Int32) σl_118 q13 hc14 _) (by decide) rfl rfl mw_466 mw_467 mw_468 mw_5 mw_469 pdX4_reaches ⟨by rw [hR]; show _ ≤ _; simp only [nRm]; omega, by rw [hR]; show _ ≤ _; simp only [nRm]; omega⟩ hl.1 rfl (Nat.le_of_ble_eq_true rfl) dX4_count_133 ⟨Nat.zero_le _, Nat.zero_le _⟩) hH (fun H locs hH => ?_)
                  refine lv_iconst (v := (0 : Int32)) hx hb dX4_count_136 (by decide) ?_
                  refine lv_istore (lv' := [(5, .int (0 : Int32)), (4, .int (1 : Int32)), (0, .ref (h 0)), (2, .int v2_118), (3, .int v3_118)]) hx hb dX4_count_137 hl (by decide) rfl (fun ls hl => ?_)
                  have LP_139 : ∀ (K_139 : Int32 → Option (Int32 × nS)) (kk_139 : ∀ (w4_139 : Int32) (H : Heap) (locs : List Loc) (ls : Array Slot), K_139 w4_139 = some q → nH D 14 (cfM cI cZ h) h (nAd 14 h sz) s.heap q13 H locs → lv_has ls 6 [(0, .ref (h 0)), (2, .int v2_118), (3, .int v3_118), (4, .int w4_139)] → W p l e R s m args below meth c H locs 0 0 Q (F0 m 173 ls [])) (n : Nat) (v4_139 v5_139 : Int32) (H : Heap) (locs : List Loc) (ls : Array Slot), gM_count_L139 v2_118 v3_118 q13 K_139 n v4_139 v5_139 = some q → nH D 14 (cfM cI cZ h) h (nAd 14 h sz) s.heap q13 H locs → lv_has ls 6 [(0, .ref (h 0)), (2, .int v2_118), (3, .int v3_118), (4, .int v4_139), (5, .int v5_139)] → W p l e R s m args below meth c H locs 0 0 Q (F0 m 139 ls []) := by
                    intro K_139 kk_139 n
                    induction n with
                    | zero => intro v4_139 v5_139 H locs ls hg hH hl; rw [gM_count_L139] at hg; exact ob_n hg
                    | succ n ih_139 =>
                      intro v4_139 v5_139 H locs ls hg hH hl
                      rw [gM_count_L139] at hg
                      refine lv_iload hx hb dX4_count_139 (lv_at hl 4 rfl) ?_
                      refine lv_iload_n hx hb dX4_count_141 rfl (lv_at hl 2 rfl) ?_
                      refine lv_icmp_ge (tgt := 173) hx hb dX4_count_142 (by decide) (fun c16 => ?_) (fun c16 => ?_)
                      · replace hg := ob_t c16 hg
                        exact kk_139 v4_139 H locs ls hg hH (lv_sub hl [0, 1, 2, 3] rfl)
                      · replace hg := ob_f c16 hg
                        refine lv_iload hx hb dX4_count_145 (lv_at hl 3 rfl) ?_
                        refine lv_if_eq (tgt := 164) hx hb dX4_count_147 (by decide) (fun c17 => ?_) (fun c17 => ?_)
                        · replace hg := ob_t c17 hg
                          refine lv_iconst (v := (0 : Int32)) hx hb dX4_count_164 (by decide) ?_
                          refine lv_istore (lv' := [(4, .int (0 : Int32)), (0, .ref (h 0)), (2, .int v2_118), (3, .int v3_118), (5, .int v5_139)]) hx hb dX4_count_165 hl (by decide) rfl (fun ls hl => ?_)
                          refine lv_iinc (v := (v5_139 + 1)) (lv' := [(5, .int (v5_139 + 1)), (4, .int (0 : Int32)), (0, .ref (h 0)), (2, .int v2_118), (3, .int v3_118)]) hx hb dX4_count_167 hl (k := 4) rfl rfl (by decide) rfl (fun ls hl => ?_)
                          refine lv_goto (tgt := 139) hx hb dX4_count_170 (by decide) ?_
                          exact ih_139 (0 : Int32) (v5_139 + 1) H locs ls hg hH (lv_sub hl [2, 3, 4, 1, 0] rfl)
                        · replace hg := ob_f c17 hg
                          refine lv_aload_n hx hb dX4_count_150 rfl (lv_at hl 0 rfl) ?_
                          refine ng_get hx hb hts hown hK hH 0 (by decide) rfl rfl inlX4 22 (by decide) mw_79 rfl dX4_count_151 ?_
                          refine lv_iload hx hb dX4_count_154 (lv_at hl 4 rfl) ?_
                          obtain ⟨hb18, hg⟩ := ob_i hg
                          refine ng_zald hx hb hK hH 13 (by decide) (fun _ => rfl) hb18 dX4_count_156 ?_
                          refine lv_if_ne (tgt := 164) hx hb dX4_count_157 (by decide) (fun c19 => ?_) (fun c19 => ?_)
                          · replace hg := ob_f c19 hg
                            refine lv_iconst (v := (0 : Int32)) hx hb dX4_count_164 (by decide) ?_
                            refine lv_istore (lv' := [(4, .int (0 : Int32)), (0, .ref (h 0)), (2, .int v2_118), (3, .int v3_118), (5, .int v5_139)]) hx hb dX4_count_165 hl (by decide) rfl (fun ls hl => ?_)
                            refine lv_iinc (v := (v5_139 + 1)) (lv' := [(5, .int (v5_139 + 1)), (4, .int (0 : Int32)), (0, .ref (h 0)), (2, .int v2_118), (3, .int v3_118)]) hx hb dX4_count_167 hl (k := 4) rfl rfl (by decide) rfl (fun ls hl => ?_)
                            refine lv_goto (tgt := 139) hx hb dX4_count_170 (by decide) ?_
                            exact ih_139 (0 : Int32) (v5_139 + 1) H locs ls hg hH (lv_sub hl [2, 3, 4, 1, 0] rfl)
                          · replace hg := ob_t c19 hg
                            refine lv_iconst (v := (1 : Int32)) hx hb dX4_count_160 (by decide) ?_
                            refine lv_goto (tgt := 165) hx hb dX4_count_161 (by decide) ?_
                            refine lv_istore (lv' := [(4, .int (1 : Int32)), (0, .ref (h 0)), (2, .int v2_118), (3, .int v3_118), (5, .int v5_139)]) hx hb dX4_count_165 hl (by decide) rfl (fun ls hl => ?_)
                            refine lv_iinc (v := (v5_139 + 1)) (lv' := [(5, .int (v5_139 + 1)), (4, .int (1 : Int32)), (0, .ref (h 0)), (2, .int v2_118), (3, .int v3_118)]) hx hb dX4_count_167 hl (k := 4) rfl rfl (by decide) rfl (fun ls hl => ?_)
                            refine lv_goto (tgt := 139) hx hb dX4_count_170 (by decide) ?_
                            exact ih_139 (1 : Int32) (v5_139 + 1) H locs ls hg hH (lv_sub hl [2, 3, 4, 1, 0] rfl)
                  refine LP_139 _ ?_ _ _ _ _ _ _ hg hH (lv_sub hl [2, 3, 4, 1, 0] rfl)
                  intro w4_139 H locs ls hg hH hl
                  refine lv_iload_n hx hb dX4_count_173 rfl (lv_at hl 1 rfl) ?_
                  refine lv_iload hx hb dX4_count_174 (lv_at hl 3 rfl) ?_
                  refine lv_if_eq (tgt := 183) hx hb dX4_count_176 (by decide) (fun c15 => ?_) (fun c15 => ?_)
                  · replace hg := ob_t c15 hg
                    refine lv_iconst (v := (0 : Int32)) hx hb dX4_count_183 (by decide) ?_
                    refine lv_iadd hx hb dX4_count_184 ?_
                    refine lv_istore_n (lv' := [(2, .int (v2_118 + (0 : Int32))), (0, .ref (h 0)), (3, .int v3_118), (4, .int w4_139)]) hx hb dX4_count_185 rfl hl (by decide) rfl (fun ls hl => ?_)
                    refine lv_iinc (v := (v3_118 + 1)) (lv' := [(3, .int (v3_118 + 1)), (2, .int (v2_118 + (0 : Int32))), (0, .ref (h 0)), (4, .int w4_139)]) hx hb dX4_count_186 hl (k := 2) rfl rfl (by decide) rfl (fun ls hl => ?_)
                    refine lv_goto (tgt := 118) hx hb dX4_count_189 (by decide) ?_
                    exact ih_118 (v2_118 + (0 : Int32)) (v3_118 + 1) q13 H locs ls hg hH (lv_sub hl [2, 1, 0] rfl)
                  · replace hg := ob_f c15 hg
                    refine lv_iconst (v := (1 : Int32)) hx hb dX4_count_179 (by decide) ?_
                    refine lv_goto (tgt := 184) hx hb dX4_count_180 (by decide) ?_
                    refine lv_iadd hx hb dX4_count_184 ?_
                    refine lv_istore_n (lv' := [(2, .int (v2_118 + (1 : Int32))), (0, .ref (h 0)), (3, .int v3_118), (4, .int w4_139)]) hx hb dX4_count_185 rfl hl (by decide) rfl (fun ls hl => ?_)
                    refine lv_iinc (v := (v3_118 + 1)) (lv' := [(3, .int (v3_118 + 1)), (2, .int (v2_118 + (1 : Int32))), (0, .ref (h 0)), (4, .int w4_139)]) hx hb dX4_count_186 hl (k := 2) rfl rfl (by decide) rfl (fun ls hl => ?_)
                    refine lv_goto (tgt := 118) hx hb dX4_count_189 (by decide) ?_
                    exact ih_118 (v2_118 + (1 : Int32)) (v3_118 + 1) q13 H locs ls hg hH (lv_sub hl [2, 1, 0] rfl)
            refine LP_118 _ ?_ _ _ _ _ _ _ _ hg hH (lv_sub hl [2, 1, 0] rfl)
            intro w2_118 σe_118 H locs ls hg hH hl
            refine lv_iload_n hx hb dX4_count_192 rfl (lv_at hl 0 rfl) ?_
            subst hQ
            exact ng_iret hx hb hr hlk (congrArg Prod.fst (Option.some.inj hg)) (congrArg Prod.snd (Option.some.inj hg)) hH dX4_count_193
          · replace hg := ob_f c11 hg
            refine lv_tableOut (tgt := 194) hx hb dX4_count_3 (by have c1z := ng_table (n := 0) rfl c1; have c2z := ng_table (n := 1) rfl c2; have c6z := ng_table (n := 2) rfl c6; have c10z := ng_table (n := 3) rfl c10; have c11z := ng_table (n := 4) rfl c11; omega) (by decide) ?_
            refine lv_iconst (v := (-1 : Int32)) hx hb dX4_count_194 (by decide) ?_
            subst hQ
            exact ng_iret hx hb hr hlk (congrArg Prod.fst (Option.some.inj hg)) (congrArg Prod.snd (Option.some.inj hg)) hH dX4_count_195
