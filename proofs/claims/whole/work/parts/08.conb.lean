set_option maxHeartbeats 8000000 in
set_option maxRecDepth 100000 in
theorem cC_unpair (l : Launch) (D : va_G) (cI cZ cA : ClassId) (h : Nat → Nat) (hi : nInj 48 h) (p1 p2 : Int32) (σ : nS) (q : Int32 × nS) (hg : gC_unpair p1 p2 σ = some q) : nMi l yX3_unpair cX3_unpair 3 (some .boolean) 3 D cI cZ cA 48 (cfC cI cZ cA h) h [.ref (h 0), .int p1, .int p2] σ q.1 q.2 := by
  unfold gC_unpair at hg
  refine ng_body_i (by decide) hi (Nat.le_of_ble_eq_true rfl) ?_
  intro p e R s m args below meth c sz Q ls hx hb hml hr hlk hts hown hK hR hQ hl hH
  have hown : s.vm.findClass RX3 = some m.cls := hown
  have hl : lv_has ls 3 [(0, .ref (h 0)), (1, .int p1), (2, .int p2)] := hl
  refine lv_aload_n hx hb dX3_unpair_0 rfl (lv_at hl 0 rfl) ?_
  refine ng_get hx hb hts hown hK hH 0 (by decide) rfl rfl inlX3 0 (by decide) mw_15 rfl dX3_unpair_1 ?_
  refine lv_iload_n hx hb dX3_unpair_4 rfl (lv_at hl 1 rfl) ?_
  refine lv_iload_n hx hb dX3_unpair_5 rfl (lv_at hl 2 rfl) ?_
  obtain ⟨q1, hc2, hg⟩ := ob_b hg
  refine ng_ci (ng_rV hx hb hml hown hts hK hH (As := [.int p1, .int p2]) (rest := []) 1 (cN_hasTwo l D cI cZ cA h hi p1 p2 σ q1 hc2 _) (by decide) rfl rfl mw_157 mw_105 mw_106 mw_14 mw_107 pdX1_hasTwo ⟨by rw [hR]; show _ ≤ _; simp only [nRm]; omega, by rw [hR]; show _ ≤ _; simp only [nRm]; omega⟩ hl.1 rfl (Nat.le_of_ble_eq_true rfl) dX3_unpair_6 ⟨Nat.zero_le _, Nat.zero_le _⟩) hH (fun H locs hH => ?_)
  refine lv_if_eq (tgt := 25) hx hb dX3_unpair_9 (by decide) (fun c3 => ?_) (fun c3 => ?_)
  · replace hg := ob_t c3 hg
    refine lv_iconst (v := (0 : Int32)) hx hb dX3_unpair_25 (by decide) ?_
    subst hQ
    exact ng_zret hx hb hr hlk (by decide) (congrArg Prod.fst (Option.some.inj hg)) (congrArg Prod.snd (Option.some.inj hg)) hH dX3_unpair_26
  · replace hg := ob_f c3 hg
    refine lv_aload_n hx hb dX3_unpair_12 rfl (lv_at hl 0 rfl) ?_
    refine ng_get hx hb hts hown hK hH 0 (by decide) rfl rfl inlX3 3 (by decide) mw_25 rfl dX3_unpair_13 ?_
    refine lv_iload_n hx hb dX3_unpair_16 rfl (lv_at hl 1 rfl) ?_
    obtain ⟨hb4, hg⟩ := ob_i hg
    refine ng_iald hx hb hK hH 47 (by decide) (fun _ => rfl) hb4 dX3_unpair_17 ?_
    refine lv_iload_n hx hb dX3_unpair_18 rfl (lv_at hl 2 rfl) ?_
    obtain ⟨q5, hc6, hg⟩ := ob_b hg
    refine ng_ci (ng_rS hx hb hml hown hts hK hH (As := [.int (σ 47 p1.toNatClampNeg), .int p2]) (rest := []) (cC_holds l D cI cZ cA h hi (σ 47 p1.toNatClampNeg) p2 σ q5 hc6 _) mw_146 mw_147 mw_2 mw_148 pdX3_holds.2 ⟨by rw [hR]; show _ ≤ _; simp only [nRm]; omega, by rw [hR]; show _ ≤ _; simp only [nRm]; omega⟩ hl.1 rfl (Nat.le_of_ble_eq_true rfl) dX3_unpair_19 ⟨Nat.zero_le _, Nat.zero_le _⟩) hH (fun H locs hH => ?_)
    refine lv_if_ne (tgt := 27) hx hb dX3_unpair_22 (by decide) (fun c7 => ?_) (fun c7 => ?_)
    · replace hg := ob_f c7 hg
      refine lv_aload_n hx hb dX3_unpair_27 rfl (lv_at hl 0 rfl) ?_
      refine lv_iload_n hx hb dX3_unpair_28 rfl (lv_at hl 1 rfl) ?_
      refine lv_iload_n hx hb dX3_unpair_29 rfl (lv_at hl 2 rfl) ?_
      obtain ⟨q8, hc9, hg⟩ := ob_b hg
      refine ng_cv (ng_rV hx hb hml hown hts hK hH (As := [.int p1, .int p2]) (rest := []) 0 (cC_turnPair l D cI cZ cA h hi p1 p2 σ q8 hc9 _) (by decide) rfl rfl mw_158 mw_159 mw_160 mw_2 mw_161 pdX3_turnPair ⟨by rw [hR]; show _ ≤ _; simp only [nRm]; omega, by rw [hR]; show _ ≤ _; simp only [nRm]; omega⟩ hl.1 rfl (Nat.le_of_ble_eq_true rfl) dX3_unpair_30 ⟨Nat.zero_le _, Nat.zero_le _⟩) hH (fun H locs hH => ?_)
      refine lv_aload_n hx hb dX3_unpair_33 rfl (lv_at hl 0 rfl) ?_
      refine lv_dup hx hb dX3_unpair_34 rfl ?_
      refine ng_get hx hb hts hown hK hH 0 (by decide) rfl rfl inlX3 4 (by decide) mw_26 rfl dX3_unpair_35 ?_
      refine lv_iconst (v := (1 : Int32)) hx hb dX3_unpair_38 (by decide) ?_
      refine lv_isub hx hb dX3_unpair_39 ?_
      refine ng_put hx hb hts hown hK hH 0 (by decide) rfl rfl inlX3 tyX3 tyX3_ok nmX3 4 (by decide) mw_26 rfl (by decide +kernel) (Nat.le_of_ble_eq_true rfl) rfl dX3_unpair_40 (fun H locs hH => ?_)
      refine lv_iconst (v := (1 : Int32)) hx hb dX3_unpair_43 (by decide) ?_
      subst hQ
      exact ng_zret hx hb hr hlk (by decide) (congrArg Prod.fst (Option.some.inj hg)) (congrArg Prod.snd (Option.some.inj hg)) hH dX3_unpair_44
    · replace hg := ob_t c7 hg
      refine lv_iconst (v := (0 : Int32)) hx hb dX3_unpair_25 (by decide) ?_
      subst hQ
      exact ng_zret hx hb hr hlk (by decide) (congrArg Prod.fst (Option.some.inj hg)) (congrArg Prod.snd (Option.some.inj hg)) hH dX3_unpair_26
set_option maxHeartbeats 8000000 in
set_option maxRecDepth 100000 in
theorem cS_begin (l : Launch) (D : va_G) (cI cZ cA : ClassId) (h : Nat → Nat) (hi : nInj 48 h) (p1 : Int32) (σ : nS) (q : nS) (hg : gS_begin p1 σ = some q) : nMv l yX2_begin cX2_begin 4 none 1 D cI cZ cA 48 (cfC cI cZ cA h) h [.ref (h 9), .int p1] σ q := by
  unfold gS_begin at hg
  refine ng_body_v (by decide) hi (Nat.le_of_ble_eq_true rfl) ?_
  intro p e R s m args below meth c sz Q ls hx hb hml hr hlk hts hown hK hR hQ hl hH
  have hown : s.vm.findClass RX2 = some m.cls := hown
  have hl : lv_has ls 4 [(0, .ref (h 9)), (1, .int p1)] := hl
  refine lv_aload_n hx hb dX2_begin_0 rfl (lv_at hl 0 rfl) ?_
  refine lv_iload_n hx hb dX2_begin_1 rfl (lv_at hl 1 rfl) ?_
  refine lv_bipush (v := (9 : Int32)) hx hb dX2_begin_2 (by decide) ?_
  refine va_mmin hx hb (hml.trans hl.1.symm) hown (hts _ mw_201) (hts _ mw_202) (hts _ mw_203) (hts _ mw_204) (by rw [hR]; exact Nat.le_of_ble_eq_true rfl) (by rw [hR]; exact Nat.le_of_ble_eq_true rfl) (Nat.zero_le _) (Nat.zero_le _) dX2_begin_4 ?_
  refine ng_put hx hb hts hown hK hH 9 (by decide) rfl rfl inlX2 tyX2 tyX2_ok nmX2 8 (by decide) mw_53 rfl (by decide +kernel) (Nat.le_of_ble_eq_true rfl) rfl dX2_begin_7 (fun H locs hH => ?_)
  refine lv_aload_n hx hb dX2_begin_10 rfl (lv_at hl 0 rfl) ?_
  refine lv_iconst (v := (0 : Int32)) hx hb dX2_begin_11 (by decide) ?_
  refine ng_put hx hb hts hown hK hH 9 (by decide) rfl rfl inlX2 tyX2 tyX2_ok nmX2 9 (by decide) mw_54 rfl (by decide +kernel) (Nat.le_of_ble_eq_true rfl) rfl dX2_begin_12 (fun H locs hH => ?_)
  refine lv_aload_n hx hb dX2_begin_15 rfl (lv_at hl 0 rfl) ?_
  refine lv_aload_n hx hb dX2_begin_16 rfl (lv_at hl 0 rfl) ?_
  refine ng_get hx hb hts hown hK hH 9 (by decide) rfl rfl inlX2 8 (by decide) mw_53 rfl dX2_begin_17 ?_
  refine ng_put hx hb hts hown hK hH 9 (by decide) rfl rfl inlX2 tyX2 tyX2_ok nmX2 10 (by decide) mw_55 rfl (by decide +kernel) (Nat.le_of_ble_eq_true rfl) rfl dX2_begin_20 (fun H locs hH => ?_)
  refine lv_iconst (v := (0 : Int32)) hx hb dX2_begin_23 (by decide) ?_
  refine lv_istore_n (lv' := [(2, .int (0 : Int32)), (0, .ref (h 9)), (1, .int p1)]) hx hb dX2_begin_24 rfl hl (by decide) rfl (fun ls hl => ?_)
  have LP_25 : ∀ (K_25 : nS → Option nS) (kk_25 : ∀ (σe_25 : nS) (H : Heap) (locs : List Loc) (ls : Array Slot), K_25 σe_25 = some q → nH D 48 (cfC cI cZ cA h) h (nAd 48 h sz) s.heap σe_25 H locs → lv_has ls 4 [] → W p l e R s m args below meth c H locs 0 0 Q (F0 m 84 ls [])) (n : Nat) (v2_25 : Int32) (σl_25 : nS) (H : Heap) (locs : List Loc) (ls : Array Slot), gS_begin_L25 K_25 n v2_25 σl_25 = some q → nH D 48 (cfC cI cZ cA h) h (nAd 48 h sz) s.heap σl_25 H locs → lv_has ls 4 [(0, .ref (h 9)), (2, .int v2_25)] → W p l e R s m args below meth c H locs 0 0 Q (F0 m 25 ls []) := by
    intro K_25 kk_25 n
    induction n with
    | zero => intro v2_25 σl_25 H locs ls hg hH hl; rw [gS_begin_L25] at hg; exact ob_n hg
    | succ n ih_25 =>
      intro v2_25 σl_25 H locs ls hg hH hl
      rw [gS_begin_L25] at hg
      refine lv_iload_n hx hb dX2_begin_25 rfl (lv_at hl 1 rfl) ?_
      refine lv_aload_n hx hb dX2_begin_26 rfl (lv_at hl 0 rfl) ?_
      refine ng_get hx hb hts hown hK hH 9 (by decide) rfl rfl inlX2 8 (by decide) mw_53 rfl dX2_begin_27 ?_
      refine lv_icmp_ge (tgt := 84) hx hb dX2_begin_30 (by decide) (fun c1 => ?_) (fun c1 => ?_)
      · replace hg := ob_t c1 hg
        exact kk_25 σl_25 H locs ls hg hH (lv_sub hl [] rfl)
      · replace hg := ob_f c1 hg
        refine lv_aload_n hx hb dX2_begin_33 rfl (lv_at hl 0 rfl) ?_
        refine ng_get hx hb hts hown hK hH 9 (by decide) rfl rfl inlX2 3 (by decide) mw_48 rfl dX2_begin_34 ?_
        refine lv_iload_n hx hb dX2_begin_37 rfl (lv_at hl 1 rfl) ?_
        refine lv_iconst (v := (0 : Int32)) hx hb dX2_begin_38 (by decide) ?_
        obtain ⟨hb2, hg⟩ := ob_i hg
        refine ng_iast hx hb hK hH 40 (by decide) (fun _ => rfl) hb2 dX2_begin_39 (fun H locs hH => ?_)
        refine lv_aload_n hx hb dX2_begin_40 rfl (lv_at hl 0 rfl) ?_
        refine ng_get hx hb hts hown hK hH 9 (by decide) rfl rfl inlX2 4 (by decide) mw_49 rfl dX2_begin_41 ?_
        refine lv_iload_n hx hb dX2_begin_44 rfl (lv_at hl 1 rfl) ?_
        refine lv_iconst (v := (0 : Int32)) hx hb dX2_begin_45 (by decide) ?_
        obtain ⟨hb3, hg⟩ := ob_i hg
        refine ng_iast hx hb hK hH 41 (by decide) (fun _ => rfl) hb3 dX2_begin_46 (fun H locs hH => ?_)
        refine lv_iconst (v := (0 : Int32)) hx hb dX2_begin_47 (by decide) ?_
        refine lv_istore_n (lv' := [(3, .int (0 : Int32)), (0, .ref (h 9)), (2, .int v2_25)]) hx hb dX2_begin_48 rfl hl (by decide) rfl (fun ls hl => ?_)
        have LP_49 : ∀ (K_49 : nS → Option nS) (kk_49 : ∀ (σe_49 : nS) (H : Heap) (locs : List Loc) (ls : Array Slot), K_49 σe_49 = some q → nH D 48 (cfC cI cZ cA h) h (nAd 48 h sz) s.heap σe_49 H locs → lv_has ls 4 [(0, .ref (h 9)), (2, .int v2_25)] → W p l e R s m args below meth c H locs 0 0 Q (F0 m 78 ls [])) (n : Nat) (v3_49 : Int32) (σl_49 : nS) (H : Heap) (locs : List Loc) (ls : Array Slot), gS_begin_L49 v2_25 K_49 n v3_49 σl_49 = some q → nH D 48 (cfC cI cZ cA h) h (nAd 48 h sz) s.heap σl_49 H locs → lv_has ls 4 [(0, .ref (h 9)), (2, .int v2_25), (3, .int v3_49)] → W p l e R s m args below meth c H locs 0 0 Q (F0 m 49 ls []) := by
          intro K_49 kk_49 n
          induction n with
          | zero => intro v3_49 σl_49 H locs ls hg hH hl; rw [gS_begin_L49] at hg; exact ob_n hg
          | succ n ih_49 =>
            intro v3_49 σl_49 H locs ls hg hH hl
            rw [gS_begin_L49] at hg
            refine lv_iload_n hx hb dX2_begin_49 rfl (lv_at hl 2 rfl) ?_
            refine lv_iload_n hx hb dX2_begin_50 rfl (lv_at hl 1 rfl) ?_
            refine lv_icmp_ge (tgt := 78) hx hb dX2_begin_51 (by decide) (fun c4 => ?_) (fun c4 => ?_)
            · replace hg := ob_t c4 hg
              exact kk_49 σl_49 H locs ls hg hH (lv_sub hl [0, 1] rfl)
            · replace hg := ob_f c4 hg
              refine lv_aload_n hx hb dX2_begin_54 rfl (lv_at hl 0 rfl) ?_
              refine ng_get hx hb hts hown hK hH 9 (by decide) rfl rfl inlX2 0 (by decide) mw_45 rfl dX2_begin_55 ?_
              refine lv_iload_n hx hb dX2_begin_58 rfl (lv_at hl 1 rfl) ?_
              obtain ⟨hb5, hg⟩ := ob_i hg
              refine ng_aald hx hb hK hH 10 (by decide) 11 (fun _ => rfl) hb5 dX2_begin_59 ?_
              refine lv_iload_n hx hb dX2_begin_60 rfl (lv_at hl 2 rfl) ?_
              refine lv_iconst (v := (0 : Int32)) hx hb dX2_begin_61 (by decide) ?_
              obtain ⟨hb6, hg⟩ := ob_i hg
              refine ng_iast hx hb hK hH (11 + v2_25.toNatClampNeg) (rwC_lt11 hb5) (rwC_cf11 hb5) hb6 dX2_begin_62 (fun H locs hH => ?_)
              refine lv_aload_n hx hb dX2_begin_63 rfl (lv_at hl 0 rfl) ?_
              refine ng_get hx hb hts hown hK hH 9 (by decide) rfl rfl inlX2 1 (by decide) mw_46 rfl dX2_begin_64 ?_
              refine lv_iload_n hx hb dX2_begin_67 rfl (lv_at hl 1 rfl) ?_
              obtain ⟨hb7, hg⟩ := ob_i hg
              refine ng_aald hx hb hK hH 20 (by decide) 21 (fun _ => rfl) hb7 dX2_begin_68 ?_
              refine lv_iload_n hx hb dX2_begin_69 rfl (lv_at hl 2 rfl) ?_
              refine lv_iconst (v := (0 : Int32)) hx hb dX2_begin_70 (by decide) ?_
              obtain ⟨hb8, hg⟩ := ob_i hg
              refine ng_iast hx hb hK hH (21 + v2_25.toNatClampNeg) (rwC_lt21 hb7) (rwC_cf21 hb7) hb8 dX2_begin_71 (fun H locs hH => ?_)
              refine lv_iinc (v := (v3_49 + 1)) (lv' := [(3, .int (v3_49 + 1)), (0, .ref (h 9)), (2, .int v2_25)]) hx hb dX2_begin_72 hl (k := 2) rfl rfl (by decide) rfl (fun ls hl => ?_)
              refine lv_goto (tgt := 49) hx hb dX2_begin_75 (by decide) ?_
              exact ih_49 (v3_49 + 1) (nst (nst σl_49 (11 + v2_25.toNatClampNeg) v3_49.toNatClampNeg (0 : Int32)) (21 + v2_25.toNatClampNeg) v3_49.toNatClampNeg (0 : Int32)) H locs ls hg hH (lv_sub hl [1, 2, 0] rfl)
        refine LP_49 _ ?_ _ _ _ _ _ _ hg hH (lv_sub hl [1, 2, 0] rfl)
        intro σe_49 H locs ls hg hH hl
        refine lv_iinc (v := (v2_25 + 1)) (lv' := [(2, .int (v2_25 + 1)), (0, .ref (h 9))]) hx hb dX2_begin_78 hl (k := 1) rfl rfl (by decide) rfl (fun ls hl => ?_)
        refine lv_goto (tgt := 25) hx hb dX2_begin_81 (by decide) ?_
        exact ih_25 (v2_25 + 1) σe_49 H locs ls hg hH (lv_sub hl [1, 0] rfl)
  refine LP_25 _ ?_ _ _ _ _ _ _ hg hH (lv_sub hl [1, 0] rfl)
  intro σe_25 H locs ls hg hH hl
  subst hQ
  exact ng_vret hx hb hr hlk (Option.some.inj hg) hH dX2_begin_84
set_option maxHeartbeats 8000000 in
set_option maxRecDepth 100000 in
theorem cS_addCost (l : Launch) (D : va_G) (cI cZ cA : ClassId) (h : Nat → Nat) (hi : nInj 48 h) (p1 p2 p3 p4 : Int32) (σ : nS) (q : nS) (hg : gS_addCost p1 p2 p3 p4 σ = some q) : nMv l yX2_addCost cX2_addCost 7 none 1 D cI cZ cA 48 (cfC cI cZ cA h) h [.ref (h 9), .int p1, .int p2, .int p3, .int p4] σ q := by
  unfold gS_addCost at hg
  refine ng_body_v (by decide) hi (Nat.le_of_ble_eq_true rfl) ?_
  intro p e R s m args below meth c sz Q ls hx hb hml hr hlk hts hown hK hR hQ hl hH
  have hown : s.vm.findClass RX2 = some m.cls := hown
  have hl : lv_has ls 7 [(0, .ref (h 9)), (1, .int p1), (2, .int p2), (3, .int p3), (4, .int p4)] := hl
  refine lv_iload_n hx hb dX2_addCost_0 rfl (lv_at hl 1 rfl) ?_
  refine lv_iload_n hx hb dX2_addCost_1 rfl (lv_at hl 2 rfl) ?_
  refine va_mmax hx hb (hml.trans hl.1.symm) hown (hts _ mw_209) (hts _ mw_210) (hts _ mw_203) (hts _ mw_211) (by rw [hR]; exact Nat.le_of_ble_eq_true rfl) (by rw [hR]; exact Nat.le_of_ble_eq_true rfl) (Nat.zero_le _) (Nat.zero_le _) dX2_addCost_2 ?_
  refine lv_istore (lv' := [(5, .int (if p1 < p2 then p2 else p1)), (0, .ref (h 9)), (1, .int p1), (2, .int p2), (3, .int p3), (4, .int p4)]) hx hb dX2_addCost_5 hl (by decide) rfl (fun ls hl => ?_)
  refine lv_iload_n hx hb dX2_addCost_7 rfl (lv_at hl 2 rfl) ?_
  refine lv_iload_n hx hb dX2_addCost_8 rfl (lv_at hl 3 rfl) ?_
  refine va_mmin hx hb (hml.trans hl.1.symm) hown (hts _ mw_201) (hts _ mw_202) (hts _ mw_203) (hts _ mw_204) (by rw [hR]; exact Nat.le_of_ble_eq_true rfl) (by rw [hR]; exact Nat.le_of_ble_eq_true rfl) (Nat.zero_le _) (Nat.zero_le _) dX2_addCost_9 ?_
  refine lv_istore (lv' := [(6, .int (if p2 < p1 then p2 else p1)), (5, .int (if p1 < p2 then p2 else p1)), (0, .ref (h 9)), (1, .int p1), (2, .int p2), (3, .int p3), (4, .int p4)]) hx hb dX2_addCost_12 hl (by decide) rfl (fun ls hl => ?_)
  refine lv_aload_n hx hb dX2_addCost_14 rfl (lv_at hl 2 rfl) ?_
  refine ng_get hx hb hts hown hK hH 9 (by decide) rfl rfl inlX2 0 (by decide) mw_45 rfl dX2_addCost_15 ?_
  refine lv_iload hx hb dX2_addCost_18 (lv_at hl 1 rfl) ?_
  obtain ⟨hb1, hg⟩ := ob_i hg
  refine ng_aald hx hb hK hH 10 (by decide) 11 (fun _ => rfl) hb1 dX2_addCost_20 ?_
  refine lv_iload hx hb dX2_addCost_21 (lv_at hl 0 rfl) ?_
  refine lv_dup2_11 hx hb dX2_addCost_23 rfl rfl ?_
  obtain ⟨hb2, hg⟩ := ob_i hg
  refine ng_iald hx hb hK hH (11 + (if p1 < p2 then p2 else p1).toNatClampNeg) (rwC_lt11 hb1) (rwC_cf11 hb1) hb2 dX2_addCost_24 ?_
  refine lv_iload_n hx hb dX2_addCost_25 rfl (lv_at hl 5 rfl) ?_
  refine lv_iadd hx hb dX2_addCost_26 ?_
  obtain ⟨hb3, hg⟩ := ob_i hg
  refine ng_iast hx hb hK hH (11 + (if p1 < p2 then p2 else p1).toNatClampNeg) (rwC_lt11 hb1) (rwC_cf11 hb1) hb3 dX2_addCost_27 (fun H locs hH => ?_)
  refine lv_aload_n hx hb dX2_addCost_28 rfl (lv_at hl 2 rfl) ?_
  refine ng_get hx hb hts hown hK hH 9 (by decide) rfl rfl inlX2 1 (by decide) mw_46 rfl dX2_addCost_29 ?_
  refine lv_iload hx hb dX2_addCost_32 (lv_at hl 1 rfl) ?_
  obtain ⟨hb4, hg⟩ := ob_i hg
  refine ng_aald hx hb hK hH 20 (by decide) 21 (fun _ => rfl) hb4 dX2_addCost_34 ?_
  refine lv_iload hx hb dX2_addCost_35 (lv_at hl 0 rfl) ?_
  refine lv_dup2_11 hx hb dX2_addCost_37 rfl rfl ?_
  obtain ⟨hb5, hg⟩ := ob_i hg
  refine ng_iald hx hb hK hH (21 + (if p1 < p2 then p2 else p1).toNatClampNeg) (rwC_lt21 hb4) (rwC_cf21 hb4) hb5 dX2_addCost_38 ?_
  refine lv_iload hx hb dX2_addCost_39 (lv_at hl 6 rfl) ?_
  refine lv_iadd hx hb dX2_addCost_41 ?_
  obtain ⟨hb6, hg⟩ := ob_i hg
  refine ng_iast hx hb hK hH (21 + (if p1 < p2 then p2 else p1).toNatClampNeg) (rwC_lt21 hb4) (rwC_cf21 hb4) hb6 dX2_addCost_42 (fun H locs hH => ?_)
  subst hQ
  exact ng_vret hx hb hr hlk (Option.some.inj hg) hH dX2_addCost_43
set_option maxHeartbeats 8000000 in
set_option maxRecDepth 100000 in
theorem cC_prepareSums (l : Launch) (D : va_G) (cI cZ cA : ClassId) (h : Nat → Nat) (hi : nInj 48 h) (σ : nS) (q : nS) (hg : gC_prepareSums σ = some q) : nMv l yX3_prepareSums cX3_prepareSums 2 none 2 D cI cZ cA 48 (cfC cI cZ cA h) h [.ref (h 0)] σ q := by
  unfold gC_prepareSums at hg
  refine ng_body_v (by decide) hi (Nat.le_of_ble_eq_true rfl) ?_
  intro p e R s m args below meth c sz Q ls hx hb hml hr hlk hts hown hK hR hQ hl hH
  have hown : s.vm.findClass RX3 = some m.cls := hown
  have hl : lv_has ls 2 [(0, .ref (h 0))] := hl
  refine lv_aload_n hx hb dX3_prepareSums_0 rfl (lv_at hl 0 rfl) ?_
  refine ng_get hx hb hts hown hK hH 0 (by decide) rfl rfl inlX3 1 (by decide) mw_19 rfl dX3_prepareSums_1 ?_
  refine lv_aload_n hx hb dX3_prepareSums_4 rfl (lv_at hl 0 rfl) ?_
  refine ng_get hx hb hts hown hK hH 0 (by decide) rfl rfl inlX3 0 (by decide) mw_15 rfl dX3_prepareSums_5 ?_
  refine ng_get hx hb hts hown hK hH 1 (by decide) rfl rfl inlX1 5 (by decide) mw_191 rfl dX3_prepareSums_8 ?_
  obtain ⟨q1, hc2, hg⟩ := ob_b hg
  refine ng_cv (ng_rV hx hb hml hown hts hK hH (As := [.int (σ 1 5)]) (rest := []) 9 (cS_begin l D cI cZ cA h hi (σ 1 5) σ q1 hc2 _) (by decide) rfl rfl mw_197 mw_198 mw_199 mw_18 mw_200 pdX2_begin ⟨by rw [hR]; show _ ≤ _; simp only [nRm]; omega, by rw [hR]; show _ ≤ _; simp only [nRm]; omega⟩ hl.1 rfl (Nat.le_of_ble_eq_true rfl) dX3_prepareSums_11 ⟨Nat.zero_le _, Nat.zero_le _⟩) hH (fun H locs hH => ?_)
  refine lv_iconst (v := (0 : Int32)) hx hb dX3_prepareSums_14 (by decide) ?_
  refine lv_istore_n (lv' := [(1, .int (0 : Int32)), (0, .ref (h 0))]) hx hb dX3_prepareSums_15 rfl hl (by decide) rfl (fun ls hl => ?_)
  have LP_16 : ∀ (K_16 : nS → Option nS) (kk_16 : ∀ (σe_16 : nS) (H : Heap) (locs : List Loc) (ls : Array Slot), K_16 σe_16 = some q → nH D 48 (cfC cI cZ cA h) h (nAd 48 h sz) s.heap σe_16 H locs → lv_has ls 2 [] → W p l e R s m args below meth c H locs 0 0 Q (F0 m 80 ls [])) (n : Nat) (v1_16 : Int32) (σl_16 : nS) (H : Heap) (locs : List Loc) (ls : Array Slot), gC_prepareSums_L16 K_16 n v1_16 σl_16 = some q → nH D 48 (cfC cI cZ cA h) h (nAd 48 h sz) s.heap σl_16 H locs → lv_has ls 2 [(0, .ref (h 0)), (1, .int v1_16)] → W p l e R s m args below meth c H locs 0 0 Q (F0 m 16 ls []) := by
    intro K_16 kk_16 n
    induction n with
    | zero => intro v1_16 σl_16 H locs ls hg hH hl; rw [gC_prepareSums_L16] at hg; exact ob_n hg
    | succ n ih_16 =>
      intro v1_16 σl_16 H locs ls hg hH hl
      rw [gC_prepareSums_L16] at hg
      refine lv_iload_n hx hb dX3_prepareSums_16 rfl (lv_at hl 1 rfl) ?_
      refine lv_aload_n hx hb dX3_prepareSums_17 rfl (lv_at hl 0 rfl) ?_
      refine ng_get hx hb hts hown hK hH 0 (by decide) rfl rfl inlX3 0 (by decide) mw_15 rfl dX3_prepareSums_18 ?_
      refine ng_get hx hb hts hown hK hH 1 (by decide) rfl rfl inlX1 6 (by decide) mw_192 rfl dX3_prepareSums_21 ?_
      refine lv_icmp_ge (tgt := 80) hx hb dX3_prepareSums_24 (by decide) (fun c3 => ?_) (fun c3 => ?_)
      · replace hg := ob_t c3 hg
        exact kk_16 σl_16 H locs ls hg hH (lv_sub hl [] rfl)
      · replace hg := ob_f c3 hg
        refine lv_aload_n hx hb dX3_prepareSums_27 rfl (lv_at hl 0 rfl) ?_
        refine ng_get hx hb hts hown hK hH 0 (by decide) rfl rfl inlX3 0 (by decide) mw_15 rfl dX3_prepareSums_28 ?_
        refine ng_get hx hb hts hown hK hH 1 (by decide) rfl rfl inlX1 4 (by decide) mw_193 rfl dX3_prepareSums_31 ?_
        refine lv_iload_n hx hb dX3_prepareSums_34 rfl (lv_at hl 1 rfl) ?_
        obtain ⟨hb4, hg⟩ := ob_i hg
        refine ng_zald hx hb hK hH 6 (by decide) (fun _ => rfl) hb4 dX3_prepareSums_35 ?_
        refine lv_if_ne (tgt := 74) hx hb dX3_prepareSums_36 (by decide) (fun c5 => ?_) (fun c5 => ?_)
        · replace hg := ob_f c5 hg
          refine lv_iinc (v := (v1_16 + 1)) (lv' := [(1, .int (v1_16 + 1)), (0, .ref (h 0))]) hx hb dX3_prepareSums_74 hl (k := 1) rfl rfl (by decide) rfl (fun ls hl => ?_)
          refine lv_goto (tgt := 16) hx hb dX3_prepareSums_77 (by decide) ?_
          exact ih_16 (v1_16 + 1) σl_16 H locs ls hg hH (lv_sub hl [1, 0] rfl)
        · replace hg := ob_t c5 hg
          refine lv_aload_n hx hb dX3_prepareSums_39 rfl (lv_at hl 0 rfl) ?_
          refine ng_get hx hb hts hown hK hH 0 (by decide) rfl rfl inlX3 1 (by decide) mw_19 rfl dX3_prepareSums_40 ?_
          refine lv_aload_n hx hb dX3_prepareSums_43 rfl (lv_at hl 0 rfl) ?_
          refine ng_get hx hb hts hown hK hH 0 (by decide) rfl rfl inlX3 0 (by decide) mw_15 rfl dX3_prepareSums_44 ?_
          refine ng_get hx hb hts hown hK hH 1 (by decide) rfl rfl inlX1 0 (by decide) mw_194 rfl dX3_prepareSums_47 ?_
          refine lv_iload_n hx hb dX3_prepareSums_50 rfl (lv_at hl 1 rfl) ?_
          obtain ⟨hb6, hg⟩ := ob_i hg
          refine ng_iald hx hb hK hH 2 (by decide) (fun _ => rfl) hb6 dX3_prepareSums_51 ?_
          refine lv_aload_n hx hb dX3_prepareSums_52 rfl (lv_at hl 0 rfl) ?_
          refine ng_get hx hb hts hown hK hH 0 (by decide) rfl rfl inlX3 0 (by decide) mw_15 rfl dX3_prepareSums_53 ?_
          refine ng_get hx hb hts hown hK hH 1 (by decide) rfl rfl inlX1 1 (by decide) mw_195 rfl dX3_prepareSums_56 ?_
          refine lv_iload_n hx hb dX3_prepareSums_59 rfl (lv_at hl 1 rfl) ?_
          obtain ⟨hb7, hg⟩ := ob_i hg
          refine ng_iald hx hb hK hH 3 (by decide) (fun _ => rfl) hb7 dX3_prepareSums_60 ?_
          refine lv_aload_n hx hb dX3_prepareSums_61 rfl (lv_at hl 0 rfl) ?_
          refine ng_get hx hb hts hown hK hH 0 (by decide) rfl rfl inlX3 0 (by decide) mw_15 rfl dX3_prepareSums_62 ?_
          refine ng_get hx hb hts hown hK hH 1 (by decide) rfl rfl inlX1 2 (by decide) mw_196 rfl dX3_prepareSums_65 ?_
          refine lv_iload_n hx hb dX3_prepareSums_68 rfl (lv_at hl 1 rfl) ?_
          obtain ⟨hb8, hg⟩ := ob_i hg
          refine ng_iald hx hb hK hH 4 (by decide) (fun _ => rfl) hb8 dX3_prepareSums_69 ?_
          refine lv_iconst (v := (0 : Int32)) hx hb dX3_prepareSums_70 (by decide) ?_
          obtain ⟨q9, hc10, hg⟩ := ob_b hg
          refine ng_cv (ng_rV hx hb hml hown hts hK hH (As := [.int (σl_16 2 v1_16.toNatClampNeg), .int (σl_16 3 v1_16.toNatClampNeg), .int (σl_16 4 v1_16.toNatClampNeg), .int (0 : Int32)]) (rest := []) 9 (cS_addCost l D cI cZ cA h hi (σl_16 2 v1_16.toNatClampNeg) (σl_16 3 v1_16.toNatClampNeg) (σl_16 4 v1_16.toNatClampNeg) (0 : Int32) σl_16 q9 hc10 _) (by decide) rfl rfl mw_205 mw_206 mw_207 mw_18 mw_208 pdX2_addCost ⟨by rw [hR]; show _ ≤ _; simp only [nRm]; omega, by rw [hR]; show _ ≤ _; simp only [nRm]; omega⟩ hl.1 rfl (Nat.le_of_ble_eq_true rfl) dX3_prepareSums_71 ⟨Nat.zero_le _, Nat.zero_le _⟩) hH (fun H locs hH => ?_)
          refine lv_iinc (v := (v1_16 + 1)) (lv' := [(1, .int (v1_16 + 1)), (0, .ref (h 0))]) hx hb dX3_prepareSums_74 hl (k := 1) rfl rfl (by decide) rfl (fun ls hl => ?_)
          refine lv_goto (tgt := 16) hx hb dX3_prepareSums_77 (by decide) ?_
          exact ih_16 (v1_16 + 1) q9 H locs ls hg hH (lv_sub hl [1, 0] rfl)
  refine LP_16 _ ?_ _ _ _ _ _ _ hg hH (lv_sub hl [1, 0] rfl)
  intro σe_16 H locs ls hg hH hl
  subst hQ
  exact ng_vret hx hb hr hlk (Option.some.inj hg) hH dX3_prepareSums_80
set_option maxHeartbeats 8000000 in
set_option maxRecDepth 100000 in
theorem cS_keepApartFrom (l : Launch) (D : va_G) (cI cZ cA : ClassId) (h : Nat → Nat) (hi : nInj 48 h) (p1 p2 : Int32) (σ : nS) (q : nS) (hg : gS_keepApartFrom p1 p2 σ = some q) : nMv l yX2_keepApartFrom cX2_keepApartFrom 3 none 1 D cI cZ cA 48 (cfC cI cZ cA h) h [.ref (h 9), .int p1, .int p2] σ q := by
  unfold gS_keepApartFrom at hg
  refine ng_body_v (by decide) hi (Nat.le_of_ble_eq_true rfl) ?_
  intro p e R s m args below meth c sz Q ls hx hb hml hr hlk hts hown hK hR hQ hl hH
  have hown : s.vm.findClass RX2 = some m.cls := hown
  have hl : lv_has ls 3 [(0, .ref (h 9)), (1, .int p1), (2, .int p2)] := hl
  refine lv_aload_n hx hb dX2_keepApartFrom_0 rfl (lv_at hl 0 rfl) ?_
  refine ng_get hx hb hts hown hK hH 9 (by decide) rfl rfl inlX2 3 (by decide) mw_48 rfl dX2_keepApartFrom_1 ?_
  refine lv_iload_n hx hb dX2_keepApartFrom_4 rfl (lv_at hl 1 rfl) ?_
  refine lv_dup2_11 hx hb dX2_keepApartFrom_5 rfl rfl ?_
  obtain ⟨hb1, hg⟩ := ob_i hg
  refine ng_iald hx hb hK hH 40 (by decide) (fun _ => rfl) hb1 dX2_keepApartFrom_6 ?_
  refine lv_iload_n hx hb dX2_keepApartFrom_7 rfl (lv_at hl 2 rfl) ?_
  refine lv_ior hx hb dX2_keepApartFrom_8 ?_
  obtain ⟨hb2, hg⟩ := ob_i hg
  refine ng_iast hx hb hK hH 40 (by decide) (fun _ => rfl) hb2 dX2_keepApartFrom_9 (fun H locs hH => ?_)
  subst hQ
  exact ng_vret hx hb hr hlk (Option.some.inj hg) hH dX2_keepApartFrom_10
set_option maxHeartbeats 8000000 in
set_option maxRecDepth 100000 in
theorem cS_keepApart (l : Launch) (D : va_G) (cI cZ cA : ClassId) (h : Nat → Nat) (hi : nInj 48 h) (p1 p2 : Int32) (σ : nS) (q : nS) (hg : gS_keepApart p1 p2 σ = some q) : nMv l yX2_keepApart cX2_keepApart 3 none 2 D cI cZ cA 48 (cfC cI cZ cA h) h [.ref (h 9), .int p1, .int p2] σ q := by
  unfold gS_keepApart at hg
  refine ng_body_v (by decide) hi (Nat.le_of_ble_eq_true rfl) ?_
  intro p e R s m args below meth c sz Q ls hx hb hml hr hlk hts hown hK hR hQ hl hH
  have hown : s.vm.findClass RX2 = some m.cls := hown
  have hl : lv_has ls 3 [(0, .ref (h 9)), (1, .int p1), (2, .int p2)] := hl
  refine lv_aload_n hx hb dX2_keepApart_0 rfl (lv_at hl 0 rfl) ?_
  refine lv_iload_n hx hb dX2_keepApart_1 rfl (lv_at hl 1 rfl) ?_
  refine lv_iconst (v := (1 : Int32)) hx hb dX2_keepApart_2 (by decide) ?_
  refine lv_iload_n hx hb dX2_keepApart_3 rfl (lv_at hl 2 rfl) ?_
  refine lv_ishl hx hb dX2_keepApart_4 ?_
  obtain ⟨q1, hc2, hg⟩ := ob_b hg
  refine ng_cv (ng_rV hx hb hml hown hts hK hH (As := [.int p1, .int ((1 : Int32) <<< (p2 &&& 31))]) (rest := []) 9 (cS_keepApartFrom l D cI cZ cA h hi p1 ((1 : Int32) <<< (p2 &&& 31)) σ q1 hc2 _) (by decide) rfl rfl mw_216 mw_217 mw_218 mw_18 mw_219 pdX2_keepApartFrom ⟨by rw [hR]; show _ ≤ _; simp only [nRm]; omega, by rw [hR]; show _ ≤ _; simp only [nRm]; omega⟩ hl.1 rfl (Nat.le_of_ble_eq_true rfl) dX2_keepApart_5 ⟨Nat.zero_le _, Nat.zero_le _⟩) hH (fun H locs hH => ?_)
  refine lv_aload_n hx hb dX2_keepApart_8 rfl (lv_at hl 0 rfl) ?_
  refine lv_iload_n hx hb dX2_keepApart_9 rfl (lv_at hl 2 rfl) ?_
  refine lv_iconst (v := (1 : Int32)) hx hb dX2_keepApart_10 (by decide) ?_
  refine lv_iload_n hx hb dX2_keepApart_11 rfl (lv_at hl 1 rfl) ?_
  refine lv_ishl hx hb dX2_keepApart_12 ?_
  obtain ⟨q3, hc4, hg⟩ := ob_b hg
  refine ng_cv (ng_rV hx hb hml hown hts hK hH (As := [.int p2, .int ((1 : Int32) <<< (p1 &&& 31))]) (rest := []) 9 (cS_keepApartFrom l D cI cZ cA h hi p2 ((1 : Int32) <<< (p1 &&& 31)) q1 q3 hc4 _) (by decide) rfl rfl mw_216 mw_217 mw_218 mw_18 mw_219 pdX2_keepApartFrom ⟨by rw [hR]; show _ ≤ _; simp only [nRm]; omega, by rw [hR]; show _ ≤ _; simp only [nRm]; omega⟩ hl.1 rfl (Nat.le_of_ble_eq_true rfl) dX2_keepApart_13 ⟨Nat.zero_le _, Nat.zero_le _⟩) hH (fun H locs hH => ?_)
  subst hQ
  exact ng_vret hx hb hr hlk (Option.some.inj hg) hH dX2_keepApart_16
set_option maxHeartbeats 8000000 in
set_option maxRecDepth 100000 in
theorem cS_keepBest (l : Launch) (D : va_G) (cI cZ cA : ClassId) (h : Nat → Nat) (hi : nInj 48 h) (p1 : Int32) (σ : nS) (q : nS) (hg : gS_keepBest p1 σ = some q) : nMv l yX2_keepBest cX2_keepBest 3 none 1 D cI cZ cA 48 (cfC cI cZ cA h) h [.ref (h 9), .int p1] σ q := by
  unfold gS_keepBest at hg
  refine ng_body_v (by decide) hi (Nat.le_of_ble_eq_true rfl) ?_
  intro p e R s m args below meth c sz Q ls hx hb hml hr hlk hts hown hK hR hQ hl hH
  have hown : s.vm.findClass RX2 = some m.cls := hown
  have hl : lv_has ls 3 [(0, .ref (h 9)), (1, .int p1)] := hl
  refine lv_aload_n hx hb dX2_keepBest_0 rfl (lv_at hl 0 rfl) ?_
  refine lv_iload_n hx hb dX2_keepBest_1 rfl (lv_at hl 1 rfl) ?_
  refine ng_put hx hb hts hown hK hH 9 (by decide) rfl rfl inlX2 tyX2 tyX2_ok nmX2 11 (by decide) mw_57 rfl (by decide +kernel) (Nat.le_of_ble_eq_true rfl) rfl dX2_keepBest_2 (fun H locs hH => ?_)
  refine lv_iconst (v := (0 : Int32)) hx hb dX2_keepBest_5 (by decide) ?_
  refine lv_istore_n (lv' := [(2, .int (0 : Int32)), (0, .ref (h 9)), (1, .int p1)]) hx hb dX2_keepBest_6 rfl hl (by decide) rfl (fun ls hl => ?_)
  have LP_7 : ∀ (K_7 : nS → Option nS) (kk_7 : ∀ (σe_7 : nS) (H : Heap) (locs : List Loc) (ls : Array Slot), K_7 σe_7 = some q → nH D 48 (cfC cI cZ cA h) h (nAd 48 h sz) s.heap σe_7 H locs → lv_has ls 3 [] → W p l e R s m args below meth c H locs 0 0 Q (F0 m 33 ls [])) (n : Nat) (v2_7 : Int32) (σl_7 : nS) (H : Heap) (locs : List Loc) (ls : Array Slot), gS_keepBest_L7 K_7 n v2_7 σl_7 = some q → nH D 48 (cfC cI cZ cA h) h (nAd 48 h sz) s.heap σl_7 H locs → lv_has ls 3 [(0, .ref (h 9)), (2, .int v2_7)] → W p l e R s m args below meth c H locs 0 0 Q (F0 m 7 ls []) := by
    intro K_7 kk_7 n
    induction n with
    | zero => intro v2_7 σl_7 H locs ls hg hH hl; rw [gS_keepBest_L7] at hg; exact ob_n hg
    | succ n ih_7 =>
      intro v2_7 σl_7 H locs ls hg hH hl
      rw [gS_keepBest_L7] at hg
      refine lv_iload_n hx hb dX2_keepBest_7 rfl (lv_at hl 1 rfl) ?_
      refine lv_aload_n hx hb dX2_keepBest_8 rfl (lv_at hl 0 rfl) ?_
      refine ng_get hx hb hts hown hK hH 9 (by decide) rfl rfl inlX2 8 (by decide) mw_53 rfl dX2_keepBest_9 ?_
      refine lv_icmp_ge (tgt := 33) hx hb dX2_keepBest_12 (by decide) (fun c1 => ?_) (fun c1 => ?_)
      · replace hg := ob_t c1 hg
        exact kk_7 σl_7 H locs ls hg hH (lv_sub hl [] rfl)
      · replace hg := ob_f c1 hg
        refine lv_aload_n hx hb dX2_keepBest_15 rfl (lv_at hl 0 rfl) ?_
        refine ng_get hx hb hts hown hK hH 9 (by decide) rfl rfl inlX2 7 (by decide) mw_52 rfl dX2_keepBest_16 ?_
        refine lv_iload_n hx hb dX2_keepBest_19 rfl (lv_at hl 1 rfl) ?_
        refine lv_aload_n hx hb dX2_keepBest_20 rfl (lv_at hl 0 rfl) ?_
        refine ng_get hx hb hts hown hK hH 9 (by decide) rfl rfl inlX2 6 (by decide) mw_51 rfl dX2_keepBest_21 ?_
        refine lv_iload_n hx hb dX2_keepBest_24 rfl (lv_at hl 1 rfl) ?_
        obtain ⟨hb2, hg⟩ := ob_i hg
        refine ng_iald hx hb hK hH 43 (by decide) (fun _ => rfl) hb2 dX2_keepBest_25 ?_
        obtain ⟨hb3, hg⟩ := ob_i hg
        refine ng_iast hx hb hK hH 44 (by decide) (fun _ => rfl) hb3 dX2_keepBest_26 (fun H locs hH => ?_)
        refine lv_iinc (v := (v2_7 + 1)) (lv' := [(2, .int (v2_7 + 1)), (0, .ref (h 9))]) hx hb dX2_keepBest_27 hl (k := 1) rfl rfl (by decide) rfl (fun ls hl => ?_)
        refine lv_goto (tgt := 7) hx hb dX2_keepBest_30 (by decide) ?_
        exact ih_7 (v2_7 + 1) (nst σl_7 44 v2_7.toNatClampNeg (σl_7 43 v2_7.toNatClampNeg)) H locs ls hg hH (lv_sub hl [1, 0] rfl)
  refine LP_7 _ ?_ _ _ _ _ _ _ hg hH (lv_sub hl [1, 0] rfl)
  intro σe_7 H locs ls hg hH hl
  subst hQ
  exact ng_vret hx hb hr hlk (Option.some.inj hg) hH dX2_keepBest_33
set_option maxHeartbeats 8000000 in
set_option maxRecDepth 100000 in
theorem cS_weigh (l : Launch) (D : va_G) (cI cZ cA : ClassId) (h : Nat → Nat) (hi : nInj 48 h) (p1 p2 : Int32) (σ : nS) (q : nS) (hg : gS_weigh p1 p2 σ = some q) : nMv l yX2_weigh cX2_weigh 5 none 1 D cI cZ cA 48 (cfC cI cZ cA h) h [.ref (h 9), .int p1, .int p2] σ q := by
  unfold gS_weigh at hg
  refine ng_body_v (by decide) hi (Nat.le_of_ble_eq_true rfl) ?_
  intro p e R s m args below meth c sz Q ls hx hb hml hr hlk hts hown hK hR hQ hl hH
  have hown : s.vm.findClass RX2 = some m.cls := hown
  have hl : lv_has ls 5 [(0, .ref (h 9)), (1, .int p1), (2, .int p2)] := hl
  have JP_61 : ∀ (b1 : Int32) (σ1 : nS) (H : Heap) (locs : List Loc) (ls : Array Slot), gS_weigh_J61 b1 σ1 = some q → nH D 48 (cfC cI cZ cA h) h (nAd 48 h sz) s.heap σ1 H locs → lv_has ls 5 [(0, .ref (h 9)), (1, .int b1)] → W p l e R s m args below meth c H locs 0 0 Q (F0 m 61 ls []) := by
    intro b1 σ1 H locs ls hg hH hl
    unfold gS_weigh_J61 at hg
    refine lv_iconst (v := (0 : Int32)) hx hb dX2_weigh_61 (by decide) ?_
    refine lv_istore (lv' := [(4, .int (0 : Int32)), (0, .ref (h 9)), (1, .int b1)]) hx hb dX2_weigh_62 hl (by decide) rfl (fun ls hl => ?_)
    have LP_64 : ∀ (K_64 : nS → Option nS) (kk_64 : ∀ (σe_64 : nS) (H : Heap) (locs : List Loc) (ls : Array Slot), K_64 σe_64 = some q → nH D 48 (cfC cI cZ cA h) h (nAd 48 h sz) s.heap σe_64 H locs → lv_has ls 5 [] → W p l e R s m args below meth c H locs 0 0 Q (F0 m 112 ls [])) (n : Nat) (v4_64 : Int32) (σl_64 : nS) (H : Heap) (locs : List Loc) (ls : Array Slot), gS_weigh_L64 b1 K_64 n v4_64 σl_64 = some q → nH D 48 (cfC cI cZ cA h) h (nAd 48 h sz) s.heap σl_64 H locs → lv_has ls 5 [(0, .ref (h 9)), (1, .int b1), (4, .int v4_64)] → W p l e R s m args below meth c H locs 0 0 Q (F0 m 64 ls []) := by
      intro K_64 kk_64 n
      induction n with
      | zero => intro v4_64 σl_64 H locs ls hg hH hl; rw [gS_weigh_L64] at hg; exact ob_n hg
      | succ n ih_64 =>
        intro v4_64 σl_64 H locs ls hg hH hl
        rw [gS_weigh_L64] at hg
        refine lv_iload hx hb dX2_weigh_64 (lv_at hl 2 rfl) ?_
        refine lv_iload_n hx hb dX2_weigh_66 rfl (lv_at hl 1 rfl) ?_
        refine lv_icmp_ge (tgt := 112) hx hb dX2_weigh_67 (by decide) (fun c8 => ?_) (fun c8 => ?_)
        · replace hg := ob_t c8 hg
          exact kk_64 σl_64 H locs ls hg hH (lv_sub hl [] rfl)
        · replace hg := ob_f c8 hg
          refine lv_aload_n hx hb dX2_weigh_70 rfl (lv_at hl 0 rfl) ?_
          refine ng_get hx hb hts hown hK hH 9 (by decide) rfl rfl inlX2 2 (by decide) mw_47 rfl dX2_weigh_71 ?_
          refine lv_iload_n hx hb dX2_weigh_74 rfl (lv_at hl 1 rfl) ?_
          obtain ⟨hb9, hg⟩ := ob_i hg
          refine ng_aald hx hb hK hH 30 (by decide) 31 (fun _ => rfl) hb9 dX2_weigh_75 ?_
          refine lv_aload_n hx hb dX2_weigh_76 rfl (lv_at hl 0 rfl) ?_
          refine ng_get hx hb hts hown hK hH 9 (by decide) rfl rfl inlX2 6 (by decide) mw_51 rfl dX2_weigh_77 ?_
          refine lv_iload hx hb dX2_weigh_80 (lv_at hl 2 rfl) ?_
          obtain ⟨hb10, hg⟩ := ob_i hg
          refine ng_iald hx hb hK hH 43 (by decide) (fun _ => rfl) hb10 dX2_weigh_82 ?_
          refine lv_dup2_11 hx hb dX2_weigh_83 rfl rfl ?_
          obtain ⟨hb11, hg⟩ := ob_i hg
          refine ng_iald hx hb hK hH (31 + b1.toNatClampNeg) (rwC_lt31 hb9) (rwC_cf31 hb9) hb11 dX2_weigh_84 ?_
          refine lv_aload_n hx hb dX2_weigh_85 rfl (lv_at hl 0 rfl) ?_
          refine ng_get hx hb hts hown hK hH 9 (by decide) rfl rfl inlX2 1 (by decide) mw_46 rfl dX2_weigh_86 ?_
          refine lv_iload_n hx hb dX2_weigh_89 rfl (lv_at hl 1 rfl) ?_
          obtain ⟨hb12, hg⟩ := ob_i hg
          refine ng_aald hx hb hK hH 20 (by decide) 21 (fun _ => rfl) hb12 dX2_weigh_90 ?_
          refine lv_iload hx hb dX2_weigh_91 (lv_at hl 2 rfl) ?_
          obtain ⟨hb13, hg⟩ := ob_i hg
          refine ng_iald hx hb hK hH (21 + b1.toNatClampNeg) (rwC_lt21 hb12) (rwC_cf21 hb12) hb13 dX2_weigh_93 ?_
          refine lv_aload_n hx hb dX2_weigh_94 rfl (lv_at hl 0 rfl) ?_
          refine ng_get hx hb hts hown hK hH 9 (by decide) rfl rfl inlX2 0 (by decide) mw_45 rfl dX2_weigh_95 ?_
          refine lv_iload_n hx hb dX2_weigh_98 rfl (lv_at hl 1 rfl) ?_
          obtain ⟨hb14, hg⟩ := ob_i hg
          refine ng_aald hx hb hK hH 10 (by decide) 11 (fun _ => rfl) hb14 dX2_weigh_99 ?_
          refine lv_iload hx hb dX2_weigh_100 (lv_at hl 2 rfl) ?_
          obtain ⟨hb15, hg⟩ := ob_i hg
          refine ng_iald hx hb hK hH (11 + b1.toNatClampNeg) (rwC_lt11 hb14) (rwC_cf11 hb14) hb15 dX2_weigh_102 ?_
          refine lv_isub hx hb dX2_weigh_103 ?_
          refine lv_iadd hx hb dX2_weigh_104 ?_
          obtain ⟨hb16, hg⟩ := ob_i hg
          refine ng_iast hx hb hK hH (31 + b1.toNatClampNeg) (rwC_lt31 hb9) (rwC_cf31 hb9) hb16 dX2_weigh_105 (fun H locs hH => ?_)
          refine lv_iinc (v := (v4_64 + 1)) (lv' := [(4, .int (v4_64 + 1)), (0, .ref (h 9)), (1, .int b1)]) hx hb dX2_weigh_106 hl (k := 2) rfl rfl (by decide) rfl (fun ls hl => ?_)
          refine lv_goto (tgt := 64) hx hb dX2_weigh_109 (by decide) ?_
          exact ih_64 (v4_64 + 1) (nst σl_64 (31 + b1.toNatClampNeg) (σl_64 43 v4_64.toNatClampNeg).toNatClampNeg ((σl_64 (31 + b1.toNatClampNeg) (σl_64 43 v4_64.toNatClampNeg).toNatClampNeg) + ((σl_64 (21 + b1.toNatClampNeg) v4_64.toNatClampNeg) - (σl_64 (11 + b1.toNatClampNeg) v4_64.toNatClampNeg)))) H locs ls hg hH (lv_sub hl [1, 2, 0] rfl)
    refine LP_64 _ ?_ _ _ _ _ _ _ hg hH (lv_sub hl [1, 2, 0] rfl)
    intro σe_64 H locs ls hg hH hl
    subst hQ
    exact ng_vret hx hb hr hlk (Option.some.inj hg) hH dX2_weigh_112
  refine lv_iconst (v := (0 : Int32)) hx hb dX2_weigh_0 (by decide) ?_
  refine lv_istore_n (lv' := [(3, .int (0 : Int32)), (0, .ref (h 9)), (1, .int p1), (2, .int p2)]) hx hb dX2_weigh_1 rfl hl (by decide) rfl (fun ls hl => ?_)
  refine lv_iconst (v := (0 : Int32)) hx hb dX2_weigh_2 (by decide) ?_
  refine lv_istore (lv' := [(4, .int (0 : Int32)), (3, .int (0 : Int32)), (0, .ref (h 9)), (1, .int p1), (2, .int p2)]) hx hb dX2_weigh_3 hl (by decide) rfl (fun ls hl => ?_)
  have LP_5 : ∀ (K_5 : Int32 → Option nS) (kk_5 : ∀ (w3_5 : Int32) (H : Heap) (locs : List Loc) (ls : Array Slot), K_5 w3_5 = some q → nH D 48 (cfC cI cZ cA h) h (nAd 48 h sz) s.heap σ H locs → lv_has ls 5 [(0, .ref (h 9)), (1, .int p1), (2, .int p2), (3, .int w3_5)] → W p l e R s m args below meth c H locs 0 0 Q (F0 m 29 ls [])) (n : Nat) (v3_5 v4_5 : Int32) (H : Heap) (locs : List Loc) (ls : Array Slot), gS_weigh_L5 p1 p2 σ K_5 n v3_5 v4_5 = some q → nH D 48 (cfC cI cZ cA h) h (nAd 48 h sz) s.heap σ H locs → lv_has ls 5 [(0, .ref (h 9)), (1, .int p1), (2, .int p2), (3, .int v3_5), (4, .int v4_5)] → W p l e R s m args below meth c H locs 0 0 Q (F0 m 5 ls []) := by
    intro K_5 kk_5 n
    induction n with
    | zero => intro v3_5 v4_5 H locs ls hg hH hl; rw [gS_weigh_L5] at hg; exact ob_n hg
    | succ n ih_5 =>
      intro v3_5 v4_5 H locs ls hg hH hl
      rw [gS_weigh_L5] at hg
      refine lv_iload hx hb dX2_weigh_5 (lv_at hl 4 rfl) ?_
      refine lv_iload_n hx hb dX2_weigh_7 rfl (lv_at hl 1 rfl) ?_
      refine lv_icmp_ge (tgt := 29) hx hb dX2_weigh_8 (by decide) (fun c5 => ?_) (fun c5 => ?_)
      · replace hg := ob_t c5 hg
        exact kk_5 v3_5 H locs ls hg hH (lv_sub hl [0, 1, 2, 3] rfl)
      · replace hg := ob_f c5 hg
        refine lv_iload_n hx hb dX2_weigh_11 rfl (lv_at hl 3 rfl) ?_
        refine lv_aload_n hx hb dX2_weigh_12 rfl (lv_at hl 0 rfl) ?_
        refine ng_get hx hb hts hown hK hH 9 (by decide) rfl rfl inlX2 0 (by decide) mw_45 rfl dX2_weigh_13 ?_
        refine lv_iload_n hx hb dX2_weigh_16 rfl (lv_at hl 1 rfl) ?_
        obtain ⟨hb6, hg⟩ := ob_i hg
        refine ng_aald hx hb hK hH 10 (by decide) 11 (fun _ => rfl) hb6 dX2_weigh_17 ?_
        refine lv_iload hx hb dX2_weigh_18 (lv_at hl 4 rfl) ?_
        obtain ⟨hb7, hg⟩ := ob_i hg
        refine ng_iald hx hb hK hH (11 + p1.toNatClampNeg) (rwC_lt11 hb6) (rwC_cf11 hb6) hb7 dX2_weigh_20 ?_
        refine lv_iadd hx hb dX2_weigh_21 ?_
        refine lv_istore_n (lv' := [(3, .int (v3_5 + (σ (11 + p1.toNatClampNeg) v4_5.toNatClampNeg))), (0, .ref (h 9)), (1, .int p1), (2, .int p2), (4, .int v4_5)]) hx hb dX2_weigh_22 rfl hl (by decide) rfl (fun ls hl => ?_)
        refine lv_iinc (v := (v4_5 + 1)) (lv' := [(4, .int (v4_5 + 1)), (3, .int (v3_5 + (σ (11 + p1.toNatClampNeg) v4_5.toNatClampNeg))), (0, .ref (h 9)), (1, .int p1), (2, .int p2)]) hx hb dX2_weigh_23 hl (k := 4) rfl rfl (by decide) rfl (fun ls hl => ?_)
        refine lv_goto (tgt := 5) hx hb dX2_weigh_26 (by decide) ?_
        exact ih_5 (v3_5 + (σ (11 + p1.toNatClampNeg) v4_5.toNatClampNeg)) (v4_5 + 1) H locs ls hg hH (lv_sub hl [2, 3, 4, 1, 0] rfl)
  refine LP_5 _ ?_ _ _ _ _ _ _ hg hH (lv_sub hl [2, 3, 4, 1, 0] rfl)
  intro w3_5 H locs ls hg hH hl
  refine lv_iconst (v := (0 : Int32)) hx hb dX2_weigh_29 (by decide) ?_
  refine lv_istore (lv' := [(4, .int (0 : Int32)), (0, .ref (h 9)), (1, .int p1), (2, .int p2), (3, .int w3_5)]) hx hb dX2_weigh_30 hl (by decide) rfl (fun ls hl => ?_)
  have LP_32 : ∀ (K_32 : nS → Option nS) (kk_32 : ∀ (σe_32 : nS) (H : Heap) (locs : List Loc) (ls : Array Slot), K_32 σe_32 = some q → nH D 48 (cfC cI cZ cA h) h (nAd 48 h sz) s.heap σe_32 H locs → lv_has ls 5 [(0, .ref (h 9)), (1, .int p1)] → W p l e R s m args below meth c H locs 0 0 Q (F0 m 61 ls [])) (n : Nat) (v4_32 : Int32) (σl_32 : nS) (H : Heap) (locs : List Loc) (ls : Array Slot), gS_weigh_L32 p1 p2 w3_5 K_32 n v4_32 σl_32 = some q → nH D 48 (cfC cI cZ cA h) h (nAd 48 h sz) s.heap σl_32 H locs → lv_has ls 5 [(0, .ref (h 9)), (1, .int p1), (2, .int p2), (3, .int w3_5), (4, .int v4_32)] → W p l e R s m args below meth c H locs 0 0 Q (F0 m 32 ls []) := by
    intro K_32 kk_32 n
    induction n with
    | zero => intro v4_32 σl_32 H locs ls hg hH hl; rw [gS_weigh_L32] at hg; exact ob_n hg
    | succ n ih_32 =>
      intro v4_32 σl_32 H locs ls hg hH hl
      rw [gS_weigh_L32] at hg
      refine lv_iload hx hb dX2_weigh_32 (lv_at hl 4 rfl) ?_
      refine lv_iload_n hx hb dX2_weigh_34 rfl (lv_at hl 2 rfl) ?_
      refine lv_icmp_gt (tgt := 61) hx hb dX2_weigh_35 (by decide) (fun c1 => ?_) (fun c1 => ?_)
      · replace hg := ob_t c1 hg
        exact kk_32 σl_32 H locs ls hg hH (lv_sub hl [0, 1] rfl)
      · replace hg := ob_f c1 hg
        refine lv_iload hx hb dX2_weigh_38 (lv_at hl 4 rfl) ?_
        refine lv_bipush (v := (9 : Int32)) hx hb dX2_weigh_40 (by decide) ?_
        refine lv_icmp_ge (tgt := 61) hx hb dX2_weigh_42 (by decide) (fun c2 => ?_) (fun c2 => ?_)
        · replace hg := ob_t c2 hg
          exact kk_32 σl_32 H locs ls hg hH (lv_sub hl [0, 1] rfl)
        · replace hg := ob_f c2 hg
          refine lv_aload_n hx hb dX2_weigh_45 rfl (lv_at hl 0 rfl) ?_
          refine ng_get hx hb hts hown hK hH 9 (by decide) rfl rfl inlX2 2 (by decide) mw_47 rfl dX2_weigh_46 ?_
          refine lv_iload_n hx hb dX2_weigh_49 rfl (lv_at hl 1 rfl) ?_
          obtain ⟨hb3, hg⟩ := ob_i hg
          refine ng_aald hx hb hK hH 30 (by decide) 31 (fun _ => rfl) hb3 dX2_weigh_50 ?_
          refine lv_iload hx hb dX2_weigh_51 (lv_at hl 4 rfl) ?_
          refine lv_iload_n hx hb dX2_weigh_53 rfl (lv_at hl 3 rfl) ?_
          obtain ⟨hb4, hg⟩ := ob_i hg
          refine ng_iast hx hb hK hH (31 + p1.toNatClampNeg) (rwC_lt31 hb3) (rwC_cf31 hb3) hb4 dX2_weigh_54 (fun H locs hH => ?_)
          refine lv_iinc (v := (v4_32 + 1)) (lv' := [(4, .int (v4_32 + 1)), (0, .ref (h 9)), (1, .int p1), (2, .int p2), (3, .int w3_5)]) hx hb dX2_weigh_55 hl (k := 4) rfl rfl (by decide) rfl (fun ls hl => ?_)
          refine lv_goto (tgt := 32) hx hb dX2_weigh_58 (by decide) ?_
          exact ih_32 (v4_32 + 1) (nst σl_32 (31 + p1.toNatClampNeg) v4_32.toNatClampNeg w3_5) H locs ls hg hH (lv_sub hl [1, 2, 3, 4, 0] rfl)
  refine LP_32 _ ?_ _ _ _ _ _ _ hg hH (lv_sub hl [1, 2, 3, 4, 0] rfl)
  intro σe_32 H locs ls hg hH hl
  exact JP_61 p1 σe_32 H locs ls hg hH (lv_sub hl [0, 1] rfl)
