set_option maxHeartbeats 8000000 in
set_option maxRecDepth 100000 in
theorem cS_allows (l : Launch) (D : va_G) (cI cZ cA : ClassId) (h : Nat → Nat) (hi : nInj 48 h) (p1 p2 : Int32) (σ : nS) (q : Int32) (hg : gS_allows p1 p2 σ = some q) : nMi l yX2_allows cX2_allows 4 (some .boolean) 1 D cI cZ cA 48 (cfC cI cZ cA h) h [.ref (h 9), .int p1, .int p2] σ q σ := by
  unfold gS_allows at hg
  refine ng_body_i (by decide) hi (Nat.le_of_ble_eq_true rfl) ?_
  intro p e R s m args below meth c sz Q ls hx hb hml hr hlk hts hown hK hR hQ hl hH
  have hown : s.vm.findClass RX2 = some m.cls := hown
  have hl : lv_has ls 4 [(0, .ref (h 9)), (1, .int p1), (2, .int p2)] := hl
  refine lv_iconst (v := (1 : Int32)) hx hb dX2_allows_0 (by decide) ?_
  refine lv_iload_n hx hb dX2_allows_1 rfl (lv_at hl 1 rfl) ?_
  refine lv_ishl hx hb dX2_allows_2 ?_
  refine lv_iconst (v := (1 : Int32)) hx hb dX2_allows_3 (by decide) ?_
  refine lv_isub hx hb dX2_allows_4 ?_
  refine lv_istore_n (lv' := [(3, .int (((1 : Int32) <<< (p1 &&& 31)) - (1 : Int32))), (0, .ref (h 9)), (1, .int p1), (2, .int p2)]) hx hb dX2_allows_5 rfl hl (by decide) rfl (fun ls hl => ?_)
  refine lv_aload_n hx hb dX2_allows_6 rfl (lv_at hl 1 rfl) ?_
  refine ng_get hx hb hts hown hK hH 9 (by decide) rfl rfl inlX2 3 (by decide) mw_48 rfl dX2_allows_7 ?_
  refine lv_iload_n hx hb dX2_allows_10 rfl (lv_at hl 2 rfl) ?_
  obtain ⟨hb1, hg⟩ := ob_i hg
  refine ng_iald hx hb hK hH 40 (by decide) (fun _ => rfl) hb1 dX2_allows_11 ?_
  refine lv_aload_n hx hb dX2_allows_12 rfl (lv_at hl 1 rfl) ?_
  refine ng_get hx hb hts hown hK hH 9 (by decide) rfl rfl inlX2 5 (by decide) mw_50 rfl dX2_allows_13 ?_
  refine lv_iload_n hx hb dX2_allows_16 rfl (lv_at hl 3 rfl) ?_
  obtain ⟨hb2, hg⟩ := ob_i hg
  refine ng_iald hx hb hK hH 42 (by decide) (fun _ => rfl) hb2 dX2_allows_17 ?_
  refine lv_iand hx hb dX2_allows_18 ?_
  refine lv_if_ne (tgt := 46) hx hb dX2_allows_19 (by decide) (fun c3 => ?_) (fun c3 => ?_)
  · replace hg := ob_f c3 hg
    refine lv_iconst (v := (0 : Int32)) hx hb dX2_allows_46 (by decide) ?_
    subst hQ
    exact ng_zret hx hb hr hlk (by decide) (Option.some.inj hg) rfl hH dX2_allows_47
  · replace hg := ob_t c3 hg
    refine lv_aload_n hx hb dX2_allows_22 rfl (lv_at hl 1 rfl) ?_
    refine ng_get hx hb hts hown hK hH 9 (by decide) rfl rfl inlX2 4 (by decide) mw_49 rfl dX2_allows_23 ?_
    refine lv_iload_n hx hb dX2_allows_26 rfl (lv_at hl 2 rfl) ?_
    obtain ⟨hb4, hg⟩ := ob_i hg
    refine ng_iald hx hb hK hH 41 (by decide) (fun _ => rfl) hb4 dX2_allows_27 ?_
    refine lv_iload_n hx hb dX2_allows_28 rfl (lv_at hl 0 rfl) ?_
    refine lv_iand hx hb dX2_allows_29 ?_
    refine lv_aload_n hx hb dX2_allows_30 rfl (lv_at hl 1 rfl) ?_
    refine ng_get hx hb hts hown hK hH 9 (by decide) rfl rfl inlX2 5 (by decide) mw_50 rfl dX2_allows_31 ?_
    refine lv_iload_n hx hb dX2_allows_34 rfl (lv_at hl 3 rfl) ?_
    obtain ⟨hb5, hg⟩ := ob_i hg
    refine ng_iald hx hb hK hH 42 (by decide) (fun _ => rfl) hb5 dX2_allows_35 ?_
    refine lv_iconst (v := (-1 : Int32)) hx hb dX2_allows_36 (by decide) ?_
    refine lv_ixor hx hb dX2_allows_37 ?_
    refine lv_iand hx hb dX2_allows_38 ?_
    refine lv_if_ne (tgt := 46) hx hb dX2_allows_39 (by decide) (fun c6 => ?_) (fun c6 => ?_)
    · replace hg := ob_f c6 hg
      refine lv_iconst (v := (0 : Int32)) hx hb dX2_allows_46 (by decide) ?_
      subst hQ
      exact ng_zret hx hb hr hlk (by decide) (Option.some.inj hg) rfl hH dX2_allows_47
    · replace hg := ob_t c6 hg
      refine lv_iconst (v := (1 : Int32)) hx hb dX2_allows_42 (by decide) ?_
      refine lv_goto (tgt := 47) hx hb dX2_allows_43 (by decide) ?_
      subst hQ
      exact ng_zret hx hb hr hlk (by decide) (Option.some.inj hg) rfl hH dX2_allows_47
set_option maxHeartbeats 8000000 in
set_option maxRecDepth 100000 in
theorem cS_place (l : Launch) (D : va_G) (cI cZ cA : ClassId) (h : Nat → Nat) (hi : nInj 48 h) : ∀ (d : Nat) (p2 p3 p4 : Int32) (σ : nS) (q : nS) (hg : gS_place d p2 p3 p4 σ = some q), nMv l yX2_place cX2_place 6 none (2 + d) D cI cZ cA 48 (cfC cI cZ cA h) h [.ref (h 9), .int p2, .int p3, .int p4] σ q := by
  intro d
  induction d with
  | zero => intro p2 p3 p4 σ q hg; rw [gS_place] at hg; exact ob_n hg
  | succ d ihd =>
    intro p2 p3 p4 σ q hg
    rw [gS_place] at hg
    refine ng_body_v (by decide) hi (Nat.le_of_ble_eq_true rfl) ?_
    intro p e R s m args below meth c sz Q ls hx hb hml hr hlk hts hown hK hR hQ hl hH
    have hown : s.vm.findClass RX2 = some m.cls := hown
    have hl : lv_has ls 6 [(0, .ref (h 9)), (1, .int p2), (2, .int p3), (3, .int p4)] := hl
    refine lv_iload_n hx hb dX2_place_0 rfl (lv_at hl 3 rfl) ?_
    refine lv_aload_n hx hb dX2_place_1 rfl (lv_at hl 0 rfl) ?_
    refine ng_get hx hb hts hown hK hH 9 (by decide) rfl rfl inlX2 11 (by decide) mw_57 rfl dX2_place_2 ?_
    refine lv_icmp_ge (tgt := 23) hx hb dX2_place_5 (by decide) (fun c1 => ?_) (fun c1 => ?_)
    · replace hg := ob_t c1 hg
      subst hQ
      exact ng_vret hx hb hr hlk (Option.some.inj hg) hH dX2_place_23
    · replace hg := ob_f c1 hg
      refine lv_iload_n hx hb dX2_place_8 rfl (lv_at hl 2 rfl) ?_
      refine lv_aload_n hx hb dX2_place_9 rfl (lv_at hl 0 rfl) ?_
      refine ng_get hx hb hts hown hK hH 9 (by decide) rfl rfl inlX2 8 (by decide) mw_53 rfl dX2_place_10 ?_
      refine lv_iadd hx hb dX2_place_13 ?_
      refine lv_iload_n hx hb dX2_place_14 rfl (lv_at hl 1 rfl) ?_
      refine lv_isub hx hb dX2_place_15 ?_
      refine lv_aload_n hx hb dX2_place_16 rfl (lv_at hl 0 rfl) ?_
      refine ng_get hx hb hts hown hK hH 9 (by decide) rfl rfl inlX2 9 (by decide) mw_54 rfl dX2_place_17 ?_
      refine lv_icmp_ge (tgt := 24) hx hb dX2_place_20 (by decide) (fun c2 => ?_) (fun c2 => ?_)
      · replace hg := ob_t c2 hg
        refine lv_iload_n hx hb dX2_place_24 rfl (lv_at hl 1 rfl) ?_
        refine lv_aload_n hx hb dX2_place_25 rfl (lv_at hl 0 rfl) ?_
        refine ng_get hx hb hts hown hK hH 9 (by decide) rfl rfl inlX2 8 (by decide) mw_53 rfl dX2_place_26 ?_
        refine lv_icmp_lt (tgt := 38) hx hb dX2_place_29 (by decide) (fun c3 => ?_) (fun c3 => ?_)
        · replace hg := ob_t c3 hg
          refine lv_aload_n hx hb dX2_place_38 rfl (lv_at hl 0 rfl) ?_
          refine lv_iload_n hx hb dX2_place_39 rfl (lv_at hl 1 rfl) ?_
          refine lv_iload_n hx hb dX2_place_40 rfl (lv_at hl 2 rfl) ?_
          obtain ⟨q4, hc5, hg⟩ := ob_b hg
          refine ng_cv (ng_rV hx hb hml hown hts hK hH (As := [.int p2, .int p3]) (rest := []) 9 (cS_weigh l D cI cZ cA h hi p2 p3 σ q4 hc5 _) (by decide) rfl rfl mw_231 mw_232 mw_233 mw_18 mw_234 pdX2_weigh ⟨by rw [hR]; show _ ≤ _; simp only [nRm]; omega, by rw [hR]; show _ ≤ _; simp only [nRm]; omega⟩ hl.1 rfl (Nat.le_of_ble_eq_true rfl) dX2_place_41 ⟨Nat.zero_le _, Nat.zero_le _⟩) hH (fun H locs hH => ?_)
          refine lv_iconst (v := (1 : Int32)) hx hb dX2_place_44 (by decide) ?_
          refine lv_iload_n hx hb dX2_place_45 rfl (lv_at hl 1 rfl) ?_
          refine lv_ishl hx hb dX2_place_46 ?_
          refine lv_istore (lv' := [(4, .int ((1 : Int32) <<< (p2 &&& 31))), (0, .ref (h 9)), (1, .int p2), (2, .int p3), (3, .int p4)]) hx hb dX2_place_47 hl (by decide) rfl (fun ls hl => ?_)
          refine lv_iconst (v := (0 : Int32)) hx hb dX2_place_49 (by decide) ?_
          refine lv_istore (lv' := [(5, .int (0 : Int32)), (4, .int ((1 : Int32) <<< (p2 &&& 31))), (0, .ref (h 9)), (1, .int p2), (2, .int p3), (3, .int p4)]) hx hb dX2_place_50 hl (by decide) rfl (fun ls hl => ?_)
          have LP_52 : ∀ (K_52 : nS → Option nS) (kk_52 : ∀ (σe_52 : nS) (H : Heap) (locs : List Loc) (ls : Array Slot), K_52 σe_52 = some q → nH D 48 (cfC cI cZ cA h) h (nAd 48 h sz) s.heap σe_52 H locs → lv_has ls 6 [] → W p l e R s m args below meth c H locs 0 0 Q (F0 m 143 ls [])) (n : Nat) (v5_52 : Int32) (σl_52 : nS) (H : Heap) (locs : List Loc) (ls : Array Slot), gS_place_L52 (gS_place d) p2 p3 p4 ((1 : Int32) <<< (p2 &&& 31)) K_52 n v5_52 σl_52 = some q → nH D 48 (cfC cI cZ cA h) h (nAd 48 h sz) s.heap σl_52 H locs → lv_has ls 6 [(0, .ref (h 9)), (1, .int p2), (2, .int p3), (3, .int p4), (4, .int ((1 : Int32) <<< (p2 &&& 31))), (5, .int v5_52)] → W p l e R s m args below meth c H locs 0 0 Q (F0 m 52 ls []) := by
            intro K_52 kk_52 n
            induction n with
            | zero => intro v5_52 σl_52 H locs ls hg hH hl; rw [gS_place_L52] at hg; exact ob_n hg
            | succ n ih_52 =>
              intro v5_52 σl_52 H locs ls hg hH hl
              rw [gS_place_L52] at hg
              refine lv_iload hx hb dX2_place_52 (lv_at hl 5 rfl) ?_
              refine lv_iload_n hx hb dX2_place_54 rfl (lv_at hl 2 rfl) ?_
              refine lv_icmp_gt (tgt := 143) hx hb dX2_place_55 (by decide) (fun c6 => ?_) (fun c6 => ?_)
              · replace hg := ob_t c6 hg
                exact kk_52 σl_52 H locs ls hg hH (lv_sub hl [] rfl)
              · replace hg := ob_f c6 hg
                refine lv_iload hx hb dX2_place_58 (lv_at hl 5 rfl) ?_
                refine lv_aload_n hx hb dX2_place_60 rfl (lv_at hl 0 rfl) ?_
                refine ng_get hx hb hts hown hK hH 9 (by decide) rfl rfl inlX2 10 (by decide) mw_55 rfl dX2_place_61 ?_
                refine lv_icmp_ge (tgt := 143) hx hb dX2_place_64 (by decide) (fun c7 => ?_) (fun c7 => ?_)
                · replace hg := ob_t c7 hg
                  exact kk_52 σl_52 H locs ls hg hH (lv_sub hl [] rfl)
                · replace hg := ob_f c7 hg
                  refine lv_aload_n hx hb dX2_place_67 rfl (lv_at hl 0 rfl) ?_
                  refine lv_iload_n hx hb dX2_place_68 rfl (lv_at hl 1 rfl) ?_
                  refine lv_iload hx hb dX2_place_69 (lv_at hl 5 rfl) ?_
                  obtain ⟨q8, hc9, hg⟩ := ob_b hg
                  refine ng_ci (ng_rV hx hb hml hown hts hK hH (As := [.int p2, .int v5_52]) (rest := []) 9 (cS_allows l D cI cZ cA h hi p2 v5_52 σl_52 q8 hc9 _) (by decide) rfl rfl mw_235 mw_236 mw_237 mw_18 mw_238 pdX2_allows ⟨by rw [hR]; show _ ≤ _; simp only [nRm]; omega, by rw [hR]; show _ ≤ _; simp only [nRm]; omega⟩ hl.1 rfl (Nat.le_of_ble_eq_true rfl) dX2_place_71 ⟨Nat.zero_le _, Nat.zero_le _⟩) hH (fun H locs hH => ?_)
                  refine lv_if_eq (tgt := 137) hx hb dX2_place_74 (by decide) (fun c10 => ?_) (fun c10 => ?_)
                  · replace hg := ob_t c10 hg
                    refine lv_iinc (v := (v5_52 + 1)) (lv' := [(5, .int (v5_52 + 1)), (0, .ref (h 9)), (1, .int p2), (2, .int p3), (3, .int p4), (4, .int ((1 : Int32) <<< (p2 &&& 31)))]) hx hb dX2_place_137 hl (k := 5) rfl rfl (by decide) rfl (fun ls hl => ?_)
                    refine lv_goto (tgt := 52) hx hb dX2_place_140 (by decide) ?_
                    exact ih_52 (v5_52 + 1) σl_52 H locs ls hg hH (lv_sub hl [1, 2, 3, 4, 5, 0] rfl)
                  · replace hg := ob_f c10 hg
                    refine lv_aload_n hx hb dX2_place_77 rfl (lv_at hl 0 rfl) ?_
                    refine ng_get hx hb hts hown hK hH 9 (by decide) rfl rfl inlX2 6 (by decide) mw_51 rfl dX2_place_78 ?_
                    refine lv_iload_n hx hb dX2_place_81 rfl (lv_at hl 1 rfl) ?_
                    refine lv_iload hx hb dX2_place_82 (lv_at hl 5 rfl) ?_
                    obtain ⟨hb11, hg⟩ := ob_i hg
                    refine ng_iast hx hb hK hH 43 (by decide) (fun _ => rfl) hb11 dX2_place_84 (fun H locs hH => ?_)
                    refine lv_aload_n hx hb dX2_place_85 rfl (lv_at hl 0 rfl) ?_
                    refine ng_get hx hb hts hown hK hH 9 (by decide) rfl rfl inlX2 5 (by decide) mw_50 rfl dX2_place_86 ?_
                    refine lv_iload hx hb dX2_place_89 (lv_at hl 5 rfl) ?_
                    refine lv_dup2_11 hx hb dX2_place_91 rfl rfl ?_
                    obtain ⟨hb12, hg⟩ := ob_i hg
                    refine ng_iald hx hb hK hH 42 (by decide) (fun _ => rfl) hb12 dX2_place_92 ?_
                    refine lv_iload hx hb dX2_place_93 (lv_at hl 4 rfl) ?_
                    refine lv_ior hx hb dX2_place_95 ?_
                    obtain ⟨hb13, hg⟩ := ob_i hg
                    refine ng_iast hx hb hK hH 42 (by decide) (fun _ => rfl) hb13 dX2_place_96 (fun H locs hH => ?_)
                    refine lv_aload_n hx hb dX2_place_97 rfl (lv_at hl 0 rfl) ?_
                    refine lv_iload_n hx hb dX2_place_98 rfl (lv_at hl 1 rfl) ?_
                    refine lv_iconst (v := (1 : Int32)) hx hb dX2_place_99 (by decide) ?_
                    refine lv_iadd hx hb dX2_place_100 ?_
                    refine lv_iload_n hx hb dX2_place_101 rfl (lv_at hl 2 rfl) ?_
                    refine lv_iload hx hb dX2_place_102 (lv_at hl 5 rfl) ?_
                    refine lv_iconst (v := (1 : Int32)) hx hb dX2_place_104 (by decide) ?_
                    refine lv_iadd hx hb dX2_place_105 ?_
                    refine va_mmax hx hb (hml.trans hl.1.symm) hown (hts _ mw_209) (hts _ mw_210) (hts _ mw_203) (hts _ mw_211) (by rw [hR]; exact Nat.le_of_ble_eq_true rfl) (by rw [hR]; exact Nat.le_of_ble_eq_true rfl) (Nat.zero_le _) (Nat.zero_le _) dX2_place_106 ?_
                    refine lv_iload_n hx hb dX2_place_109 rfl (lv_at hl 3 rfl) ?_
                    refine lv_aload_n hx hb dX2_place_110 rfl (lv_at hl 0 rfl) ?_
                    refine ng_get hx hb hts hown hK hH 9 (by decide) rfl rfl inlX2 2 (by decide) mw_47 rfl dX2_place_111 ?_
                    refine lv_iload_n hx hb dX2_place_114 rfl (lv_at hl 1 rfl) ?_
                    obtain ⟨hb14, hg⟩ := ob_i hg
                    refine ng_aald hx hb hK hH 30 (by decide) 31 (fun _ => rfl) hb14 dX2_place_115 ?_
                    refine lv_iload hx hb dX2_place_116 (lv_at hl 5 rfl) ?_
                    obtain ⟨hb15, hg⟩ := ob_i hg
                    refine ng_iald hx hb hK hH (31 + p2.toNatClampNeg) (rwC_lt31 hb14) (rwC_cf31 hb14) hb15 dX2_place_118 ?_
                    refine lv_iadd hx hb dX2_place_119 ?_
                    obtain ⟨q16, hc17, hg⟩ := ob_b hg
                    refine ng_cv (ng_rS hx hb hml hown hts hK hH (As := [.ref (h 9), .int (p2 + (1 : Int32)), .int (if p3 < (v5_52 + (1 : Int32)) then (v5_52 + (1 : Int32)) else p3), .int (p4 + ((nst (nst σl_52 43 p2.toNatClampNeg v5_52) 42 v5_52.toNatClampNeg (((nst σl_52 43 p2.toNatClampNeg v5_52) 42 v5_52.toNatClampNeg) ||| ((1 : Int32) <<< (p2 &&& 31)))) (31 + p2.toNatClampNeg) v5_52.toNatClampNeg))]) (rest := []) (ihd (p2 + (1 : Int32)) (if p3 < (v5_52 + (1 : Int32)) then (v5_52 + (1 : Int32)) else p3) (p4 + ((nst (nst σl_52 43 p2.toNatClampNeg v5_52) 42 v5_52.toNatClampNeg (((nst σl_52 43 p2.toNatClampNeg v5_52) 42 v5_52.toNatClampNeg) ||| ((1 : Int32) <<< (p2 &&& 31)))) (31 + p2.toNatClampNeg) v5_52.toNatClampNeg)) (nst (nst σl_52 43 p2.toNatClampNeg v5_52) 42 v5_52.toNatClampNeg (((nst σl_52 43 p2.toNatClampNeg v5_52) 42 v5_52.toNatClampNeg) ||| ((1 : Int32) <<< (p2 &&& 31)))) q16 hc17 _) mw_224 mw_225 mw_18 mw_226 pdX2_place.2 ⟨by rw [hR]; show _ ≤ _; simp only [nRm]; omega, by rw [hR]; show _ ≤ _; simp only [nRm]; omega⟩ hl.1 rfl (Nat.le_of_ble_eq_true rfl) dX2_place_120 ⟨Nat.zero_le _, Nat.zero_le _⟩) hH (fun H locs hH => ?_)
                    refine lv_aload_n hx hb dX2_place_123 rfl (lv_at hl 0 rfl) ?_
                    refine ng_get hx hb hts hown hK hH 9 (by decide) rfl rfl inlX2 5 (by decide) mw_50 rfl dX2_place_124 ?_
                    refine lv_iload hx hb dX2_place_127 (lv_at hl 5 rfl) ?_
                    refine lv_dup2_11 hx hb dX2_place_129 rfl rfl ?_
                    obtain ⟨hb18, hg⟩ := ob_i hg
                    refine ng_iald hx hb hK hH 42 (by decide) (fun _ => rfl) hb18 dX2_place_130 ?_
                    refine lv_iload hx hb dX2_place_131 (lv_at hl 4 rfl) ?_
                    refine lv_iconst (v := (-1 : Int32)) hx hb dX2_place_133 (by decide) ?_
                    refine lv_ixor hx hb dX2_place_134 ?_
                    refine lv_iand hx hb dX2_place_135 ?_
                    obtain ⟨hb19, hg⟩ := ob_i hg
                    refine ng_iast hx hb hK hH 42 (by decide) (fun _ => rfl) hb19 dX2_place_136 (fun H locs hH => ?_)
                    refine lv_iinc (v := (v5_52 + 1)) (lv' := [(5, .int (v5_52 + 1)), (0, .ref (h 9)), (1, .int p2), (2, .int p3), (3, .int p4), (4, .int ((1 : Int32) <<< (p2 &&& 31)))]) hx hb dX2_place_137 hl (k := 5) rfl rfl (by decide) rfl (fun ls hl => ?_)
                    refine lv_goto (tgt := 52) hx hb dX2_place_140 (by decide) ?_
                    exact ih_52 (v5_52 + 1) (nst q16 42 v5_52.toNatClampNeg ((q16 42 v5_52.toNatClampNeg) &&& (((1 : Int32) <<< (p2 &&& 31)) ^^^ (-1 : Int32)))) H locs ls hg hH (lv_sub hl [1, 2, 3, 4, 5, 0] rfl)
          refine LP_52 _ ?_ _ _ _ _ _ _ hg hH (lv_sub hl [2, 3, 4, 5, 1, 0] rfl)
          intro σe_52 H locs ls hg hH hl
          subst hQ
          exact ng_vret hx hb hr hlk (Option.some.inj hg) hH dX2_place_143
        · replace hg := ob_f c3 hg
          refine lv_aload_n hx hb dX2_place_32 rfl (lv_at hl 0 rfl) ?_
          refine lv_iload_n hx hb dX2_place_33 rfl (lv_at hl 3 rfl) ?_
          obtain ⟨q20, hc21, hg⟩ := ob_b hg
          refine ng_cv (ng_rV hx hb hml hown hts hK hH (As := [.int p4]) (rest := []) 9 (cS_keepBest l D cI cZ cA h hi p4 σ q20 hc21 _) (by decide) rfl rfl mw_227 mw_228 mw_229 mw_18 mw_230 pdX2_keepBest ⟨by rw [hR]; show _ ≤ _; simp only [nRm]; omega, by rw [hR]; show _ ≤ _; simp only [nRm]; omega⟩ hl.1 rfl (Nat.le_of_ble_eq_true rfl) dX2_place_34 ⟨Nat.zero_le _, Nat.zero_le _⟩) hH (fun H locs hH => ?_)
          subst hQ
          exact ng_vret hx hb hr hlk (Option.some.inj hg) hH dX2_place_37
      · replace hg := ob_f c2 hg
        subst hQ
        exact ng_vret hx hb hr hlk (Option.some.inj hg) hH dX2_place_23
set_option maxHeartbeats 8000000 in
set_option maxRecDepth 100000 in
theorem cS_run (l : Launch) (D : va_G) (cI cZ cA : ClassId) (h : Nat → Nat) (hi : nInj 48 h) (σ : nS) (q : nS) (hg : gS_run σ = some q) : nMv l yX2_run cX2_run 2 none 14 D cI cZ cA 48 (cfC cI cZ cA h) h [.ref (h 9)] σ q := by
  unfold gS_run at hg
  refine ng_body_v (by decide) hi (Nat.le_of_ble_eq_true rfl) ?_
  intro p e R s m args below meth c sz Q ls hx hb hml hr hlk hts hown hK hR hQ hl hH
  have hown : s.vm.findClass RX2 = some m.cls := hown
  have hl : lv_has ls 2 [(0, .ref (h 9))] := hl
  refine lv_aload_n hx hb dX2_run_0 rfl (lv_at hl 0 rfl) ?_
  refine lv_ldc hx hb hown (hts _ mw_56) dX2_run_1 ?_
  refine ng_put hx hb hts hown hK hH 9 (by decide) rfl rfl inlX2 tyX2 tyX2_ok nmX2 11 (by decide) mw_57 rfl (by decide +kernel) (Nat.le_of_ble_eq_true rfl) rfl dX2_run_3 (fun H locs hH => ?_)
  refine lv_iconst (v := (0 : Int32)) hx hb dX2_run_6 (by decide) ?_
  refine lv_istore_n (lv' := [(1, .int (0 : Int32)), (0, .ref (h 9))]) hx hb dX2_run_7 rfl hl (by decide) rfl (fun ls hl => ?_)
  have LP_8 : ∀ (K_8 : nS → Option nS) (kk_8 : ∀ (σe_8 : nS) (H : Heap) (locs : List Loc) (ls : Array Slot), K_8 σe_8 = some q → nH D 48 (cfC cI cZ cA h) h (nAd 48 h sz) s.heap σe_8 H locs → lv_has ls 2 [(0, .ref (h 9))] → W p l e R s m args below meth c H locs 0 0 Q (F0 m 29 ls [])) (n : Nat) (v1_8 : Int32) (σl_8 : nS) (H : Heap) (locs : List Loc) (ls : Array Slot), gS_run_L8 K_8 n v1_8 σl_8 = some q → nH D 48 (cfC cI cZ cA h) h (nAd 48 h sz) s.heap σl_8 H locs → lv_has ls 2 [(0, .ref (h 9)), (1, .int v1_8)] → W p l e R s m args below meth c H locs 0 0 Q (F0 m 8 ls []) := by
    intro K_8 kk_8 n
    induction n with
    | zero => intro v1_8 σl_8 H locs ls hg hH hl; rw [gS_run_L8] at hg; exact ob_n hg
    | succ n ih_8 =>
      intro v1_8 σl_8 H locs ls hg hH hl
      rw [gS_run_L8] at hg
      refine lv_iload_n hx hb dX2_run_8 rfl (lv_at hl 1 rfl) ?_
      refine lv_aload_n hx hb dX2_run_9 rfl (lv_at hl 0 rfl) ?_
      refine ng_get hx hb hts hown hK hH 9 (by decide) rfl rfl inlX2 8 (by decide) mw_53 rfl dX2_run_10 ?_
      refine lv_icmp_ge (tgt := 29) hx hb dX2_run_13 (by decide) (fun c3 => ?_) (fun c3 => ?_)
      · replace hg := ob_t c3 hg
        exact kk_8 σl_8 H locs ls hg hH (lv_sub hl [0] rfl)
      · replace hg := ob_f c3 hg
        refine lv_aload_n hx hb dX2_run_16 rfl (lv_at hl 0 rfl) ?_
        refine ng_get hx hb hts hown hK hH 9 (by decide) rfl rfl inlX2 5 (by decide) mw_50 rfl dX2_run_17 ?_
        refine lv_iload_n hx hb dX2_run_20 rfl (lv_at hl 1 rfl) ?_
        refine lv_iconst (v := (0 : Int32)) hx hb dX2_run_21 (by decide) ?_
        obtain ⟨hb4, hg⟩ := ob_i hg
        refine ng_iast hx hb hK hH 42 (by decide) (fun _ => rfl) hb4 dX2_run_22 (fun H locs hH => ?_)
        refine lv_iinc (v := (v1_8 + 1)) (lv' := [(1, .int (v1_8 + 1)), (0, .ref (h 9))]) hx hb dX2_run_23 hl (k := 1) rfl rfl (by decide) rfl (fun ls hl => ?_)
        refine lv_goto (tgt := 8) hx hb dX2_run_26 (by decide) ?_
        exact ih_8 (v1_8 + 1) (nst σl_8 42 v1_8.toNatClampNeg (0 : Int32)) H locs ls hg hH (lv_sub hl [1, 0] rfl)
  refine LP_8 _ ?_ _ _ _ _ _ _ hg hH (lv_sub hl [1, 0] rfl)
  intro σe_8 H locs ls hg hH hl
  refine lv_aload_n hx hb dX2_run_29 rfl (lv_at hl 0 rfl) ?_
  refine lv_iconst (v := (0 : Int32)) hx hb dX2_run_30 (by decide) ?_
  refine lv_iconst (v := (0 : Int32)) hx hb dX2_run_31 (by decide) ?_
  refine lv_iconst (v := (0 : Int32)) hx hb dX2_run_32 (by decide) ?_
  obtain ⟨q1, hc2, hg⟩ := ob_b hg
  refine ng_cv (ng_rS hx hb hml hown hts hK hH (As := [.ref (h 9), .int (0 : Int32), .int (0 : Int32), .int (0 : Int32)]) (rest := []) (cS_place l D cI cZ cA h hi 11 (0 : Int32) (0 : Int32) (0 : Int32) σe_8 q1 hc2 _) mw_224 mw_225 mw_18 mw_226 pdX2_place.2 ⟨by rw [hR]; show _ ≤ _; simp only [nRm]; omega, by rw [hR]; show _ ≤ _; simp only [nRm]; omega⟩ hl.1 rfl (Nat.le_of_ble_eq_true rfl) dX2_run_33 ⟨Nat.zero_le _, Nat.zero_le _⟩) hH (fun H locs hH => ?_)
  subst hQ
  exact ng_vret hx hb hr hlk (Option.some.inj hg) hH dX2_run_36
set_option maxHeartbeats 8000000 in
set_option maxRecDepth 100000 in
theorem cC_findCut (l : Launch) (D : va_G) (cI cZ cA : ClassId) (h : Nat → Nat) (hi : nInj 48 h) (p1 p2 : Int32) (σ : nS) (q : Int32 × nS) (hg : gC_findCut p1 p2 σ = some q) : nMi l yX3_findCut cX3_findCut 3 (some .boolean) 15 D cI cZ cA 48 (cfC cI cZ cA h) h [.ref (h 0), .int p1, .int p2] σ q.1 q.2 := by
  unfold gC_findCut at hg
  refine ng_body_i (by decide) hi (Nat.le_of_ble_eq_true rfl) ?_
  intro p e R s m args below meth c sz Q ls hx hb hml hr hlk hts hown hK hR hQ hl hH
  have hown : s.vm.findClass RX3 = some m.cls := hown
  have hl : lv_has ls 3 [(0, .ref (h 0)), (1, .int p1), (2, .int p2)] := hl
  refine lv_aload_n hx hb dX3_findCut_0 rfl (lv_at hl 0 rfl) ?_
  refine ng_get hx hb hts hown hK hH 0 (by decide) rfl rfl inlX3 0 (by decide) mw_15 rfl dX3_findCut_1 ?_
  refine lv_iload_n hx hb dX3_findCut_4 rfl (lv_at hl 1 rfl) ?_
  refine lv_iload_n hx hb dX3_findCut_5 rfl (lv_at hl 2 rfl) ?_
  obtain ⟨q1, hc2, hg⟩ := ob_b hg
  refine ng_ci (ng_rV hx hb hml hown hts hK hH (As := [.int p1, .int p2]) (rest := []) 1 (cN_hasTwo l D cI cZ cA h hi p1 p2 σ q1 hc2 _) (by decide) rfl rfl mw_157 mw_105 mw_106 mw_14 mw_107 pdX1_hasTwo ⟨by rw [hR]; show _ ≤ _; simp only [nRm]; omega, by rw [hR]; show _ ≤ _; simp only [nRm]; omega⟩ hl.1 rfl (Nat.le_of_ble_eq_true rfl) dX3_findCut_6 ⟨Nat.zero_le _, Nat.zero_le _⟩) hH (fun H locs hH => ?_)
  refine lv_if_ne (tgt := 14) hx hb dX3_findCut_9 (by decide) (fun c3 => ?_) (fun c3 => ?_)
  · replace hg := ob_f c3 hg
    refine lv_aload_n hx hb dX3_findCut_14 rfl (lv_at hl 0 rfl) ?_
    obtain ⟨q4, hc5, hg⟩ := ob_b hg
    refine ng_cv (ng_rV hx hb hml hown hts hK hH (As := []) (rest := []) 0 (cC_prepareSums l D cI cZ cA h hi σ q4 hc5 _) (by decide) rfl rfl mw_187 mw_188 mw_189 mw_2 mw_190 pdX3_prepareSums ⟨by rw [hR]; show _ ≤ _; simp only [nRm]; omega, by rw [hR]; show _ ≤ _; simp only [nRm]; omega⟩ hl.1 rfl (Nat.le_of_ble_eq_true rfl) dX3_findCut_15 ⟨Nat.zero_le _, Nat.zero_le _⟩) hH (fun H locs hH => ?_)
    refine lv_aload_n hx hb dX3_findCut_18 rfl (lv_at hl 0 rfl) ?_
    refine ng_get hx hb hts hown hK hH 0 (by decide) rfl rfl inlX3 1 (by decide) mw_19 rfl dX3_findCut_19 ?_
    refine lv_iload_n hx hb dX3_findCut_22 rfl (lv_at hl 1 rfl) ?_
    refine lv_iload_n hx hb dX3_findCut_23 rfl (lv_at hl 2 rfl) ?_
    obtain ⟨q6, hc7, hg⟩ := ob_b hg
    refine ng_cv (ng_rV hx hb hml hown hts hK hH (As := [.int p1, .int p2]) (rest := []) 9 (cS_keepApart l D cI cZ cA h hi p1 p2 q4 q6 hc7 _) (by decide) rfl rfl mw_212 mw_213 mw_214 mw_18 mw_215 pdX2_keepApart ⟨by rw [hR]; show _ ≤ _; simp only [nRm]; omega, by rw [hR]; show _ ≤ _; simp only [nRm]; omega⟩ hl.1 rfl (Nat.le_of_ble_eq_true rfl) dX3_findCut_24 ⟨Nat.zero_le _, Nat.zero_le _⟩) hH (fun H locs hH => ?_)
    refine lv_aload_n hx hb dX3_findCut_27 rfl (lv_at hl 0 rfl) ?_
    refine ng_get hx hb hts hown hK hH 0 (by decide) rfl rfl inlX3 1 (by decide) mw_19 rfl dX3_findCut_28 ?_
    obtain ⟨q8, hc9, hg⟩ := ob_b hg
    refine ng_cv (ng_rV hx hb hml hown hts hK hH (As := []) (rest := []) 9 (cS_run l D cI cZ cA h hi q6 q8 hc9 _) (by decide) rfl rfl mw_220 mw_221 mw_222 mw_18 mw_223 pdX2_run ⟨by rw [hR]; show _ ≤ _; simp only [nRm]; omega, by rw [hR]; show _ ≤ _; simp only [nRm]; omega⟩ hl.1 rfl (Nat.le_of_ble_eq_true rfl) dX3_findCut_31 ⟨Nat.zero_le _, Nat.zero_le _⟩) hH (fun H locs hH => ?_)
    refine lv_iconst (v := (1 : Int32)) hx hb dX3_findCut_34 (by decide) ?_
    subst hQ
    exact ng_zret hx hb hr hlk (by decide) (congrArg Prod.fst (Option.some.inj hg)) (congrArg Prod.snd (Option.some.inj hg)) hH dX3_findCut_35
  · replace hg := ob_t c3 hg
    refine lv_iconst (v := (0 : Int32)) hx hb dX3_findCut_12 (by decide) ?_
    subst hQ
    exact ng_zret hx hb hr hlk (by decide) (congrArg Prod.fst (Option.some.inj hg)) (congrArg Prod.snd (Option.some.inj hg)) hH dX3_findCut_13
set_option maxHeartbeats 8000000 in
set_option maxRecDepth 100000 in
theorem cS_leastCost (l : Launch) (D : va_G) (cI cZ cA : ClassId) (h : Nat → Nat) (hi : nInj 48 h) (σ : nS) (q : Int32) (hg : gS_leastCost σ = some q) : nMi l yX2_leastCost cX2_leastCost 1 (some .int) 1 D cI cZ cA 48 (cfC cI cZ cA h) h [.ref (h 9)] σ q σ := by
  unfold gS_leastCost at hg
  refine ng_body_i (by decide) hi (Nat.le_of_ble_eq_true rfl) ?_
  intro p e R s m args below meth c sz Q ls hx hb hml hr hlk hts hown hK hR hQ hl hH
  have hown : s.vm.findClass RX2 = some m.cls := hown
  have hl : lv_has ls 1 [(0, .ref (h 9))] := hl
  refine lv_aload_n hx hb dX2_leastCost_0 rfl (lv_at hl 0 rfl) ?_
  refine ng_get hx hb hts hown hK hH 9 (by decide) rfl rfl inlX2 11 (by decide) mw_57 rfl dX2_leastCost_1 ?_
  subst hQ
  exact ng_iret hx hb hr hlk (Option.some.inj hg) rfl hH dX2_leastCost_4
set_option maxHeartbeats 8000000 in
set_option maxRecDepth 100000 in
theorem cC_cut (l : Launch) (D : va_G) (cI cZ cA : ClassId) (h : Nat → Nat) (hi : nInj 48 h) (p1 p2 : Int32) (σ : nS) (q : Int32 × nS) (hg : gC_cut p1 p2 σ = some q) : nMi l yX3_cut cX3_cut 3 (some .int) 16 D cI cZ cA 48 (cfC cI cZ cA h) h [.ref (h 0), .int p1, .int p2] σ q.1 q.2 := by
  unfold gC_cut at hg
  refine ng_body_i (by decide) hi (Nat.le_of_ble_eq_true rfl) ?_
  intro p e R s m args below meth c sz Q ls hx hb hml hr hlk hts hown hK hR hQ hl hH
  have hown : s.vm.findClass RX3 = some m.cls := hown
  have hl : lv_has ls 3 [(0, .ref (h 0)), (1, .int p1), (2, .int p2)] := hl
  refine lv_aload_n hx hb dX3_cut_0 rfl (lv_at hl 0 rfl) ?_
  refine lv_iload_n hx hb dX3_cut_1 rfl (lv_at hl 1 rfl) ?_
  refine lv_iload_n hx hb dX3_cut_2 rfl (lv_at hl 2 rfl) ?_
  obtain ⟨q1, hc2, hg⟩ := ob_b hg
  refine ng_ci (ng_rV hx hb hml hown hts hK hH (As := [.int p1, .int p2]) (rest := []) 0 (cC_findCut l D cI cZ cA h hi p1 p2 σ q1 hc2 _) (by decide) rfl rfl mw_183 mw_184 mw_185 mw_2 mw_186 pdX3_findCut ⟨by rw [hR]; show _ ≤ _; simp only [nRm]; omega, by rw [hR]; show _ ≤ _; simp only [nRm]; omega⟩ hl.1 rfl (Nat.le_of_ble_eq_true rfl) dX3_cut_3 ⟨Nat.zero_le _, Nat.zero_le _⟩) hH (fun H locs hH => ?_)
  refine lv_if_eq (tgt := 19) hx hb dX3_cut_6 (by decide) (fun c3 => ?_) (fun c3 => ?_)
  · replace hg := ob_t c3 hg
    refine lv_iconst (v := (-1 : Int32)) hx hb dX3_cut_19 (by decide) ?_
    subst hQ
    exact ng_iret hx hb hr hlk (congrArg Prod.fst (Option.some.inj hg)) (congrArg Prod.snd (Option.some.inj hg)) hH dX3_cut_20
  · replace hg := ob_f c3 hg
    refine lv_aload_n hx hb dX3_cut_9 rfl (lv_at hl 0 rfl) ?_
    refine ng_get hx hb hts hown hK hH 0 (by decide) rfl rfl inlX3 1 (by decide) mw_19 rfl dX3_cut_10 ?_
    obtain ⟨q4, hc5, hg⟩ := ob_b hg
    refine ng_ci (ng_rV hx hb hml hown hts hK hH (As := []) (rest := []) 9 (cS_leastCost l D cI cZ cA h hi q1.2 q4 hc5 _) (by decide) rfl rfl mw_239 mw_240 mw_241 mw_18 mw_242 pdX2_leastCost ⟨by rw [hR]; show _ ≤ _; simp only [nRm]; omega, by rw [hR]; show _ ≤ _; simp only [nRm]; omega⟩ hl.1 rfl (Nat.le_of_ble_eq_true rfl) dX3_cut_13 ⟨Nat.zero_le _, Nat.zero_le _⟩) hH (fun H locs hH => ?_)
    refine lv_goto (tgt := 20) hx hb dX3_cut_16 (by decide) ?_
    subst hQ
    exact ng_iret hx hb hr hlk (congrArg Prod.fst (Option.some.inj hg)) (congrArg Prod.snd (Option.some.inj hg)) hH dX3_cut_20
set_option maxHeartbeats 8000000 in
set_option maxRecDepth 100000 in
theorem cS_partOf (l : Launch) (D : va_G) (cI cZ cA : ClassId) (h : Nat → Nat) (hi : nInj 48 h) (p1 : Int32) (σ : nS) (q : Int32) (hg : gS_partOf p1 σ = some q) : nMi l yX2_partOf cX2_partOf 2 (some .int) 1 D cI cZ cA 48 (cfC cI cZ cA h) h [.ref (h 9), .int p1] σ q σ := by
  unfold gS_partOf at hg
  refine ng_body_i (by decide) hi (Nat.le_of_ble_eq_true rfl) ?_
  intro p e R s m args below meth c sz Q ls hx hb hml hr hlk hts hown hK hR hQ hl hH
  have hown : s.vm.findClass RX2 = some m.cls := hown
  have hl : lv_has ls 2 [(0, .ref (h 9)), (1, .int p1)] := hl
  refine lv_aload_n hx hb dX2_partOf_0 rfl (lv_at hl 0 rfl) ?_
  refine ng_get hx hb hts hown hK hH 9 (by decide) rfl rfl inlX2 7 (by decide) mw_52 rfl dX2_partOf_1 ?_
  refine lv_iload_n hx hb dX2_partOf_4 rfl (lv_at hl 1 rfl) ?_
  obtain ⟨hb1, hg⟩ := ob_i hg
  refine ng_iald hx hb hK hH 44 (by decide) (fun _ => rfl) hb1 dX2_partOf_5 ?_
  subst hQ
  exact ng_iret hx hb hr hlk (Option.some.inj hg) rfl hH dX2_partOf_6
set_option maxHeartbeats 8000000 in
set_option maxRecDepth 100000 in
theorem cC_cutPart (l : Launch) (D : va_G) (cI cZ cA : ClassId) (h : Nat → Nat) (hi : nInj 48 h) (p1 p2 p3 : Int32) (σ : nS) (q : Int32 × nS) (hg : gC_cutPart p1 p2 p3 σ = some q) : nMi l yX3_cutPart cX3_cutPart 4 (some .int) 16 D cI cZ cA 48 (cfC cI cZ cA h) h [.ref (h 0), .int p1, .int p2, .int p3] σ q.1 q.2 := by
  unfold gC_cutPart at hg
  refine ng_body_i (by decide) hi (Nat.le_of_ble_eq_true rfl) ?_
  intro p e R s m args below meth c sz Q ls hx hb hml hr hlk hts hown hK hR hQ hl hH
  have hown : s.vm.findClass RX3 = some m.cls := hown
  have hl : lv_has ls 4 [(0, .ref (h 0)), (1, .int p1), (2, .int p2), (3, .int p3)] := hl
  refine lv_aload_n hx hb dX3_cutPart_0 rfl (lv_at hl 0 rfl) ?_
  refine ng_get hx hb hts hown hK hH 0 (by decide) rfl rfl inlX3 0 (by decide) mw_15 rfl dX3_cutPart_1 ?_
  refine lv_iload_n hx hb dX3_cutPart_4 rfl (lv_at hl 3 rfl) ?_
  obtain ⟨q1, hc2, hg⟩ := ob_b hg
  refine ng_ci (ng_rV hx hb hml hown hts hK hH (As := [.int p3]) (rest := []) 1 (cN_hasPost l D cI cZ cA h hi p3 σ q1 hc2 _) (by decide) rfl rfl mw_145 mw_109 mw_110 mw_14 mw_111 pdX1_hasPost ⟨by rw [hR]; show _ ≤ _; simp only [nRm]; omega, by rw [hR]; show _ ≤ _; simp only [nRm]; omega⟩ hl.1 rfl (Nat.le_of_ble_eq_true rfl) dX3_cutPart_5 ⟨Nat.zero_le _, Nat.zero_le _⟩) hH (fun H locs hH => ?_)
  refine lv_if_eq (tgt := 31) hx hb dX3_cutPart_8 (by decide) (fun c3 => ?_) (fun c3 => ?_)
  · replace hg := ob_t c3 hg
    refine lv_iconst (v := (-1 : Int32)) hx hb dX3_cutPart_31 (by decide) ?_
    subst hQ
    exact ng_iret hx hb hr hlk (congrArg Prod.fst (Option.some.inj hg)) (congrArg Prod.snd (Option.some.inj hg)) hH dX3_cutPart_32
  · replace hg := ob_f c3 hg
    refine lv_aload_n hx hb dX3_cutPart_11 rfl (lv_at hl 0 rfl) ?_
    refine lv_iload_n hx hb dX3_cutPart_12 rfl (lv_at hl 1 rfl) ?_
    refine lv_iload_n hx hb dX3_cutPart_13 rfl (lv_at hl 2 rfl) ?_
    obtain ⟨q4, hc5, hg⟩ := ob_b hg
    refine ng_ci (ng_rV hx hb hml hown hts hK hH (As := [.int p1, .int p2]) (rest := []) 0 (cC_findCut l D cI cZ cA h hi p1 p2 σ q4 hc5 _) (by decide) rfl rfl mw_183 mw_184 mw_185 mw_2 mw_186 pdX3_findCut ⟨by rw [hR]; show _ ≤ _; simp only [nRm]; omega, by rw [hR]; show _ ≤ _; simp only [nRm]; omega⟩ hl.1 rfl (Nat.le_of_ble_eq_true rfl) dX3_cutPart_14 ⟨Nat.zero_le _, Nat.zero_le _⟩) hH (fun H locs hH => ?_)
    refine lv_if_eq (tgt := 31) hx hb dX3_cutPart_17 (by decide) (fun c6 => ?_) (fun c6 => ?_)
    · replace hg := ob_t c6 hg
      refine lv_iconst (v := (-1 : Int32)) hx hb dX3_cutPart_31 (by decide) ?_
      subst hQ
      exact ng_iret hx hb hr hlk (congrArg Prod.fst (Option.some.inj hg)) (congrArg Prod.snd (Option.some.inj hg)) hH dX3_cutPart_32
    · replace hg := ob_f c6 hg
      refine lv_aload_n hx hb dX3_cutPart_20 rfl (lv_at hl 0 rfl) ?_
      refine ng_get hx hb hts hown hK hH 0 (by decide) rfl rfl inlX3 1 (by decide) mw_19 rfl dX3_cutPart_21 ?_
      refine lv_iload_n hx hb dX3_cutPart_24 rfl (lv_at hl 3 rfl) ?_
      obtain ⟨q7, hc8, hg⟩ := ob_b hg
      refine ng_ci (ng_rV hx hb hml hown hts hK hH (As := [.int p3]) (rest := []) 9 (cS_partOf l D cI cZ cA h hi p3 q4.2 q7 hc8 _) (by decide) rfl rfl mw_283 mw_284 mw_285 mw_18 mw_286 pdX2_partOf ⟨by rw [hR]; show _ ≤ _; simp only [nRm]; omega, by rw [hR]; show _ ≤ _; simp only [nRm]; omega⟩ hl.1 rfl (Nat.le_of_ble_eq_true rfl) dX3_cutPart_25 ⟨Nat.zero_le _, Nat.zero_le _⟩) hH (fun H locs hH => ?_)
      refine lv_goto (tgt := 32) hx hb dX3_cutPart_28 (by decide) ?_
      subst hQ
      exact ng_iret hx hb hr hlk (congrArg Prod.fst (Option.some.inj hg)) (congrArg Prod.snd (Option.some.inj hg)) hH dX3_cutPart_32
set_option maxHeartbeats 8000000 in
set_option maxRecDepth 100000 in
theorem cC_findTerminals (l : Launch) (D : va_G) (cI cZ cA : ClassId) (h : Nat → Nat) (hi : nInj 48 h) (σ : nS) (q : Int32 × nS) (hg : gC_findTerminals σ = some q) : nMi l yX3_findTerminals cX3_findTerminals 2 (some .boolean) 15 D cI cZ cA 48 (cfC cI cZ cA h) h [.ref (h 0)] σ q.1 q.2 := by
  unfold gC_findTerminals at hg
  refine ng_body_i (by decide) hi (Nat.le_of_ble_eq_true rfl) ?_
  intro p e R s m args below meth c sz Q ls hx hb hml hr hlk hts hown hK hR hQ hl hH
  have hown : s.vm.findClass RX3 = some m.cls := hown
  have hl : lv_has ls 2 [(0, .ref (h 0))] := hl
  refine lv_aload_n hx hb dX3_findTerminals_0 rfl (lv_at hl 0 rfl) ?_
  refine ng_get hx hb hts hown hK hH 0 (by decide) rfl rfl inlX3 0 (by decide) mw_15 rfl dX3_findTerminals_1 ?_
  refine ng_get hx hb hts hown hK hH 1 (by decide) rfl rfl inlX1 5 (by decide) mw_191 rfl dX3_findTerminals_4 ?_
  refine lv_if_ne (tgt := 12) hx hb dX3_findTerminals_7 (by decide) (fun c1 => ?_) (fun c1 => ?_)
  · replace hg := ob_f c1 hg
    refine lv_aload_n hx hb dX3_findTerminals_12 rfl (lv_at hl 0 rfl) ?_
    obtain ⟨q2, hc3, hg⟩ := ob_b hg
    refine ng_cv (ng_rV hx hb hml hown hts hK hH (As := []) (rest := []) 0 (cC_prepareSums l D cI cZ cA h hi σ q2 hc3 _) (by decide) rfl rfl mw_187 mw_188 mw_189 mw_2 mw_190 pdX3_prepareSums ⟨by rw [hR]; show _ ≤ _; simp only [nRm]; omega, by rw [hR]; show _ ≤ _; simp only [nRm]; omega⟩ hl.1 rfl (Nat.le_of_ble_eq_true rfl) dX3_findTerminals_13 ⟨Nat.zero_le _, Nat.zero_le _⟩) hH (fun H locs hH => ?_)
    refine lv_iconst (v := (0 : Int32)) hx hb dX3_findTerminals_16 (by decide) ?_
    refine lv_istore_n (lv' := [(1, .int (0 : Int32)), (0, .ref (h 0))]) hx hb dX3_findTerminals_17 rfl hl (by decide) rfl (fun ls hl => ?_)
    have LP_18 : ∀ (K_18 : nS → Option (Int32 × nS)) (kk_18 : ∀ (σe_18 : nS) (H : Heap) (locs : List Loc) (ls : Array Slot), K_18 σe_18 = some q → nH D 48 (cfC cI cZ cA h) h (nAd 48 h sz) s.heap σe_18 H locs → lv_has ls 2 [(0, .ref (h 0))] → W p l e R s m args below meth c H locs 0 0 Q (F0 m 64 ls [])) (n : Nat) (v1_18 : Int32) (σl_18 : nS) (H : Heap) (locs : List Loc) (ls : Array Slot), gC_findTerminals_L18 K_18 n v1_18 σl_18 = some q → nH D 48 (cfC cI cZ cA h) h (nAd 48 h sz) s.heap σl_18 H locs → lv_has ls 2 [(0, .ref (h 0)), (1, .int v1_18)] → W p l e R s m args below meth c H locs 0 0 Q (F0 m 18 ls []) := by
      intro K_18 kk_18 n
      induction n with
      | zero => intro v1_18 σl_18 H locs ls hg hH hl; rw [gC_findTerminals_L18] at hg; exact ob_n hg
      | succ n ih_18 =>
        intro v1_18 σl_18 H locs ls hg hH hl
        rw [gC_findTerminals_L18] at hg
        refine lv_iload_n hx hb dX3_findTerminals_18 rfl (lv_at hl 1 rfl) ?_
        refine lv_aload_n hx hb dX3_findTerminals_19 rfl (lv_at hl 0 rfl) ?_
        refine ng_get hx hb hts hown hK hH 0 (by decide) rfl rfl inlX3 0 (by decide) mw_15 rfl dX3_findTerminals_20 ?_
        refine ng_get hx hb hts hown hK hH 1 (by decide) rfl rfl inlX1 5 (by decide) mw_191 rfl dX3_findTerminals_23 ?_
        refine lv_icmp_ge (tgt := 64) hx hb dX3_findTerminals_26 (by decide) (fun c6 => ?_) (fun c6 => ?_)
        · replace hg := ob_t c6 hg
          exact kk_18 σl_18 H locs ls hg hH (lv_sub hl [0] rfl)
        · replace hg := ob_f c6 hg
          refine lv_aload_n hx hb dX3_findTerminals_29 rfl (lv_at hl 0 rfl) ?_
          refine ng_get hx hb hts hown hK hH 0 (by decide) rfl rfl inlX3 5 (by decide) mw_27 rfl dX3_findTerminals_30 ?_
          refine lv_iload_n hx hb dX3_findTerminals_33 rfl (lv_at hl 1 rfl) ?_
          obtain ⟨q7, hc8, hg⟩ := ob_b hg
          refine ng_ci (ng_rS hx hb hml hown hts hK hH (As := [.int (σl_18 0 5), .int v1_18]) (rest := []) (cC_holds l D cI cZ cA h hi (σl_18 0 5) v1_18 σl_18 q7 hc8 _) mw_146 mw_147 mw_2 mw_148 pdX3_holds.2 ⟨by rw [hR]; show _ ≤ _; simp only [nRm]; omega, by rw [hR]; show _ ≤ _; simp only [nRm]; omega⟩ hl.1 rfl (Nat.le_of_ble_eq_true rfl) dX3_findTerminals_34 ⟨Nat.zero_le _, Nat.zero_le _⟩) hH (fun H locs hH => ?_)
          refine lv_if_eq (tgt := 58) hx hb dX3_findTerminals_37 (by decide) (fun c9 => ?_) (fun c9 => ?_)
          · replace hg := ob_t c9 hg
            refine lv_iinc (v := (v1_18 + 1)) (lv' := [(1, .int (v1_18 + 1)), (0, .ref (h 0))]) hx hb dX3_findTerminals_58 hl (k := 1) rfl rfl (by decide) rfl (fun ls hl => ?_)
            refine lv_goto (tgt := 18) hx hb dX3_findTerminals_61 (by decide) ?_
            exact ih_18 (v1_18 + 1) σl_18 H locs ls hg hH (lv_sub hl [1, 0] rfl)
          · replace hg := ob_f c9 hg
            refine lv_aload_n hx hb dX3_findTerminals_40 rfl (lv_at hl 0 rfl) ?_
            refine ng_get hx hb hts hown hK hH 0 (by decide) rfl rfl inlX3 1 (by decide) mw_19 rfl dX3_findTerminals_41 ?_
            refine lv_iload_n hx hb dX3_findTerminals_44 rfl (lv_at hl 1 rfl) ?_
            refine lv_aload_n hx hb dX3_findTerminals_45 rfl (lv_at hl 0 rfl) ?_
            refine ng_get hx hb hts hown hK hH 0 (by decide) rfl rfl inlX3 5 (by decide) mw_27 rfl dX3_findTerminals_46 ?_
            refine lv_iconst (v := (1 : Int32)) hx hb dX3_findTerminals_49 (by decide) ?_
            refine lv_iload_n hx hb dX3_findTerminals_50 rfl (lv_at hl 1 rfl) ?_
            refine lv_ishl hx hb dX3_findTerminals_51 ?_
            refine lv_iconst (v := (-1 : Int32)) hx hb dX3_findTerminals_52 (by decide) ?_
            refine lv_ixor hx hb dX3_findTerminals_53 ?_
            refine lv_iand hx hb dX3_findTerminals_54 ?_
            obtain ⟨q10, hc11, hg⟩ := ob_b hg
            refine ng_cv (ng_rV hx hb hml hown hts hK hH (As := [.int v1_18, .int ((σl_18 0 5) &&& (((1 : Int32) <<< (v1_18 &&& 31)) ^^^ (-1 : Int32)))]) (rest := []) 9 (cS_keepApartFrom l D cI cZ cA h hi v1_18 ((σl_18 0 5) &&& (((1 : Int32) <<< (v1_18 &&& 31)) ^^^ (-1 : Int32))) σl_18 q10 hc11 _) (by decide) rfl rfl mw_299 mw_217 mw_218 mw_18 mw_219 pdX2_keepApartFrom ⟨by rw [hR]; show _ ≤ _; simp only [nRm]; omega, by rw [hR]; show _ ≤ _; simp only [nRm]; omega⟩ hl.1 rfl (Nat.le_of_ble_eq_true rfl) dX3_findTerminals_55 ⟨Nat.zero_le _, Nat.zero_le _⟩) hH (fun H locs hH => ?_)
            refine lv_iinc (v := (v1_18 + 1)) (lv' := [(1, .int (v1_18 + 1)), (0, .ref (h 0))]) hx hb dX3_findTerminals_58 hl (k := 1) rfl rfl (by decide) rfl (fun ls hl => ?_)
            refine lv_goto (tgt := 18) hx hb dX3_findTerminals_61 (by decide) ?_
            exact ih_18 (v1_18 + 1) q10 H locs ls hg hH (lv_sub hl [1, 0] rfl)
    refine LP_18 _ ?_ _ _ _ _ _ _ hg hH (lv_sub hl [1, 0] rfl)
    intro σe_18 H locs ls hg hH hl
    refine lv_aload_n hx hb dX3_findTerminals_64 rfl (lv_at hl 0 rfl) ?_
    refine ng_get hx hb hts hown hK hH 0 (by decide) rfl rfl inlX3 1 (by decide) mw_19 rfl dX3_findTerminals_65 ?_
    obtain ⟨q4, hc5, hg⟩ := ob_b hg
    refine ng_cv (ng_rV hx hb hml hown hts hK hH (As := []) (rest := []) 9 (cS_run l D cI cZ cA h hi σe_18 q4 hc5 _) (by decide) rfl rfl mw_220 mw_221 mw_222 mw_18 mw_223 pdX2_run ⟨by rw [hR]; show _ ≤ _; simp only [nRm]; omega, by rw [hR]; show _ ≤ _; simp only [nRm]; omega⟩ hl.1 rfl (Nat.le_of_ble_eq_true rfl) dX3_findTerminals_68 ⟨Nat.zero_le _, Nat.zero_le _⟩) hH (fun H locs hH => ?_)
    refine lv_iconst (v := (1 : Int32)) hx hb dX3_findTerminals_71 (by decide) ?_
    subst hQ
    exact ng_zret hx hb hr hlk (by decide) (congrArg Prod.fst (Option.some.inj hg)) (congrArg Prod.snd (Option.some.inj hg)) hH dX3_findTerminals_72
  · replace hg := ob_t c1 hg
    refine lv_iconst (v := (0 : Int32)) hx hb dX3_findTerminals_10 (by decide) ?_
    subst hQ
    exact ng_zret hx hb hr hlk (by decide) (congrArg Prod.fst (Option.some.inj hg)) (congrArg Prod.snd (Option.some.inj hg)) hH dX3_findTerminals_11
