set_option maxHeartbeats 8000000 in
set_option maxRecDepth 100000 in
theorem cM_unpair (l : Launch) (D : va_G) (cI cZ cA : ClassId) (h : Nat → Nat) (hi : nInj 14 h) (p1 p2 : Int32) (σ : nS) (q : Int32 × nS) (hg : gM_unpair p1 p2 σ = some q) : nMi l yX4_unpair cX4_unpair 4 (some .boolean) 2 D cI cZ cA 14 (cfM cI cZ h) h [.ref (h 0), .int p1, .int p2] σ q.1 q.2 := by
  unfold gM_unpair at hg
  refine ng_body_i (by decide) hi (Nat.le_of_ble_eq_true rfl) ?_
  intro p e R s m args below meth c sz Q ls hx hb hml hr hlk hts hown hK hR hQ hl hH
  have hown : s.vm.findClass RX4 = some m.cls := hown
  have hl : lv_has ls 4 [(0, .ref (h 0)), (1, .int p1), (2, .int p2)] := hl
  refine lv_aload_n hx hb dX4_unpair_0 rfl (lv_at hl 0 rfl) ?_
  refine lv_iload_n hx hb dX4_unpair_1 rfl (lv_at hl 1 rfl) ?_
  refine lv_iload_n hx hb dX4_unpair_2 rfl (lv_at hl 2 rfl) ?_
  obtain ⟨q1, hc2, hg⟩ := ob_b hg
  refine ng_ci (ng_rV hx hb hml hown hts hK hH (As := [.int p1, .int p2]) (rest := []) 0 (cM_pairOf l D cI cZ cA h hi p1 p2 σ q1 hc2 _) (by decide) rfl rfl mw_167 mw_168 mw_169 mw_5 mw_170 pdX4_pairOf ⟨by rw [hR]; show _ ≤ _; simp only [nRm]; omega, by rw [hR]; show _ ≤ _; simp only [nRm]; omega⟩ hl.1 rfl (Nat.le_of_ble_eq_true rfl) dX4_unpair_3 ⟨Nat.zero_le _, Nat.zero_le _⟩) hH (fun H locs hH => ?_)
  refine lv_istore_n (lv' := [(3, .int q1), (0, .ref (h 0)), (1, .int p1), (2, .int p2)]) hx hb dX4_unpair_6 rfl hl (by decide) rfl (fun ls hl => ?_)
  refine lv_iload_n hx hb dX4_unpair_7 rfl (lv_at hl 0 rfl) ?_
  refine lv_iconst (v := (-1 : Int32)) hx hb dX4_unpair_8 (by decide) ?_
  refine lv_icmp_ne (tgt := 14) hx hb dX4_unpair_9 (by decide) (fun c3 => ?_) (fun c3 => ?_)
  · replace hg := ob_f c3 hg
    refine lv_aload_n hx hb dX4_unpair_14 rfl (lv_at hl 1 rfl) ?_
    refine lv_dup hx hb dX4_unpair_15 rfl ?_
    refine ng_get hx hb hts hown hK hH 0 (by decide) rfl rfl inlX4 11 (by decide) mw_166 rfl dX4_unpair_16 ?_
    refine lv_iconst (v := (1 : Int32)) hx hb dX4_unpair_19 (by decide) ?_
    refine lv_isub hx hb dX4_unpair_20 ?_
    refine ng_put hx hb hts hown hK hH 0 (by decide) rfl rfl inlX4 tyX4 tyX4_ok nmX4 11 (by decide) mw_166 rfl (by decide +kernel) (Nat.le_of_ble_eq_true rfl) rfl dX4_unpair_21 (fun H locs hH => ?_)
    refine lv_aload_n hx hb dX4_unpair_24 rfl (lv_at hl 1 rfl) ?_
    refine ng_get hx hb hts hown hK hH 0 (by decide) rfl rfl inlX4 9 (by decide) mw_74 rfl dX4_unpair_25 ?_
    refine lv_iload_n hx hb dX4_unpair_28 rfl (lv_at hl 0 rfl) ?_
    refine lv_aload_n hx hb dX4_unpair_29 rfl (lv_at hl 1 rfl) ?_
    refine ng_get hx hb hts hown hK hH 0 (by decide) rfl rfl inlX4 9 (by decide) mw_74 rfl dX4_unpair_30 ?_
    refine lv_aload_n hx hb dX4_unpair_33 rfl (lv_at hl 1 rfl) ?_
    refine ng_get hx hb hts hown hK hH 0 (by decide) rfl rfl inlX4 11 (by decide) mw_166 rfl dX4_unpair_34 ?_
    obtain ⟨hb4, hg⟩ := ob_i hg
    refine ng_iald hx hb hK hH 8 (by decide) (fun _ => rfl) hb4 dX4_unpair_37 ?_
    obtain ⟨hb5, hg⟩ := ob_i hg
    refine ng_iast hx hb hK hH 8 (by decide) (fun _ => rfl) hb5 dX4_unpair_38 (fun H locs hH => ?_)
    refine lv_aload_n hx hb dX4_unpair_39 rfl (lv_at hl 1 rfl) ?_
    refine ng_get hx hb hts hown hK hH 0 (by decide) rfl rfl inlX4 10 (by decide) mw_75 rfl dX4_unpair_40 ?_
    refine lv_iload_n hx hb dX4_unpair_43 rfl (lv_at hl 0 rfl) ?_
    refine lv_aload_n hx hb dX4_unpair_44 rfl (lv_at hl 1 rfl) ?_
    refine ng_get hx hb hts hown hK hH 0 (by decide) rfl rfl inlX4 10 (by decide) mw_75 rfl dX4_unpair_45 ?_
    refine lv_aload_n hx hb dX4_unpair_48 rfl (lv_at hl 1 rfl) ?_
    refine ng_get hx hb hts hown hK hH 0 (by decide) rfl rfl inlX4 11 (by decide) mw_166 rfl dX4_unpair_49 ?_
    obtain ⟨hb6, hg⟩ := ob_i hg
    refine ng_iald hx hb hK hH 9 (by decide) (fun _ => rfl) hb6 dX4_unpair_52 ?_
    obtain ⟨hb7, hg⟩ := ob_i hg
    refine ng_iast hx hb hK hH 9 (by decide) (fun _ => rfl) hb7 dX4_unpair_53 (fun H locs hH => ?_)
    refine lv_iconst (v := (1 : Int32)) hx hb dX4_unpair_54 (by decide) ?_
    subst hQ
    exact ng_zret hx hb hr hlk (by decide) (congrArg Prod.fst (Option.some.inj hg)) (congrArg Prod.snd (Option.some.inj hg)) hH dX4_unpair_55
  · replace hg := ob_t c3 hg
    refine lv_iconst (v := (0 : Int32)) hx hb dX4_unpair_12 (by decide) ?_
    subst hQ
    exact ng_zret hx hb hr hlk (by decide) (congrArg Prod.fst (Option.some.inj hg)) (congrArg Prod.snd (Option.some.inj hg)) hH dX4_unpair_13
set_option maxHeartbeats 8000000 in
set_option maxRecDepth 100000 in
theorem cM_isWanted (l : Launch) (D : va_G) (cI cZ cA : ClassId) (h : Nat → Nat) (hi : nInj 14 h) (p1 : Int32) (σ : nS) (q : Int32) (hg : gM_isWanted p1 σ = some q) : nMi l yX4_isWanted cX4_isWanted 5 (some .boolean) 1 D cI cZ cA 14 (cfM cI cZ h) h [.ref (h 0), .int p1] σ q σ := by
  unfold gM_isWanted at hg
  refine ng_body_i (by decide) hi (Nat.le_of_ble_eq_true rfl) ?_
  intro p e R s m args below meth c sz Q ls hx hb hml hr hlk hts hown hK hR hQ hl hH
  have hown : s.vm.findClass RX4 = some m.cls := hown
  have hl : lv_has ls 5 [(0, .ref (h 0)), (1, .int p1)] := hl
  refine lv_iconst (v := (1 : Int32)) hx hb dX4_isWanted_0 (by decide) ?_
  refine lv_istore_n (lv' := [(2, .int (1 : Int32)), (0, .ref (h 0)), (1, .int p1)]) hx hb dX4_isWanted_1 rfl hl (by decide) rfl (fun ls hl => ?_)
  refine lv_aload_n hx hb dX4_isWanted_2 rfl (lv_at hl 1 rfl) ?_
  refine ng_get hx hb hts hown hK hH 0 (by decide) rfl rfl inlX4 14 (by decide) mw_258 rfl dX4_isWanted_3 ?_
  by_cases c1 : (σ 0 14) = 0
  · replace hg := ob_t c1 hg
    refine lv_tableIn (tgt := 36) hx hb dX4_isWanted_6 (by rw [c1]; decide) (by rw [c1]; decide) (by rw [c1]; rfl) (by decide) ?_
    refine lv_aload_n hx hb dX4_isWanted_36 rfl (lv_at hl 1 rfl) ?_
    refine ng_get hx hb hts hown hK hH 0 (by decide) rfl rfl inlX4 12 (by decide) mw_76 rfl dX4_isWanted_37 ?_
    refine lv_aload_n hx hb dX4_isWanted_40 rfl (lv_at hl 1 rfl) ?_
    refine ng_get hx hb hts hown hK hH 0 (by decide) rfl rfl inlX4 15 (by decide) mw_252 rfl dX4_isWanted_41 ?_
    obtain ⟨hb2, hg⟩ := ob_i hg
    refine ng_iald hx hb hK hH 10 (by decide) (fun _ => rfl) hb2 dX4_isWanted_44 ?_
    refine lv_aload_n hx hb dX4_isWanted_45 rfl (lv_at hl 1 rfl) ?_
    refine ng_get hx hb hts hown hK hH 0 (by decide) rfl rfl inlX4 12 (by decide) mw_76 rfl dX4_isWanted_46 ?_
    refine lv_aload_n hx hb dX4_isWanted_49 rfl (lv_at hl 1 rfl) ?_
    refine ng_get hx hb hts hown hK hH 0 (by decide) rfl rfl inlX4 16 (by decide) mw_253 rfl dX4_isWanted_50 ?_
    obtain ⟨hb3, hg⟩ := ob_i hg
    refine ng_iald hx hb hK hH 10 (by decide) (fun _ => rfl) hb3 dX4_isWanted_53 ?_
    refine lv_icmp_eq (tgt := 61) hx hb dX4_isWanted_54 (by decide) (fun c4 => ?_) (fun c4 => ?_)
    · replace hg := ob_t c4 hg
      refine lv_iconst (v := (0 : Int32)) hx hb dX4_isWanted_61 (by decide) ?_
      subst hQ
      exact ng_zret hx hb hr hlk (by decide) (Option.some.inj hg) rfl hH dX4_isWanted_62
    · replace hg := ob_f c4 hg
      refine lv_iconst (v := (1 : Int32)) hx hb dX4_isWanted_57 (by decide) ?_
      refine lv_goto (tgt := 62) hx hb dX4_isWanted_58 (by decide) ?_
      subst hQ
      exact ng_zret hx hb hr hlk (by decide) (Option.some.inj hg) rfl hH dX4_isWanted_62
  · replace hg := ob_f c1 hg
    by_cases c5 : (σ 0 14) = 1
    · replace hg := ob_t c5 hg
      refine lv_tableIn (tgt := 63) hx hb dX4_isWanted_6 (by rw [c5]; decide) (by rw [c5]; decide) (by rw [c5]; rfl) (by decide) ?_
      refine lv_iconst (v := (0 : Int32)) hx hb dX4_isWanted_63 (by decide) ?_
      refine lv_istore_n (lv' := [(3, .int (0 : Int32)), (2, .int (1 : Int32)), (0, .ref (h 0)), (1, .int p1)]) hx hb dX4_isWanted_64 rfl hl (by decide) rfl (fun ls hl => ?_)
      have LP_65 : ∀ (K_65 : Int32 → Option Int32) (kk_65 : ∀ (w2_65 : Int32) (H : Heap) (locs : List Loc) (ls : Array Slot), K_65 w2_65 = some q → nH D 14 (cfM cI cZ h) h (nAd 14 h sz) s.heap σ H locs → lv_has ls 5 [(2, .int w2_65)] → W p l e R s m args below meth c H locs 0 0 Q (F0 m 139 ls [])) (n : Nat) (v2_65 v3_65 : Int32) (H : Heap) (locs : List Loc) (ls : Array Slot), gM_isWanted_L65 σ K_65 n v2_65 v3_65 = some q → nH D 14 (cfM cI cZ h) h (nAd 14 h sz) s.heap σ H locs → lv_has ls 5 [(0, .ref (h 0)), (2, .int v2_65), (3, .int v3_65)] → W p l e R s m args below meth c H locs 0 0 Q (F0 m 65 ls []) := by
        intro K_65 kk_65 n
        induction n with
        | zero => intro v2_65 v3_65 H locs ls hg hH hl; rw [gM_isWanted_L65] at hg; exact ob_n hg
        | succ n ih_65 =>
          intro v2_65 v3_65 H locs ls hg hH hl
          rw [gM_isWanted_L65] at hg
          refine lv_iload_n hx hb dX4_isWanted_65 rfl (lv_at hl 2 rfl) ?_
          refine lv_aload_n hx hb dX4_isWanted_66 rfl (lv_at hl 0 rfl) ?_
          refine ng_get hx hb hts hown hK hH 0 (by decide) rfl rfl inlX4 2 (by decide) mw_92 rfl dX4_isWanted_67 ?_
          refine lv_icmp_ge (tgt := 139) hx hb dX4_isWanted_70 (by decide) (fun c6 => ?_) (fun c6 => ?_)
          · replace hg := ob_t c6 hg
            exact kk_65 v2_65 H locs ls hg hH (lv_sub hl [1] rfl)
          · replace hg := ob_f c6 hg
            refine lv_iconst (v := (0 : Int32)) hx hb dX4_isWanted_73 (by decide) ?_
            refine lv_istore (lv' := [(4, .int (0 : Int32)), (0, .ref (h 0)), (2, .int v2_65), (3, .int v3_65)]) hx hb dX4_isWanted_74 hl (by decide) rfl (fun ls hl => ?_)
            have LP_76 : ∀ (K_76 : Int32 → Option Int32) (kk_76 : ∀ (w2_76 : Int32) (H : Heap) (locs : List Loc) (ls : Array Slot), K_76 w2_76 = some q → nH D 14 (cfM cI cZ h) h (nAd 14 h sz) s.heap σ H locs → lv_has ls 5 [(0, .ref (h 0)), (2, .int w2_76), (3, .int v3_65)] → W p l e R s m args below meth c H locs 0 0 Q (F0 m 133 ls [])) (n : Nat) (v2_76 v4_76 : Int32) (H : Heap) (locs : List Loc) (ls : Array Slot), gM_isWanted_L76 v3_65 σ K_76 n v2_76 v4_76 = some q → nH D 14 (cfM cI cZ h) h (nAd 14 h sz) s.heap σ H locs → lv_has ls 5 [(0, .ref (h 0)), (2, .int v2_76), (3, .int v3_65), (4, .int v4_76)] → W p l e R s m args below meth c H locs 0 0 Q (F0 m 76 ls []) := by
              intro K_76 kk_76 n
              induction n with
              | zero => intro v2_76 v4_76 H locs ls hg hH hl; rw [gM_isWanted_L76] at hg; exact ob_n hg
              | succ n ih_76 =>
                intro v2_76 v4_76 H locs ls hg hH hl
                rw [gM_isWanted_L76] at hg
                refine lv_iload hx hb dX4_isWanted_76 (lv_at hl 3 rfl) ?_
                refine lv_iload_n hx hb dX4_isWanted_78 rfl (lv_at hl 2 rfl) ?_
                refine lv_icmp_ge (tgt := 133) hx hb dX4_isWanted_79 (by decide) (fun c7 => ?_) (fun c7 => ?_)
                · replace hg := ob_t c7 hg
                  exact kk_76 v2_76 H locs ls hg hH (lv_sub hl [0, 1, 2] rfl)
                · replace hg := ob_f c7 hg
                  refine lv_iload_n hx hb dX4_isWanted_82 rfl (lv_at hl 1 rfl) ?_
                  refine lv_if_eq (tgt := 125) hx hb dX4_isWanted_83 (by decide) (fun c8 => ?_) (fun c8 => ?_)
                  · replace hg := ob_t c8 hg
                    refine lv_iconst (v := (0 : Int32)) hx hb dX4_isWanted_125 (by decide) ?_
                    refine lv_istore_n (lv' := [(2, .int (0 : Int32)), (0, .ref (h 0)), (3, .int v3_65), (4, .int v4_76)]) hx hb dX4_isWanted_126 rfl hl (by decide) rfl (fun ls hl => ?_)
                    refine lv_iinc (v := (v4_76 + 1)) (lv' := [(4, .int (v4_76 + 1)), (2, .int (0 : Int32)), (0, .ref (h 0)), (3, .int v3_65)]) hx hb dX4_isWanted_127 hl (k := 3) rfl rfl (by decide) rfl (fun ls hl => ?_)
                    refine lv_goto (tgt := 76) hx hb dX4_isWanted_130 (by decide) ?_
                    exact ih_76 (0 : Int32) (v4_76 + 1) H locs ls hg hH (lv_sub hl [2, 1, 3, 0] rfl)
                  · replace hg := ob_f c8 hg
                    refine lv_aload_n hx hb dX4_isWanted_86 rfl (lv_at hl 0 rfl) ?_
                    refine ng_get hx hb hts hown hK hH 0 (by decide) rfl rfl inlX4 1 (by decide) mw_68 rfl dX4_isWanted_87 ?_
                    refine lv_iload_n hx hb dX4_isWanted_90 rfl (lv_at hl 2 rfl) ?_
                    obtain ⟨hb9, hg⟩ := ob_i hg
                    refine ng_zald hx hb hK hH 2 (by decide) (fun _ => rfl) hb9 dX4_isWanted_91 ?_
                    refine lv_if_eq (tgt := 121) hx hb dX4_isWanted_92 (by decide) (fun c10 => ?_) (fun c10 => ?_)
                    · replace hg := ob_t c10 hg
                      refine lv_iconst (v := (1 : Int32)) hx hb dX4_isWanted_121 (by decide) ?_
                      refine lv_goto (tgt := 126) hx hb dX4_isWanted_122 (by decide) ?_
                      refine lv_istore_n (lv' := [(2, .int (1 : Int32)), (0, .ref (h 0)), (3, .int v3_65), (4, .int v4_76)]) hx hb dX4_isWanted_126 rfl hl (by decide) rfl (fun ls hl => ?_)
                      refine lv_iinc (v := (v4_76 + 1)) (lv' := [(4, .int (v4_76 + 1)), (2, .int (1 : Int32)), (0, .ref (h 0)), (3, .int v3_65)]) hx hb dX4_isWanted_127 hl (k := 3) rfl rfl (by decide) rfl (fun ls hl => ?_)
                      refine lv_goto (tgt := 76) hx hb dX4_isWanted_130 (by decide) ?_
                      exact ih_76 (1 : Int32) (v4_76 + 1) H locs ls hg hH (lv_sub hl [2, 1, 3, 0] rfl)
                    · replace hg := ob_f c10 hg
                      refine lv_aload_n hx hb dX4_isWanted_95 rfl (lv_at hl 0 rfl) ?_
                      refine ng_get hx hb hts hown hK hH 0 (by decide) rfl rfl inlX4 1 (by decide) mw_68 rfl dX4_isWanted_96 ?_
                      refine lv_iload hx hb dX4_isWanted_99 (lv_at hl 3 rfl) ?_
                      obtain ⟨hb11, hg⟩ := ob_i hg
                      refine ng_zald hx hb hK hH 2 (by decide) (fun _ => rfl) hb11 dX4_isWanted_101 ?_
                      refine lv_if_eq (tgt := 121) hx hb dX4_isWanted_102 (by decide) (fun c12 => ?_) (fun c12 => ?_)
                      · replace hg := ob_t c12 hg
                        refine lv_iconst (v := (1 : Int32)) hx hb dX4_isWanted_121 (by decide) ?_
                        refine lv_goto (tgt := 126) hx hb dX4_isWanted_122 (by decide) ?_
                        refine lv_istore_n (lv' := [(2, .int (1 : Int32)), (0, .ref (h 0)), (3, .int v3_65), (4, .int v4_76)]) hx hb dX4_isWanted_126 rfl hl (by decide) rfl (fun ls hl => ?_)
                        refine lv_iinc (v := (v4_76 + 1)) (lv' := [(4, .int (v4_76 + 1)), (2, .int (1 : Int32)), (0, .ref (h 0)), (3, .int v3_65)]) hx hb dX4_isWanted_127 hl (k := 3) rfl rfl (by decide) rfl (fun ls hl => ?_)
                        refine lv_goto (tgt := 76) hx hb dX4_isWanted_130 (by decide) ?_
                        exact ih_76 (1 : Int32) (v4_76 + 1) H locs ls hg hH (lv_sub hl [2, 1, 3, 0] rfl)
                      · replace hg := ob_f c12 hg
                        refine lv_aload_n hx hb dX4_isWanted_105 rfl (lv_at hl 0 rfl) ?_
                        refine ng_get hx hb hts hown hK hH 0 (by decide) rfl rfl inlX4 12 (by decide) mw_76 rfl dX4_isWanted_106 ?_
                        refine lv_iload_n hx hb dX4_isWanted_109 rfl (lv_at hl 2 rfl) ?_
                        obtain ⟨hb13, hg⟩ := ob_i hg
                        refine ng_iald hx hb hK hH 10 (by decide) (fun _ => rfl) hb13 dX4_isWanted_110 ?_
                        refine lv_aload_n hx hb dX4_isWanted_111 rfl (lv_at hl 0 rfl) ?_
                        refine ng_get hx hb hts hown hK hH 0 (by decide) rfl rfl inlX4 12 (by decide) mw_76 rfl dX4_isWanted_112 ?_
                        refine lv_iload hx hb dX4_isWanted_115 (lv_at hl 3 rfl) ?_
                        obtain ⟨hb14, hg⟩ := ob_i hg
                        refine ng_iald hx hb hK hH 10 (by decide) (fun _ => rfl) hb14 dX4_isWanted_117 ?_
                        refine lv_icmp_eq (tgt := 125) hx hb dX4_isWanted_118 (by decide) (fun c15 => ?_) (fun c15 => ?_)
                        · replace hg := ob_t c15 hg
                          refine lv_iconst (v := (0 : Int32)) hx hb dX4_isWanted_125 (by decide) ?_
                          refine lv_istore_n (lv' := [(2, .int (0 : Int32)), (0, .ref (h 0)), (3, .int v3_65), (4, .int v4_76)]) hx hb dX4_isWanted_126 rfl hl (by decide) rfl (fun ls hl => ?_)
                          refine lv_iinc (v := (v4_76 + 1)) (lv' := [(4, .int (v4_76 + 1)), (2, .int (0 : Int32)), (0, .ref (h 0)), (3, .int v3_65)]) hx hb dX4_isWanted_127 hl (k := 3) rfl rfl (by decide) rfl (fun ls hl => ?_)
                          refine lv_goto (tgt := 76) hx hb dX4_isWanted_130 (by decide) ?_
                          exact ih_76 (0 : Int32) (v4_76 + 1) H locs ls hg hH (lv_sub hl [2, 1, 3, 0] rfl)
                        · replace hg := ob_f c15 hg
                          refine lv_iconst (v := (1 : Int32)) hx hb dX4_isWanted_121 (by decide) ?_
                          refine lv_goto (tgt := 126) hx hb dX4_isWanted_122 (by decide) ?_
                          refine lv_istore_n (lv' := [(2, .int (1 : Int32)), (0, .ref (h 0)), (3, .int v3_65), (4, .int v4_76)]) hx hb dX4_isWanted_126 rfl hl (by decide) rfl (fun ls hl => ?_)
                          refine lv_iinc (v := (v4_76 + 1)) (lv' := [(4, .int (v4_76 + 1)), (2, .int (1 : Int32)), (0, .ref (h 0)), (3, .int v3_65)]) hx hb dX4_isWanted_127 hl (k := 3) rfl rfl (by decide) rfl (fun ls hl => ?_)
                          refine lv_goto (tgt := 76) hx hb dX4_isWanted_130 (by decide) ?_
                          exact ih_76 (1 : Int32) (v4_76 + 1) H locs ls hg hH (lv_sub hl [2, 1, 3, 0] rfl)
            refine LP_76 _ ?_ _ _ _ _ _ _ hg hH (lv_sub hl [1, 2, 3, 0] rfl)
            intro w2_76 H locs ls hg hH hl
            refine lv_iinc (v := (v3_65 + 1)) (lv' := [(3, .int (v3_65 + 1)), (0, .ref (h 0)), (2, .int w2_76)]) hx hb dX4_isWanted_133 hl (k := 2) rfl rfl (by decide) rfl (fun ls hl => ?_)
            refine lv_goto (tgt := 65) hx hb dX4_isWanted_136 (by decide) ?_
            exact ih_65 w2_76 (v3_65 + 1) H locs ls hg hH (lv_sub hl [1, 2, 0] rfl)
      refine LP_65 _ ?_ _ _ _ _ _ _ hg hH (lv_sub hl [2, 1, 0] rfl)
      intro w2_65 H locs ls hg hH hl
      refine lv_iload_n hx hb dX4_isWanted_139 rfl (lv_at hl 0 rfl) ?_
      obtain ⟨hz, hg⟩ := ob_i hg
      subst hQ
      exact ng_zret hx hb hr hlk hz (Option.some.inj hg) rfl hH dX4_isWanted_140
    · replace hg := ob_f c5 hg
      by_cases c16 : (σ 0 14) = 2
      · replace hg := ob_t c16 hg
        refine lv_tableIn (tgt := 141) hx hb dX4_isWanted_6 (by rw [c16]; decide) (by rw [c16]; decide) (by rw [c16]; rfl) (by decide) ?_
        refine lv_iconst (v := (0 : Int32)) hx hb dX4_isWanted_141 (by decide) ?_
        refine lv_istore_n (lv' := [(3, .int (0 : Int32)), (2, .int (1 : Int32)), (0, .ref (h 0)), (1, .int p1)]) hx hb dX4_isWanted_142 rfl hl (by decide) rfl (fun ls hl => ?_)
        have LP_143 : ∀ (K_143 : Int32 → Option Int32) (kk_143 : ∀ (w2_143 : Int32) (H : Heap) (locs : List Loc) (ls : Array Slot), K_143 w2_143 = some q → nH D 14 (cfM cI cZ h) h (nAd 14 h sz) s.heap σ H locs → lv_has ls 5 [(2, .int w2_143)] → W p l e R s m args below meth c H locs 0 0 Q (F0 m 192 ls [])) (n : Nat) (v2_143 v3_143 : Int32) (H : Heap) (locs : List Loc) (ls : Array Slot), gM_isWanted_L143 σ K_143 n v2_143 v3_143 = some q → nH D 14 (cfM cI cZ h) h (nAd 14 h sz) s.heap σ H locs → lv_has ls 5 [(0, .ref (h 0)), (2, .int v2_143), (3, .int v3_143)] → W p l e R s m args below meth c H locs 0 0 Q (F0 m 143 ls []) := by
          intro K_143 kk_143 n
          induction n with
          | zero => intro v2_143 v3_143 H locs ls hg hH hl; rw [gM_isWanted_L143] at hg; exact ob_n hg
          | succ n ih_143 =>
            intro v2_143 v3_143 H locs ls hg hH hl
            rw [gM_isWanted_L143] at hg
            refine lv_iload_n hx hb dX4_isWanted_143 rfl (lv_at hl 2 rfl) ?_
            refine lv_aload_n hx hb dX4_isWanted_144 rfl (lv_at hl 0 rfl) ?_
            refine ng_get hx hb hts hown hK hH 0 (by decide) rfl rfl inlX4 11 (by decide) mw_166 rfl dX4_isWanted_145 ?_
            refine lv_icmp_ge (tgt := 192) hx hb dX4_isWanted_148 (by decide) (fun c17 => ?_) (fun c17 => ?_)
            · replace hg := ob_t c17 hg
              exact kk_143 v2_143 H locs ls hg hH (lv_sub hl [1] rfl)
            · replace hg := ob_f c17 hg
              refine lv_iload_n hx hb dX4_isWanted_151 rfl (lv_at hl 1 rfl) ?_
              refine lv_if_eq (tgt := 184) hx hb dX4_isWanted_152 (by decide) (fun c18 => ?_) (fun c18 => ?_)
              · replace hg := ob_t c18 hg
                refine lv_iconst (v := (0 : Int32)) hx hb dX4_isWanted_184 (by decide) ?_
                refine lv_istore_n (lv' := [(2, .int (0 : Int32)), (0, .ref (h 0)), (3, .int v3_143)]) hx hb dX4_isWanted_185 rfl hl (by decide) rfl (fun ls hl => ?_)
                refine lv_iinc (v := (v3_143 + 1)) (lv' := [(3, .int (v3_143 + 1)), (2, .int (0 : Int32)), (0, .ref (h 0))]) hx hb dX4_isWanted_186 hl (k := 2) rfl rfl (by decide) rfl (fun ls hl => ?_)
                refine lv_goto (tgt := 143) hx hb dX4_isWanted_189 (by decide) ?_
                exact ih_143 (0 : Int32) (v3_143 + 1) H locs ls hg hH (lv_sub hl [2, 1, 0] rfl)
              · replace hg := ob_f c18 hg
                refine lv_aload_n hx hb dX4_isWanted_155 rfl (lv_at hl 0 rfl) ?_
                refine ng_get hx hb hts hown hK hH 0 (by decide) rfl rfl inlX4 12 (by decide) mw_76 rfl dX4_isWanted_156 ?_
                refine lv_aload_n hx hb dX4_isWanted_159 rfl (lv_at hl 0 rfl) ?_
                refine ng_get hx hb hts hown hK hH 0 (by decide) rfl rfl inlX4 9 (by decide) mw_74 rfl dX4_isWanted_160 ?_
                refine lv_iload_n hx hb dX4_isWanted_163 rfl (lv_at hl 2 rfl) ?_
                obtain ⟨hb19, hg⟩ := ob_i hg
                refine ng_iald hx hb hK hH 8 (by decide) (fun _ => rfl) hb19 dX4_isWanted_164 ?_
                obtain ⟨hb20, hg⟩ := ob_i hg
                refine ng_iald hx hb hK hH 10 (by decide) (fun _ => rfl) hb20 dX4_isWanted_165 ?_
                refine lv_aload_n hx hb dX4_isWanted_166 rfl (lv_at hl 0 rfl) ?_
                refine ng_get hx hb hts hown hK hH 0 (by decide) rfl rfl inlX4 12 (by decide) mw_76 rfl dX4_isWanted_167 ?_
                refine lv_aload_n hx hb dX4_isWanted_170 rfl (lv_at hl 0 rfl) ?_
                refine ng_get hx hb hts hown hK hH 0 (by decide) rfl rfl inlX4 10 (by decide) mw_75 rfl dX4_isWanted_171 ?_
                refine lv_iload_n hx hb dX4_isWanted_174 rfl (lv_at hl 2 rfl) ?_
                obtain ⟨hb21, hg⟩ := ob_i hg
                refine ng_iald hx hb hK hH 9 (by decide) (fun _ => rfl) hb21 dX4_isWanted_175 ?_
                obtain ⟨hb22, hg⟩ := ob_i hg
                refine ng_iald hx hb hK hH 10 (by decide) (fun _ => rfl) hb22 dX4_isWanted_176 ?_
                refine lv_icmp_eq (tgt := 184) hx hb dX4_isWanted_177 (by decide) (fun c23 => ?_) (fun c23 => ?_)
                · replace hg := ob_t c23 hg
                  refine lv_iconst (v := (0 : Int32)) hx hb dX4_isWanted_184 (by decide) ?_
                  refine lv_istore_n (lv' := [(2, .int (0 : Int32)), (0, .ref (h 0)), (3, .int v3_143)]) hx hb dX4_isWanted_185 rfl hl (by decide) rfl (fun ls hl => ?_)
                  refine lv_iinc (v := (v3_143 + 1)) (lv' := [(3, .int (v3_143 + 1)), (2, .int (0 : Int32)), (0, .ref (h 0))]) hx hb dX4_isWanted_186 hl (k := 2) rfl rfl (by decide) rfl (fun ls hl => ?_)
                  refine lv_goto (tgt := 143) hx hb dX4_isWanted_189 (by decide) ?_
                  exact ih_143 (0 : Int32) (v3_143 + 1) H locs ls hg hH (lv_sub hl [2, 1, 0] rfl)
                · replace hg := ob_f c23 hg
                  refine lv_iconst (v := (1 : Int32)) hx hb dX4_isWanted_180 (by decide) ?_
                  refine lv_goto (tgt := 185) hx hb dX4_isWanted_181 (by decide) ?_
                  refine lv_istore_n (lv' := [(2, .int (1 : Int32)), (0, .ref (h 0)), (3, .int v3_143)]) hx hb dX4_isWanted_185 rfl hl (by decide) rfl (fun ls hl => ?_)
                  refine lv_iinc (v := (v3_143 + 1)) (lv' := [(3, .int (v3_143 + 1)), (2, .int (1 : Int32)), (0, .ref (h 0))]) hx hb dX4_isWanted_186 hl (k := 2) rfl rfl (by decide) rfl (fun ls hl => ?_)
                  refine lv_goto (tgt := 143) hx hb dX4_isWanted_189 (by decide) ?_
                  exact ih_143 (1 : Int32) (v3_143 + 1) H locs ls hg hH (lv_sub hl [2, 1, 0] rfl)
        refine LP_143 _ ?_ _ _ _ _ _ _ hg hH (lv_sub hl [2, 1, 0] rfl)
        intro w2_143 H locs ls hg hH hl
        refine lv_iload_n hx hb dX4_isWanted_192 rfl (lv_at hl 0 rfl) ?_
        obtain ⟨hz, hg⟩ := ob_i hg
        subst hQ
        exact ng_zret hx hb hr hlk hz (Option.some.inj hg) rfl hH dX4_isWanted_193
      · replace hg := ob_f c16 hg
        by_cases c24 : (σ 0 14) = 3
        · replace hg := ob_t c24 hg
          refine lv_tableIn (tgt := 194) hx hb dX4_isWanted_6 (by rw [c24]; decide) (by rw [c24]; decide) (by rw [c24]; rfl) (by decide) ?_
          refine lv_iload_n hx hb dX4_isWanted_194 rfl (lv_at hl 2 rfl) ?_
          refine lv_aload_n hx hb dX4_isWanted_195 rfl (lv_at hl 1 rfl) ?_
          refine ng_get hx hb hts hown hK hH 0 (by decide) rfl rfl inlX4 17 (by decide) mw_274 rfl dX4_isWanted_196 ?_
          refine lv_icmp_ne (tgt := 206) hx hb dX4_isWanted_199 (by decide) (fun c25 => ?_) (fun c25 => ?_)
          · replace hg := ob_f c25 hg
            refine lv_iconst (v := (0 : Int32)) hx hb dX4_isWanted_206 (by decide) ?_
            subst hQ
            exact ng_zret hx hb hr hlk (by decide) (Option.some.inj hg) rfl hH dX4_isWanted_207
          · replace hg := ob_t c25 hg
            refine lv_iconst (v := (1 : Int32)) hx hb dX4_isWanted_202 (by decide) ?_
            refine lv_goto (tgt := 207) hx hb dX4_isWanted_203 (by decide) ?_
            subst hQ
            exact ng_zret hx hb hr hlk (by decide) (Option.some.inj hg) rfl hH dX4_isWanted_207
        · replace hg := ob_f c24 hg
          refine lv_tableOut (tgt := 208) hx hb dX4_isWanted_6 (by have c1z := ng_table (n := 0) rfl c1; have c5z := ng_table (n := 1) rfl c5; have c16z := ng_table (n := 2) rfl c16; have c24z := ng_table (n := 3) rfl c24; omega) (by decide) ?_
          refine lv_iconst (v := (1 : Int32)) hx hb dX4_isWanted_208 (by decide) ?_
          subst hQ
          exact ng_zret hx hb hr hlk (by decide) (Option.some.inj hg) rfl hH dX4_isWanted_209
set_option maxHeartbeats 8000000 in
set_option maxRecDepth 100000 in
theorem cM_sum (l : Launch) (D : va_G) (cI cZ cA : ClassId) (h : Nat → Nat) (hi : nInj 14 h) (σ : nS) (q : Int32) (hg : gM_sum σ = some q) : nMi l yX4_sum cX4_sum 4 (some .int) 1 D cI cZ cA 14 (cfM cI cZ h) h [.ref (h 0)] σ q σ := by
  unfold gM_sum at hg
  refine ng_body_i (by decide) hi (Nat.le_of_ble_eq_true rfl) ?_
  intro p e R s m args below meth c sz Q ls hx hb hml hr hlk hts hown hK hR hQ hl hH
  have hown : s.vm.findClass RX4 = some m.cls := hown
  have hl : lv_has ls 4 [(0, .ref (h 0))] := hl
  refine lv_iconst (v := (0 : Int32)) hx hb dX4_sum_0 (by decide) ?_
  refine lv_istore_n (lv' := [(1, .int (0 : Int32)), (0, .ref (h 0))]) hx hb dX4_sum_1 rfl hl (by decide) rfl (fun ls hl => ?_)
  refine lv_iconst (v := (0 : Int32)) hx hb dX4_sum_2 (by decide) ?_
  refine lv_istore_n (lv' := [(2, .int (0 : Int32)), (1, .int (0 : Int32)), (0, .ref (h 0))]) hx hb dX4_sum_3 rfl hl (by decide) rfl (fun ls hl => ?_)
  have LP_4 : ∀ (K_4 : Int32 → Option Int32) (kk_4 : ∀ (w1_4 : Int32) (H : Heap) (locs : List Loc) (ls : Array Slot), K_4 w1_4 = some q → nH D 14 (cfM cI cZ h) h (nAd 14 h sz) s.heap σ H locs → lv_has ls 4 [(1, .int w1_4)] → W p l e R s m args below meth c H locs 0 0 Q (F0 m 100 ls [])) (n : Nat) (v1_4 v2_4 : Int32) (H : Heap) (locs : List Loc) (ls : Array Slot), gM_sum_L4 σ K_4 n v1_4 v2_4 = some q → nH D 14 (cfM cI cZ h) h (nAd 14 h sz) s.heap σ H locs → lv_has ls 4 [(0, .ref (h 0)), (1, .int v1_4), (2, .int v2_4)] → W p l e R s m args below meth c H locs 0 0 Q (F0 m 4 ls []) := by
    intro K_4 kk_4 n
    induction n with
    | zero => intro v1_4 v2_4 H locs ls hg hH hl; rw [gM_sum_L4] at hg; exact ob_n hg
    | succ n ih_4 =>
      intro v1_4 v2_4 H locs ls hg hH hl
      rw [gM_sum_L4] at hg
      refine lv_iload_n hx hb dX4_sum_4 rfl (lv_at hl 2 rfl) ?_
      refine lv_aload_n hx hb dX4_sum_5 rfl (lv_at hl 0 rfl) ?_
      refine ng_get hx hb hts hown hK hH 0 (by decide) rfl rfl inlX4 8 (by decide) mw_116 rfl dX4_sum_6 ?_
      refine lv_icmp_ge (tgt := 100) hx hb dX4_sum_9 (by decide) (fun c1 => ?_) (fun c1 => ?_)
      · replace hg := ob_t c1 hg
        exact kk_4 v1_4 H locs ls hg hH (lv_sub hl [1] rfl)
      · replace hg := ob_f c1 hg
        refine lv_aload_n hx hb dX4_sum_12 rfl (lv_at hl 0 rfl) ?_
        refine ng_get hx hb hts hown hK hH 0 (by decide) rfl rfl inlX4 7 (by decide) mw_73 rfl dX4_sum_13 ?_
        refine lv_iload_n hx hb dX4_sum_16 rfl (lv_at hl 2 rfl) ?_
        obtain ⟨hb2, hg⟩ := ob_i hg
        refine ng_zald hx hb hK hH 7 (by decide) (fun _ => rfl) hb2 dX4_sum_17 ?_
        refine lv_if_eq (tgt := 24) hx hb dX4_sum_18 (by decide) (fun c3 => ?_) (fun c3 => ?_)
        · replace hg := ob_t c3 hg
          refine lv_aload_n hx hb dX4_sum_24 rfl (lv_at hl 0 rfl) ?_
          refine ng_get hx hb hts hown hK hH 0 (by decide) rfl rfl inlX4 12 (by decide) mw_76 rfl dX4_sum_25 ?_
          refine lv_aload_n hx hb dX4_sum_28 rfl (lv_at hl 0 rfl) ?_
          refine ng_get hx hb hts hown hK hH 0 (by decide) rfl rfl inlX4 3 (by decide) mw_69 rfl dX4_sum_29 ?_
          refine lv_iload_n hx hb dX4_sum_32 rfl (lv_at hl 2 rfl) ?_
          obtain ⟨hb4, hg⟩ := ob_i hg
          refine ng_iald hx hb hK hH 3 (by decide) (fun _ => rfl) hb4 dX4_sum_33 ?_
          obtain ⟨hb5, hg⟩ := ob_i hg
          refine ng_iald hx hb hK hH 10 (by decide) (fun _ => rfl) hb5 dX4_sum_34 ?_
          refine lv_aload_n hx hb dX4_sum_35 rfl (lv_at hl 0 rfl) ?_
          refine ng_get hx hb hts hown hK hH 0 (by decide) rfl rfl inlX4 12 (by decide) mw_76 rfl dX4_sum_36 ?_
          refine lv_aload_n hx hb dX4_sum_39 rfl (lv_at hl 0 rfl) ?_
          refine ng_get hx hb hts hown hK hH 0 (by decide) rfl rfl inlX4 4 (by decide) mw_70 rfl dX4_sum_40 ?_
          refine lv_iload_n hx hb dX4_sum_43 rfl (lv_at hl 2 rfl) ?_
          obtain ⟨hb6, hg⟩ := ob_i hg
          refine ng_iald hx hb hK hH 4 (by decide) (fun _ => rfl) hb6 dX4_sum_44 ?_
          obtain ⟨hb7, hg⟩ := ob_i hg
          refine ng_iald hx hb hK hH 10 (by decide) (fun _ => rfl) hb7 dX4_sum_45 ?_
          refine lv_icmp_eq (tgt := 53) hx hb dX4_sum_46 (by decide) (fun c8 => ?_) (fun c8 => ?_)
          · replace hg := ob_t c8 hg
            refine lv_iconst (v := (0 : Int32)) hx hb dX4_sum_53 (by decide) ?_
            refine lv_istore_n (lv' := [(3, .int (0 : Int32)), (0, .ref (h 0)), (1, .int v1_4), (2, .int v2_4)]) hx hb dX4_sum_54 rfl hl (by decide) rfl (fun ls hl => ?_)
            refine lv_iload_n hx hb dX4_sum_55 rfl (lv_at hl 2 rfl) ?_
            refine lv_iload_n hx hb dX4_sum_56 rfl (lv_at hl 0 rfl) ?_
            refine lv_aload_n hx hb dX4_sum_57 rfl (lv_at hl 1 rfl) ?_
            refine ng_get hx hb hts hown hK hH 0 (by decide) rfl rfl inlX4 14 (by decide) mw_258 rfl dX4_sum_58 ?_
            refine lv_iconst (v := (4 : Int32)) hx hb dX4_sum_61 (by decide) ?_
            refine lv_icmp_ne (tgt := 74) hx hb dX4_sum_62 (by decide) (fun c9 => ?_) (fun c9 => ?_)
            · replace hg := ob_f c9 hg
              refine lv_iconst (v := (1 : Int32)) hx hb dX4_sum_74 (by decide) ?_
              refine lv_goto (tgt := 79) hx hb dX4_sum_75 (by decide) ?_
              refine lv_icmp_ne (tgt := 91) hx hb dX4_sum_79 (by decide) (fun c10 => ?_) (fun c10 => ?_)
              · replace hg := ob_f c10 hg
                refine lv_iconst (v := (0 : Int32)) hx hb dX4_sum_91 (by decide) ?_
                refine lv_iadd hx hb dX4_sum_92 ?_
                refine lv_istore_n (lv' := [(1, .int (v1_4 + (0 : Int32))), (3, .int (0 : Int32)), (0, .ref (h 0)), (2, .int v2_4)]) hx hb dX4_sum_93 rfl hl (by decide) rfl (fun ls hl => ?_)
                refine lv_iinc (v := (v2_4 + 1)) (lv' := [(2, .int (v2_4 + 1)), (1, .int (v1_4 + (0 : Int32))), (3, .int (0 : Int32)), (0, .ref (h 0))]) hx hb dX4_sum_94 hl (k := 3) rfl rfl (by decide) rfl (fun ls hl => ?_)
                refine lv_goto (tgt := 4) hx hb dX4_sum_97 (by decide) ?_
                exact ih_4 (v1_4 + (0 : Int32)) (v2_4 + 1) H locs ls hg hH (lv_sub hl [3, 1, 0] rfl)
              · replace hg := ob_t c10 hg
                refine lv_aload_n hx hb dX4_sum_82 rfl (lv_at hl 1 rfl) ?_
                refine ng_get hx hb hts hown hK hH 0 (by decide) rfl rfl inlX4 5 (by decide) mw_71 rfl dX4_sum_83 ?_
                refine lv_iload_n hx hb dX4_sum_86 rfl (lv_at hl 3 rfl) ?_
                obtain ⟨hb11, hg⟩ := ob_i hg
                refine ng_iald hx hb hK hH 5 (by decide) (fun _ => rfl) hb11 dX4_sum_87 ?_
                refine lv_goto (tgt := 92) hx hb dX4_sum_88 (by decide) ?_
                refine lv_iadd hx hb dX4_sum_92 ?_
                refine lv_istore_n (lv' := [(1, .int (v1_4 + (σ 5 v2_4.toNatClampNeg))), (3, .int (0 : Int32)), (0, .ref (h 0)), (2, .int v2_4)]) hx hb dX4_sum_93 rfl hl (by decide) rfl (fun ls hl => ?_)
                refine lv_iinc (v := (v2_4 + 1)) (lv' := [(2, .int (v2_4 + 1)), (1, .int (v1_4 + (σ 5 v2_4.toNatClampNeg))), (3, .int (0 : Int32)), (0, .ref (h 0))]) hx hb dX4_sum_94 hl (k := 3) rfl rfl (by decide) rfl (fun ls hl => ?_)
                refine lv_goto (tgt := 4) hx hb dX4_sum_97 (by decide) ?_
                exact ih_4 (v1_4 + (σ 5 v2_4.toNatClampNeg)) (v2_4 + 1) H locs ls hg hH (lv_sub hl [3, 1, 0] rfl)
            · replace hg := ob_t c9 hg
              refine lv_aload_n hx hb dX4_sum_65 rfl (lv_at hl 1 rfl) ?_
              refine ng_get hx hb hts hown hK hH 0 (by decide) rfl rfl inlX4 6 (by decide) mw_72 rfl dX4_sum_66 ?_
              refine lv_iload_n hx hb dX4_sum_69 rfl (lv_at hl 3 rfl) ?_
              obtain ⟨hb12, hg⟩ := ob_i hg
              refine ng_zald hx hb hK hH 6 (by decide) (fun _ => rfl) hb12 dX4_sum_70 ?_
              refine lv_if_eq (tgt := 78) hx hb dX4_sum_71 (by decide) (fun c13 => ?_) (fun c13 => ?_)
              · replace hg := ob_t c13 hg
                refine lv_iconst (v := (0 : Int32)) hx hb dX4_sum_78 (by decide) ?_
                refine lv_icmp_ne (tgt := 91) hx hb dX4_sum_79 (by decide) (fun c14 => ?_) (fun c14 => ?_)
                · replace hg := ob_f c14 hg
                  refine lv_iconst (v := (0 : Int32)) hx hb dX4_sum_91 (by decide) ?_
                  refine lv_iadd hx hb dX4_sum_92 ?_
                  refine lv_istore_n (lv' := [(1, .int (v1_4 + (0 : Int32))), (3, .int (0 : Int32)), (0, .ref (h 0)), (2, .int v2_4)]) hx hb dX4_sum_93 rfl hl (by decide) rfl (fun ls hl => ?_)
                  refine lv_iinc (v := (v2_4 + 1)) (lv' := [(2, .int (v2_4 + 1)), (1, .int (v1_4 + (0 : Int32))), (3, .int (0 : Int32)), (0, .ref (h 0))]) hx hb dX4_sum_94 hl (k := 3) rfl rfl (by decide) rfl (fun ls hl => ?_)
                  refine lv_goto (tgt := 4) hx hb dX4_sum_97 (by decide) ?_
                  exact ih_4 (v1_4 + (0 : Int32)) (v2_4 + 1) H locs ls hg hH (lv_sub hl [3, 1, 0] rfl)
                · replace hg := ob_t c14 hg
                  refine lv_aload_n hx hb dX4_sum_82 rfl (lv_at hl 1 rfl) ?_
                  refine ng_get hx hb hts hown hK hH 0 (by decide) rfl rfl inlX4 5 (by decide) mw_71 rfl dX4_sum_83 ?_
                  refine lv_iload_n hx hb dX4_sum_86 rfl (lv_at hl 3 rfl) ?_
                  obtain ⟨hb15, hg⟩ := ob_i hg
                  refine ng_iald hx hb hK hH 5 (by decide) (fun _ => rfl) hb15 dX4_sum_87 ?_
                  refine lv_goto (tgt := 92) hx hb dX4_sum_88 (by decide) ?_
                  refine lv_iadd hx hb dX4_sum_92 ?_
                  refine lv_istore_n (lv' := [(1, .int (v1_4 + (σ 5 v2_4.toNatClampNeg))), (3, .int (0 : Int32)), (0, .ref (h 0)), (2, .int v2_4)]) hx hb dX4_sum_93 rfl hl (by decide) rfl (fun ls hl => ?_)
                  refine lv_iinc (v := (v2_4 + 1)) (lv' := [(2, .int (v2_4 + 1)), (1, .int (v1_4 + (σ 5 v2_4.toNatClampNeg))), (3, .int (0 : Int32)), (0, .ref (h 0))]) hx hb dX4_sum_94 hl (k := 3) rfl rfl (by decide) rfl (fun ls hl => ?_)
                  refine lv_goto (tgt := 4) hx hb dX4_sum_97 (by decide) ?_
                  exact ih_4 (v1_4 + (σ 5 v2_4.toNatClampNeg)) (v2_4 + 1) H locs ls hg hH (lv_sub hl [3, 1, 0] rfl)
              · replace hg := ob_f c13 hg
                refine lv_iconst (v := (1 : Int32)) hx hb dX4_sum_74 (by decide) ?_
                refine lv_goto (tgt := 79) hx hb dX4_sum_75 (by decide) ?_
                refine lv_icmp_ne (tgt := 91) hx hb dX4_sum_79 (by decide) (fun c16 => ?_) (fun c16 => ?_)
                · replace hg := ob_f c16 hg
                  refine lv_iconst (v := (0 : Int32)) hx hb dX4_sum_91 (by decide) ?_
                  refine lv_iadd hx hb dX4_sum_92 ?_
                  refine lv_istore_n (lv' := [(1, .int (v1_4 + (0 : Int32))), (3, .int (0 : Int32)), (0, .ref (h 0)), (2, .int v2_4)]) hx hb dX4_sum_93 rfl hl (by decide) rfl (fun ls hl => ?_)
                  refine lv_iinc (v := (v2_4 + 1)) (lv' := [(2, .int (v2_4 + 1)), (1, .int (v1_4 + (0 : Int32))), (3, .int (0 : Int32)), (0, .ref (h 0))]) hx hb dX4_sum_94 hl (k := 3) rfl rfl (by decide) rfl (fun ls hl => ?_)
                  refine lv_goto (tgt := 4) hx hb dX4_sum_97 (by decide) ?_
                  exact ih_4 (v1_4 + (0 : Int32)) (v2_4 + 1) H locs ls hg hH (lv_sub hl [3, 1, 0] rfl)
                · replace hg := ob_t c16 hg
                  refine lv_aload_n hx hb dX4_sum_82 rfl (lv_at hl 1 rfl) ?_
                  refine ng_get hx hb hts hown hK hH 0 (by decide) rfl rfl inlX4 5 (by decide) mw_71 rfl dX4_sum_83 ?_
                  refine lv_iload_n hx hb dX4_sum_86 rfl (lv_at hl 3 rfl) ?_
                  obtain ⟨hb17, hg⟩ := ob_i hg
                  refine ng_iald hx hb hK hH 5 (by decide) (fun _ => rfl) hb17 dX4_sum_87 ?_
                  refine lv_goto (tgt := 92) hx hb dX4_sum_88 (by decide) ?_
                  refine lv_iadd hx hb dX4_sum_92 ?_
                  refine lv_istore_n (lv' := [(1, .int (v1_4 + (σ 5 v2_4.toNatClampNeg))), (3, .int (0 : Int32)), (0, .ref (h 0)), (2, .int v2_4)]) hx hb dX4_sum_93 rfl hl (by decide) rfl (fun ls hl => ?_)
                  refine lv_iinc (v := (v2_4 + 1)) (lv' := [(2, .int (v2_4 + 1)), (1, .int (v1_4 + (σ 5 v2_4.toNatClampNeg))), (3, .int (0 : Int32)), (0, .ref (h 0))]) hx hb dX4_sum_94 hl (k := 3) rfl rfl (by decide) rfl (fun ls hl => ?_)
                  refine lv_goto (tgt := 4) hx hb dX4_sum_97 (by decide) ?_
                  exact ih_4 (v1_4 + (σ 5 v2_4.toNatClampNeg)) (v2_4 + 1) H locs ls hg hH (lv_sub hl [3, 1, 0] rfl)
          · replace hg := ob_f c8 hg
            refine lv_iconst (v := (1 : Int32)) hx hb dX4_sum_49 (by decide) ?_
            refine lv_goto (tgt := 54) hx hb dX4_sum_50 (by decide) ?_
            refine lv_istore_n (lv' := [(3, .int (1 : Int32)), (0, .ref (h 0)), (1, .int v1_4), (2, .int v2_4)]) hx hb dX4_sum_54 rfl hl (by decide) rfl (fun ls hl => ?_)
            refine lv_iload_n hx hb dX4_sum_55 rfl (lv_at hl 2 rfl) ?_
            refine lv_iload_n hx hb dX4_sum_56 rfl (lv_at hl 0 rfl) ?_
            refine lv_aload_n hx hb dX4_sum_57 rfl (lv_at hl 1 rfl) ?_
            refine ng_get hx hb hts hown hK hH 0 (by decide) rfl rfl inlX4 14 (by decide) mw_258 rfl dX4_sum_58 ?_
            refine lv_iconst (v := (4 : Int32)) hx hb dX4_sum_61 (by decide) ?_
            refine lv_icmp_ne (tgt := 74) hx hb dX4_sum_62 (by decide) (fun c18 => ?_) (fun c18 => ?_)
            · replace hg := ob_f c18 hg
              refine lv_iconst (v := (1 : Int32)) hx hb dX4_sum_74 (by decide) ?_
              refine lv_goto (tgt := 79) hx hb dX4_sum_75 (by decide) ?_
              refine lv_icmp_ne (tgt := 91) hx hb dX4_sum_79 (by decide) (fun c19 => ?_) (fun c19 => ?_)
              · replace hg := ob_f c19 hg
                refine lv_iconst (v := (0 : Int32)) hx hb dX4_sum_91 (by decide) ?_
                refine lv_iadd hx hb dX4_sum_92 ?_
                refine lv_istore_n (lv' := [(1, .int (v1_4 + (0 : Int32))), (3, .int (1 : Int32)), (0, .ref (h 0)), (2, .int v2_4)]) hx hb dX4_sum_93 rfl hl (by decide) rfl (fun ls hl => ?_)
                refine lv_iinc (v := (v2_4 + 1)) (lv' := [(2, .int (v2_4 + 1)), (1, .int (v1_4 + (0 : Int32))), (3, .int (1 : Int32)), (0, .ref (h 0))]) hx hb dX4_sum_94 hl (k := 3) rfl rfl (by decide) rfl (fun ls hl => ?_)
                refine lv_goto (tgt := 4) hx hb dX4_sum_97 (by decide) ?_
                exact ih_4 (v1_4 + (0 : Int32)) (v2_4 + 1) H locs ls hg hH (lv_sub hl [3, 1, 0] rfl)
              · replace hg := ob_t c19 hg
                refine lv_aload_n hx hb dX4_sum_82 rfl (lv_at hl 1 rfl) ?_
                refine ng_get hx hb hts hown hK hH 0 (by decide) rfl rfl inlX4 5 (by decide) mw_71 rfl dX4_sum_83 ?_
                refine lv_iload_n hx hb dX4_sum_86 rfl (lv_at hl 3 rfl) ?_
                obtain ⟨hb20, hg⟩ := ob_i hg
                refine ng_iald hx hb hK hH 5 (by decide) (fun _ => rfl) hb20 dX4_sum_87 ?_
                refine lv_goto (tgt := 92) hx hb dX4_sum_88 (by decide) ?_
                refine lv_iadd hx hb dX4_sum_92 ?_
                refine lv_istore_n (lv' := [(1, .int (v1_4 + (σ 5 v2_4.toNatClampNeg))), (3, .int (1 : Int32)), (0, .ref (h 0)), (2, .int v2_4)]) hx hb dX4_sum_93 rfl hl (by decide) rfl (fun ls hl => ?_)
                refine lv_iinc (v := (v2_4 + 1)) (lv' := [(2, .int (v2_4 + 1)), (1, .int (v1_4 + (σ 5 v2_4.toNatClampNeg))), (3, .int (1 : Int32)), (0, .ref (h 0))]) hx hb dX4_sum_94 hl (k := 3) rfl rfl (by decide) rfl (fun ls hl => ?_)
                refine lv_goto (tgt := 4) hx hb dX4_sum_97 (by decide) ?_
                exact ih_4 (v1_4 + (σ 5 v2_4.toNatClampNeg)) (v2_4 + 1) H locs ls hg hH (lv_sub hl [3, 1, 0] rfl)
            · replace hg := ob_t c18 hg
              refine lv_aload_n hx hb dX4_sum_65 rfl (lv_at hl 1 rfl) ?_
              refine ng_get hx hb hts hown hK hH 0 (by decide) rfl rfl inlX4 6 (by decide) mw_72 rfl dX4_sum_66 ?_
              refine lv_iload_n hx hb dX4_sum_69 rfl (lv_at hl 3 rfl) ?_
              obtain ⟨hb21, hg⟩ := ob_i hg
              refine ng_zald hx hb hK hH 6 (by decide) (fun _ => rfl) hb21 dX4_sum_70 ?_
              refine lv_if_eq (tgt := 78) hx hb dX4_sum_71 (by decide) (fun c22 => ?_) (fun c22 => ?_)
              · replace hg := ob_t c22 hg
                refine lv_iconst (v := (0 : Int32)) hx hb dX4_sum_78 (by decide) ?_
                refine lv_icmp_ne (tgt := 91) hx hb dX4_sum_79 (by decide) (fun c23 => ?_) (fun c23 => ?_)
                · replace hg := ob_f c23 hg
                  refine lv_iconst (v := (0 : Int32)) hx hb dX4_sum_91 (by decide) ?_
                  refine lv_iadd hx hb dX4_sum_92 ?_
                  refine lv_istore_n (lv' := [(1, .int (v1_4 + (0 : Int32))), (3, .int (1 : Int32)), (0, .ref (h 0)), (2, .int v2_4)]) hx hb dX4_sum_93 rfl hl (by decide) rfl (fun ls hl => ?_)
                  refine lv_iinc (v := (v2_4 + 1)) (lv' := [(2, .int (v2_4 + 1)), (1, .int (v1_4 + (0 : Int32))), (3, .int (1 : Int32)), (0, .ref (h 0))]) hx hb dX4_sum_94 hl (k := 3) rfl rfl (by decide) rfl (fun ls hl => ?_)
                  refine lv_goto (tgt := 4) hx hb dX4_sum_97 (by decide) ?_
                  exact ih_4 (v1_4 + (0 : Int32)) (v2_4 + 1) H locs ls hg hH (lv_sub hl [3, 1, 0] rfl)
                · replace hg := ob_t c23 hg
                  refine lv_aload_n hx hb dX4_sum_82 rfl (lv_at hl 1 rfl) ?_
                  refine ng_get hx hb hts hown hK hH 0 (by decide) rfl rfl inlX4 5 (by decide) mw_71 rfl dX4_sum_83 ?_
                  refine lv_iload_n hx hb dX4_sum_86 rfl (lv_at hl 3 rfl) ?_
                  obtain ⟨hb24, hg⟩ := ob_i hg
                  refine ng_iald hx hb hK hH 5 (by decide) (fun _ => rfl) hb24 dX4_sum_87 ?_
                  refine lv_goto (tgt := 92) hx hb dX4_sum_88 (by decide) ?_
                  refine lv_iadd hx hb dX4_sum_92 ?_
                  refine lv_istore_n (lv' := [(1, .int (v1_4 + (σ 5 v2_4.toNatClampNeg))), (3, .int (1 : Int32)), (0, .ref (h 0)), (2, .int v2_4)]) hx hb dX4_sum_93 rfl hl (by decide) rfl (fun ls hl => ?_)
                  refine lv_iinc (v := (v2_4 + 1)) (lv' := [(2, .int (v2_4 + 1)), (1, .int (v1_4 + (σ 5 v2_4.toNatClampNeg))), (3, .int (1 : Int32)), (0, .ref (h 0))]) hx hb dX4_sum_94 hl (k := 3) rfl rfl (by decide) rfl (fun ls hl => ?_)
                  refine lv_goto (tgt := 4) hx hb dX4_sum_97 (by decide) ?_
                  exact ih_4 (v1_4 + (σ 5 v2_4.toNatClampNeg)) (v2_4 + 1) H locs ls hg hH (lv_sub hl [3, 1, 0] rfl)
              · replace hg := ob_f c22 hg
                refine lv_iconst (v := (1 : Int32)) hx hb dX4_sum_74 (by decide) ?_
                refine lv_goto (tgt := 79) hx hb dX4_sum_75 (by decide) ?_
                refine lv_icmp_ne (tgt := 91) hx hb dX4_sum_79 (by decide) (fun c25 => ?_) (fun c25 => ?_)
                · replace hg := ob_f c25 hg
                  refine lv_iconst (v := (0 : Int32)) hx hb dX4_sum_91 (by decide) ?_
                  refine lv_iadd hx hb dX4_sum_92 ?_
                  refine lv_istore_n (lv' := [(1, .int (v1_4 + (0 : Int32))), (3, .int (1 : Int32)), (0, .ref (h 0)), (2, .int v2_4)]) hx hb dX4_sum_93 rfl hl (by decide) rfl (fun ls hl => ?_)
                  refine lv_iinc (v := (v2_4 + 1)) (lv' := [(2, .int (v2_4 + 1)), (1, .int (v1_4 + (0 : Int32))), (3, .int (1 : Int32)), (0, .ref (h 0))]) hx hb dX4_sum_94 hl (k := 3) rfl rfl (by decide) rfl (fun ls hl => ?_)
                  refine lv_goto (tgt := 4) hx hb dX4_sum_97 (by decide) ?_
                  exact ih_4 (v1_4 + (0 : Int32)) (v2_4 + 1) H locs ls hg hH (lv_sub hl [3, 1, 0] rfl)
                · replace hg := ob_t c25 hg
                  refine lv_aload_n hx hb dX4_sum_82 rfl (lv_at hl 1 rfl) ?_
                  refine ng_get hx hb hts hown hK hH 0 (by decide) rfl rfl inlX4 5 (by decide) mw_71 rfl dX4_sum_83 ?_
                  refine lv_iload_n hx hb dX4_sum_86 rfl (lv_at hl 3 rfl) ?_
                  obtain ⟨hb26, hg⟩ := ob_i hg
                  refine ng_iald hx hb hK hH 5 (by decide) (fun _ => rfl) hb26 dX4_sum_87 ?_
                  refine lv_goto (tgt := 92) hx hb dX4_sum_88 (by decide) ?_
                  refine lv_iadd hx hb dX4_sum_92 ?_
                  refine lv_istore_n (lv' := [(1, .int (v1_4 + (σ 5 v2_4.toNatClampNeg))), (3, .int (1 : Int32)), (0, .ref (h 0)), (2, .int v2_4)]) hx hb dX4_sum_93 rfl hl (by decide) rfl (fun ls hl => ?_)
                  refine lv_iinc (v := (v2_4 + 1)) (lv' := [(2, .int (v2_4 + 1)), (1, .int (v1_4 + (σ 5 v2_4.toNatClampNeg))), (3, .int (1 : Int32)), (0, .ref (h 0))]) hx hb dX4_sum_94 hl (k := 3) rfl rfl (by decide) rfl (fun ls hl => ?_)
                  refine lv_goto (tgt := 4) hx hb dX4_sum_97 (by decide) ?_
                  exact ih_4 (v1_4 + (σ 5 v2_4.toNatClampNeg)) (v2_4 + 1) H locs ls hg hH (lv_sub hl [3, 1, 0] rfl)
        · replace hg := ob_f c3 hg
          refine lv_goto (tgt := 94) hx hb dX4_sum_21 (by decide) ?_
          refine lv_iinc (v := (v2_4 + 1)) (lv' := [(2, .int (v2_4 + 1)), (0, .ref (h 0)), (1, .int v1_4)]) hx hb dX4_sum_94 hl (k := 2) rfl rfl (by decide) rfl (fun ls hl => ?_)
          refine lv_goto (tgt := 4) hx hb dX4_sum_97 (by decide) ?_
          exact ih_4 v1_4 (v2_4 + 1) H locs ls hg hH (lv_sub hl [1, 2, 0] rfl)
  refine LP_4 _ ?_ _ _ _ _ _ _ hg hH (lv_sub hl [2, 1, 0] rfl)
  intro w1_4 H locs ls hg hH hl
  refine lv_iload_n hx hb dX4_sum_100 rfl (lv_at hl 0 rfl) ?_
  subst hQ
  exact ng_iret hx hb hr hlk (Option.some.inj hg) rfl hH dX4_sum_101
