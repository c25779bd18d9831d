set_option maxHeartbeats 8000000 in
set_option maxRecDepth 100000 in
theorem cM_looks (l : Launch) (D : va_G) (cI cZ cA : ClassId) (h : Nat → Nat) (hi : nInj 14 h) (p1 : Int32) (σ : nS) (q : nS) (hg : gM_looks p1 σ = some q) : nMv l yX4_looks cX4_looks 4 none 2 D cI cZ cA 14 (cfM cI cZ h) h [.ref (h 0), .int p1] σ q := by
  unfold gM_looks at hg
  refine ng_body_v (by decide) hi (Nat.le_of_ble_eq_true rfl) ?_
  intro p e R s m args below meth c sz Q ls hx hb hml hr hlk hts hown hK hR hQ hl hH
  have hown : s.vm.findClass RX4 = some m.cls := hown
  have hl : lv_has ls 4 [(0, .ref (h 0)), (1, .int p1)] := hl
  have JP_103 : ∀ (σ1 : nS) (H : Heap) (locs : List Loc) (ls : Array Slot), gM_looks_J103 σ1 = some q → nH D 14 (cfM cI cZ h) h (nAd 14 h sz) s.heap σ1 H locs → lv_has ls 4 [(0, .ref (h 0))] → W p l e R s m args below meth c H locs 0 0 Q (F0 m 103 ls []) := by
    intro σ1 H locs ls hg hH hl
    unfold gM_looks_J103 at hg
    refine lv_aload_n hx hb dX4_looks_103 rfl (lv_at hl 0 rfl) ?_
    refine lv_dup hx hb dX4_looks_104 rfl ?_
    refine ng_get hx hb hts hown hK hH 0 (by decide) rfl rfl inlX4 19 (by decide) mw_261 rfl dX4_looks_105 ?_
    refine lv_iconst (v := (1 : Int32)) hx hb dX4_looks_108 (by decide) ?_
    refine lv_iadd hx hb dX4_looks_109 ?_
    refine ng_put hx hb hts hown hK hH 0 (by decide) rfl rfl inlX4 tyX4 tyX4_ok nmX4 19 (by decide) mw_261 rfl (by decide +kernel) (Nat.le_of_ble_eq_true rfl) rfl dX4_looks_110 (fun H locs hH => ?_)
    refine lv_iconst (v := (0 : Int32)) hx hb dX4_looks_113 (by decide) ?_
    refine lv_istore_n (lv' := [(3, .int (0 : Int32)), (0, .ref (h 0))]) hx hb dX4_looks_114 rfl hl (by decide) rfl (fun ls hl => ?_)
    have LP_115 : ∀ (K_115 : nS → Option nS) (kk_115 : ∀ (σe_115 : nS) (H : Heap) (locs : List Loc) (ls : Array Slot), K_115 σe_115 = some q → nH D 14 (cfM cI cZ h) h (nAd 14 h sz) s.heap σe_115 H locs → lv_has ls 4 [] → W p l e R s m args below meth c H locs 0 0 Q (F0 m 168 ls [])) (n : Nat) (v3_115 : Int32) (σl_115 : nS) (H : Heap) (locs : List Loc) (ls : Array Slot), gM_looks_L115 K_115 n v3_115 σl_115 = some q → nH D 14 (cfM cI cZ h) h (nAd 14 h sz) s.heap σl_115 H locs → lv_has ls 4 [(0, .ref (h 0)), (3, .int v3_115)] → W p l e R s m args below meth c H locs 0 0 Q (F0 m 115 ls []) := by
      intro K_115 kk_115 n
      induction n with
      | zero => intro v3_115 σl_115 H locs ls hg hH hl; rw [gM_looks_L115] at hg; exact ob_n hg
      | succ n ih_115 =>
        intro v3_115 σl_115 H locs ls hg hH hl
        rw [gM_looks_L115] at hg
        refine lv_iload_n hx hb dX4_looks_115 rfl (lv_at hl 1 rfl) ?_
        refine lv_aload_n hx hb dX4_looks_116 rfl (lv_at hl 0 rfl) ?_
        refine ng_get hx hb hts hown hK hH 0 (by decide) rfl rfl inlX4 8 (by decide) mw_116 rfl dX4_looks_117 ?_
        refine lv_icmp_ge (tgt := 168) hx hb dX4_looks_120 (by decide) (fun c10 => ?_) (fun c10 => ?_)
        · replace hg := ob_t c10 hg
          exact kk_115 σl_115 H locs ls hg hH (lv_sub hl [] rfl)
        · replace hg := ob_f c10 hg
          refine lv_aload_n hx hb dX4_looks_123 rfl (lv_at hl 0 rfl) ?_
          refine ng_get hx hb hts hown hK hH 0 (by decide) rfl rfl inlX4 21 (by decide) mw_78 rfl dX4_looks_124 ?_
          refine lv_iload_n hx hb dX4_looks_127 rfl (lv_at hl 1 rfl) ?_
          refine lv_dup2_11 hx hb dX4_looks_128 rfl rfl ?_
          obtain ⟨hb11, hg⟩ := ob_i hg
          refine ng_iald hx hb hK hH 12 (by decide) (fun _ => rfl) hb11 dX4_looks_129 ?_
          refine lv_aload_n hx hb dX4_looks_130 rfl (lv_at hl 0 rfl) ?_
          refine ng_get hx hb hts hown hK hH 0 (by decide) rfl rfl inlX4 12 (by decide) mw_76 rfl dX4_looks_131 ?_
          refine lv_aload_n hx hb dX4_looks_134 rfl (lv_at hl 0 rfl) ?_
          refine ng_get hx hb hts hown hK hH 0 (by decide) rfl rfl inlX4 3 (by decide) mw_69 rfl dX4_looks_135 ?_
          refine lv_iload_n hx hb dX4_looks_138 rfl (lv_at hl 1 rfl) ?_
          obtain ⟨hb12, hg⟩ := ob_i hg
          refine ng_iald hx hb hK hH 3 (by decide) (fun _ => rfl) hb12 dX4_looks_139 ?_
          obtain ⟨hb13, hg⟩ := ob_i hg
          refine ng_iald hx hb hK hH 10 (by decide) (fun _ => rfl) hb13 dX4_looks_140 ?_
          refine lv_aload_n hx hb dX4_looks_141 rfl (lv_at hl 0 rfl) ?_
          refine ng_get hx hb hts hown hK hH 0 (by decide) rfl rfl inlX4 12 (by decide) mw_76 rfl dX4_looks_142 ?_
          refine lv_aload_n hx hb dX4_looks_145 rfl (lv_at hl 0 rfl) ?_
          refine ng_get hx hb hts hown hK hH 0 (by decide) rfl rfl inlX4 4 (by decide) mw_70 rfl dX4_looks_146 ?_
          refine lv_iload_n hx hb dX4_looks_149 rfl (lv_at hl 1 rfl) ?_
          obtain ⟨hb14, hg⟩ := ob_i hg
          refine ng_iald hx hb hK hH 4 (by decide) (fun _ => rfl) hb14 dX4_looks_150 ?_
          obtain ⟨hb15, hg⟩ := ob_i hg
          refine ng_iald hx hb hK hH 10 (by decide) (fun _ => rfl) hb15 dX4_looks_151 ?_
          refine lv_icmp_eq (tgt := 159) hx hb dX4_looks_152 (by decide) (fun c16 => ?_) (fun c16 => ?_)
          · replace hg := ob_t c16 hg
            refine lv_iconst (v := (0 : Int32)) hx hb dX4_looks_159 (by decide) ?_
            refine lv_iadd hx hb dX4_looks_160 ?_
            obtain ⟨hb17, hg⟩ := ob_i hg
            refine ng_iast hx hb hK hH 12 (by decide) (fun _ => rfl) hb17 dX4_looks_161 (fun H locs hH => ?_)
            refine lv_iinc (v := (v3_115 + 1)) (lv' := [(3, .int (v3_115 + 1)), (0, .ref (h 0))]) hx hb dX4_looks_162 hl (k := 1) rfl rfl (by decide) rfl (fun ls hl => ?_)
            refine lv_goto (tgt := 115) hx hb dX4_looks_165 (by decide) ?_
            exact ih_115 (v3_115 + 1) (nst σl_115 12 v3_115.toNatClampNeg ((σl_115 12 v3_115.toNatClampNeg) + (0 : Int32))) H locs ls hg hH (lv_sub hl [1, 0] rfl)
          · replace hg := ob_f c16 hg
            refine lv_iconst (v := (1 : Int32)) hx hb dX4_looks_155 (by decide) ?_
            refine lv_goto (tgt := 160) hx hb dX4_looks_156 (by decide) ?_
            refine lv_iadd hx hb dX4_looks_160 ?_
            obtain ⟨hb18, hg⟩ := ob_i hg
            refine ng_iast hx hb hK hH 12 (by decide) (fun _ => rfl) hb18 dX4_looks_161 (fun H locs hH => ?_)
            refine lv_iinc (v := (v3_115 + 1)) (lv' := [(3, .int (v3_115 + 1)), (0, .ref (h 0))]) hx hb dX4_looks_162 hl (k := 1) rfl rfl (by decide) rfl (fun ls hl => ?_)
            refine lv_goto (tgt := 115) hx hb dX4_looks_165 (by decide) ?_
            exact ih_115 (v3_115 + 1) (nst σl_115 12 v3_115.toNatClampNeg ((σl_115 12 v3_115.toNatClampNeg) + (1 : Int32))) H locs ls hg hH (lv_sub hl [1, 0] rfl)
    refine LP_115 _ ?_ _ _ _ _ _ _ hg hH (lv_sub hl [1, 0] rfl)
    intro σe_115 H locs ls hg hH hl
    subst hQ
    exact ng_vret hx hb hr hlk (Option.some.inj hg) hH dX4_looks_168
  have JP_64 : ∀ (σ1 : nS) (H : Heap) (locs : List Loc) (ls : Array Slot), gM_looks_J64 σ1 = some q → nH D 14 (cfM cI cZ h) h (nAd 14 h sz) s.heap σ1 H locs → lv_has ls 4 [(0, .ref (h 0))] → W p l e R s m args below meth c H locs 0 0 Q (F0 m 64 ls []) := by
    intro σ1 H locs ls hg hH hl
    unfold gM_looks_J64 at hg
    refine lv_aload_n hx hb dX4_looks_64 rfl (lv_at hl 0 rfl) ?_
    refine ng_get hx hb hts hown hK hH 0 (by decide) rfl rfl inlX4 19 (by decide) mw_261 rfl dX4_looks_65 ?_
    refine lv_aload_n hx hb dX4_looks_68 rfl (lv_at hl 0 rfl) ?_
    refine ng_get hx hb hts hown hK hH 0 (by decide) rfl rfl inlX4 20 (by decide) mw_259 rfl dX4_looks_69 ?_
    refine lv_icmp_ne (tgt := 103) hx hb dX4_looks_72 (by decide) (fun c19 => ?_) (fun c19 => ?_)
    · replace hg := ob_f c19 hg
      exact JP_103 σ1 H locs ls hg hH (lv_sub hl [0] rfl)
    · replace hg := ob_t c19 hg
      refine lv_iconst (v := (0 : Int32)) hx hb dX4_looks_75 (by decide) ?_
      refine lv_istore_n (lv' := [(3, .int (0 : Int32)), (0, .ref (h 0))]) hx hb dX4_looks_76 rfl hl (by decide) rfl (fun ls hl => ?_)
      have LP_77 : ∀ (K_77 : nS → Option nS) (kk_77 : ∀ (σe_77 : nS) (H : Heap) (locs : List Loc) (ls : Array Slot), K_77 σe_77 = some q → nH D 14 (cfM cI cZ h) h (nAd 14 h sz) s.heap σe_77 H locs → lv_has ls 4 [(0, .ref (h 0))] → W p l e R s m args below meth c H locs 0 0 Q (F0 m 103 ls [])) (n : Nat) (v3_77 : Int32) (σl_77 : nS) (H : Heap) (locs : List Loc) (ls : Array Slot), gM_looks_L77 K_77 n v3_77 σl_77 = some q → nH D 14 (cfM cI cZ h) h (nAd 14 h sz) s.heap σl_77 H locs → lv_has ls 4 [(0, .ref (h 0)), (3, .int v3_77)] → W p l e R s m args below meth c H locs 0 0 Q (F0 m 77 ls []) := by
        intro K_77 kk_77 n
        induction n with
        | zero => intro v3_77 σl_77 H locs ls hg hH hl; rw [gM_looks_L77] at hg; exact ob_n hg
        | succ n ih_77 =>
          intro v3_77 σl_77 H locs ls hg hH hl
          rw [gM_looks_L77] at hg
          refine lv_iload_n hx hb dX4_looks_77 rfl (lv_at hl 1 rfl) ?_
          refine lv_aload_n hx hb dX4_looks_78 rfl (lv_at hl 0 rfl) ?_
          refine ng_get hx hb hts hown hK hH 0 (by decide) rfl rfl inlX4 2 (by decide) mw_92 rfl dX4_looks_79 ?_
          refine lv_icmp_ge (tgt := 103) hx hb dX4_looks_82 (by decide) (fun c20 => ?_) (fun c20 => ?_)
          · replace hg := ob_t c20 hg
            exact kk_77 σl_77 H locs ls hg hH (lv_sub hl [0] rfl)
          · replace hg := ob_f c20 hg
            refine lv_aload_n hx hb dX4_looks_85 rfl (lv_at hl 0 rfl) ?_
            refine ng_get hx hb hts hown hK hH 0 (by decide) rfl rfl inlX4 13 (by decide) mw_77 rfl dX4_looks_86 ?_
            refine lv_iload_n hx hb dX4_looks_89 rfl (lv_at hl 1 rfl) ?_
            refine lv_aload_n hx hb dX4_looks_90 rfl (lv_at hl 0 rfl) ?_
            refine ng_get hx hb hts hown hK hH 0 (by decide) rfl rfl inlX4 12 (by decide) mw_76 rfl dX4_looks_91 ?_
            refine lv_iload_n hx hb dX4_looks_94 rfl (lv_at hl 1 rfl) ?_
            obtain ⟨hb21, hg⟩ := ob_i hg
            refine ng_iald hx hb hK hH 10 (by decide) (fun _ => rfl) hb21 dX4_looks_95 ?_
            obtain ⟨hb22, hg⟩ := ob_i hg
            refine ng_iast hx hb hK hH 11 (by decide) (fun _ => rfl) hb22 dX4_looks_96 (fun H locs hH => ?_)
            refine lv_iinc (v := (v3_77 + 1)) (lv' := [(3, .int (v3_77 + 1)), (0, .ref (h 0))]) hx hb dX4_looks_97 hl (k := 1) rfl rfl (by decide) rfl (fun ls hl => ?_)
            refine lv_goto (tgt := 77) hx hb dX4_looks_100 (by decide) ?_
            exact ih_77 (v3_77 + 1) (nst σl_77 11 v3_77.toNatClampNeg (σl_77 10 v3_77.toNatClampNeg)) H locs ls hg hH (lv_sub hl [1, 0] rfl)
      refine LP_77 _ ?_ _ _ _ _ _ _ hg hH (lv_sub hl [1, 0] rfl)
      intro σe_77 H locs ls hg hH hl
      exact JP_103 σe_77 H locs ls hg hH (lv_sub hl [0] rfl)
  refine lv_aload_n hx hb dX4_looks_0 rfl (lv_at hl 0 rfl) ?_
  refine lv_iload_n hx hb dX4_looks_1 rfl (lv_at hl 1 rfl) ?_
  obtain ⟨q1, hc2, hg⟩ := ob_b hg
  refine ng_ci (ng_rV hx hb hml hown hts hK hH (As := [.int p1]) (rest := []) 0 (cM_isWanted l D cI cZ cA h hi p1 σ q1 hc2 _) (by decide) rfl rfl mw_270 mw_271 mw_272 mw_5 mw_273 pdX4_isWanted ⟨by rw [hR]; show _ ≤ _; simp only [nRm]; omega, by rw [hR]; show _ ≤ _; simp only [nRm]; omega⟩ hl.1 rfl (Nat.le_of_ble_eq_true rfl) dX4_looks_2 ⟨Nat.zero_le _, Nat.zero_le _⟩) hH (fun H locs hH => ?_)
  refine lv_if_ne (tgt := 9) hx hb dX4_looks_5 (by decide) (fun c3 => ?_) (fun c3 => ?_)
  · replace hg := ob_f c3 hg
    refine lv_aload_n hx hb dX4_looks_9 rfl (lv_at hl 0 rfl) ?_
    obtain ⟨q4, hc5, hg⟩ := ob_b hg
    refine ng_ci (ng_rV hx hb hml hown hts hK hH (As := []) (rest := []) 0 (cM_sum l D cI cZ cA h hi σ q4 hc5 _) (by decide) rfl rfl mw_275 mw_276 mw_277 mw_5 mw_278 pdX4_sum ⟨by rw [hR]; show _ ≤ _; simp only [nRm]; omega, by rw [hR]; show _ ≤ _; simp only [nRm]; omega⟩ hl.1 rfl (Nat.le_of_ble_eq_true rfl) dX4_looks_10 ⟨Nat.zero_le _, Nat.zero_le _⟩) hH (fun H locs hH => ?_)
    refine lv_istore_n (lv' := [(2, .int q4), (0, .ref (h 0)), (1, .int p1)]) hx hb dX4_looks_13 rfl hl (by decide) rfl (fun ls hl => ?_)
    refine lv_iload_n hx hb dX4_looks_14 rfl (lv_at hl 0 rfl) ?_
    refine lv_aload_n hx hb dX4_looks_15 rfl (lv_at hl 1 rfl) ?_
    refine ng_get hx hb hts hown hK hH 0 (by decide) rfl rfl inlX4 18 (by decide) mw_247 rfl dX4_looks_16 ?_
    refine lv_icmp_le (tgt := 23) hx hb dX4_looks_19 (by decide) (fun c6 => ?_) (fun c6 => ?_)
    · replace hg := ob_t c6 hg
      refine lv_iload_n hx hb dX4_looks_23 rfl (lv_at hl 0 rfl) ?_
      refine lv_aload_n hx hb dX4_looks_24 rfl (lv_at hl 1 rfl) ?_
      refine ng_get hx hb hts hown hK hH 0 (by decide) rfl rfl inlX4 18 (by decide) mw_247 rfl dX4_looks_25 ?_
      refine lv_icmp_ge (tgt := 64) hx hb dX4_looks_28 (by decide) (fun c7 => ?_) (fun c7 => ?_)
      · replace hg := ob_t c7 hg
        exact JP_64 σ H locs ls hg hH (lv_sub hl [1] rfl)
      · replace hg := ob_f c7 hg
        refine lv_aload_n hx hb dX4_looks_31 rfl (lv_at hl 1 rfl) ?_
        refine lv_iload_n hx hb dX4_looks_32 rfl (lv_at hl 0 rfl) ?_
        refine ng_put hx hb hts hown hK hH 0 (by decide) rfl rfl inlX4 tyX4 tyX4_ok nmX4 18 (by decide) mw_247 rfl (by decide +kernel) (Nat.le_of_ble_eq_true rfl) rfl dX4_looks_33 (fun H locs hH => ?_)
        refine lv_aload_n hx hb dX4_looks_36 rfl (lv_at hl 1 rfl) ?_
        refine lv_iconst (v := (0 : Int32)) hx hb dX4_looks_37 (by decide) ?_
        refine ng_put hx hb hts hown hK hH 0 (by decide) rfl rfl inlX4 tyX4 tyX4_ok nmX4 19 (by decide) mw_261 rfl (by decide +kernel) (Nat.le_of_ble_eq_true rfl) rfl dX4_looks_38 (fun H locs hH => ?_)
        refine lv_iconst (v := (0 : Int32)) hx hb dX4_looks_41 (by decide) ?_
        refine lv_istore_n (lv' := [(3, .int (0 : Int32)), (2, .int q4), (0, .ref (h 0)), (1, .int p1)]) hx hb dX4_looks_42 rfl hl (by decide) rfl (fun ls hl => ?_)
        have LP_43 : ∀ (K_43 : nS → Option nS) (kk_43 : ∀ (σe_43 : nS) (H : Heap) (locs : List Loc) (ls : Array Slot), K_43 σe_43 = some q → nH D 14 (cfM cI cZ h) h (nAd 14 h sz) s.heap σe_43 H locs → lv_has ls 4 [(0, .ref (h 0))] → W p l e R s m args below meth c H locs 0 0 Q (F0 m 64 ls [])) (n : Nat) (v3_43 : Int32) (σl_43 : nS) (H : Heap) (locs : List Loc) (ls : Array Slot), gM_looks_L43 K_43 n v3_43 σl_43 = some q → nH D 14 (cfM cI cZ h) h (nAd 14 h sz) s.heap σl_43 H locs → lv_has ls 4 [(0, .ref (h 0)), (3, .int v3_43)] → W p l e R s m args below meth c H locs 0 0 Q (F0 m 43 ls []) := by
          intro K_43 kk_43 n
          induction n with
          | zero => intro v3_43 σl_43 H locs ls hg hH hl; rw [gM_looks_L43] at hg; exact ob_n hg
          | succ n ih_43 =>
            intro v3_43 σl_43 H locs ls hg hH hl
            rw [gM_looks_L43] at hg
            refine lv_iload_n hx hb dX4_looks_43 rfl (lv_at hl 1 rfl) ?_
            refine lv_aload_n hx hb dX4_looks_44 rfl (lv_at hl 0 rfl) ?_
            refine ng_get hx hb hts hown hK hH 0 (by decide) rfl rfl inlX4 8 (by decide) mw_116 rfl dX4_looks_45 ?_
            refine lv_icmp_ge (tgt := 64) hx hb dX4_looks_48 (by decide) (fun c8 => ?_) (fun c8 => ?_)
            · replace hg := ob_t c8 hg
              exact kk_43 σl_43 H locs ls hg hH (lv_sub hl [0] rfl)
            · replace hg := ob_f c8 hg
              refine lv_aload_n hx hb dX4_looks_51 rfl (lv_at hl 0 rfl) ?_
              refine ng_get hx hb hts hown hK hH 0 (by decide) rfl rfl inlX4 21 (by decide) mw_78 rfl dX4_looks_52 ?_
              refine lv_iload_n hx hb dX4_looks_55 rfl (lv_at hl 1 rfl) ?_
              refine lv_iconst (v := (0 : Int32)) hx hb dX4_looks_56 (by decide) ?_
              obtain ⟨hb9, hg⟩ := ob_i hg
              refine ng_iast hx hb hK hH 12 (by decide) (fun _ => rfl) hb9 dX4_looks_57 (fun H locs hH => ?_)
              refine lv_iinc (v := (v3_43 + 1)) (lv' := [(3, .int (v3_43 + 1)), (0, .ref (h 0))]) hx hb dX4_looks_58 hl (k := 1) rfl rfl (by decide) rfl (fun ls hl => ?_)
              refine lv_goto (tgt := 43) hx hb dX4_looks_61 (by decide) ?_
              exact ih_43 (v3_43 + 1) (nst σl_43 12 v3_43.toNatClampNeg (0 : Int32)) H locs ls hg hH (lv_sub hl [1, 0] rfl)
        refine LP_43 _ ?_ _ _ _ _ _ _ hg hH (lv_sub hl [2, 0] rfl)
        intro σe_43 H locs ls hg hH hl
        exact JP_64 σe_43 H locs ls hg hH (lv_sub hl [0] rfl)
    · replace hg := ob_f c6 hg
      subst hQ
      exact ng_vret hx hb hr hlk (Option.some.inj hg) hH dX4_looks_22
  · replace hg := ob_t c3 hg
    subst hQ
    exact ng_vret hx hb hr hlk (Option.some.inj hg) hH dX4_looks_8
set_option maxHeartbeats 8000000 in
set_option maxRecDepth 100000 in
theorem cM_parts (l : Launch) (D : va_G) (cI cZ cA : ClassId) (h : Nat → Nat) (hi : nInj 14 h) : ∀ (d : Nat) (p1 p2 : Int32) (σ : nS) (q : nS) (hg : gM_parts d p1 p2 σ = some q), nMv l yX4_parts cX4_parts 4 none (3 + d) D cI cZ cA 14 (cfM cI cZ h) h [.ref (h 0), .int p1, .int p2] σ q := by
  intro d
  induction d with
  | zero => intro p1 p2 σ q hg; rw [gM_parts] at hg; exact ob_n hg
  | succ d ihd =>
    intro p1 p2 σ q hg
    rw [gM_parts] at hg
    refine ng_body_v (by decide) hi (Nat.le_of_ble_eq_true rfl) ?_
    intro p e R s m args below meth c sz Q ls hx hb hml hr hlk hts hown hK hR hQ hl hH
    have hown : s.vm.findClass RX4 = some m.cls := hown
    have hl : lv_has ls 4 [(0, .ref (h 0)), (1, .int p1), (2, .int p2)] := hl
    refine lv_iload_n hx hb dX4_parts_0 rfl (lv_at hl 1 rfl) ?_
    refine lv_aload_n hx hb dX4_parts_1 rfl (lv_at hl 0 rfl) ?_
    refine ng_get hx hb hts hown hK hH 0 (by decide) rfl rfl inlX4 2 (by decide) mw_92 rfl dX4_parts_2 ?_
    refine lv_icmp_ne (tgt := 14) hx hb dX4_parts_5 (by decide) (fun c1 => ?_) (fun c1 => ?_)
    · replace hg := ob_f c1 hg
      refine lv_iconst (v := (0 : Int32)) hx hb dX4_parts_14 (by decide) ?_
      refine lv_istore_n (lv' := [(3, .int (0 : Int32)), (0, .ref (h 0)), (1, .int p1), (2, .int p2)]) hx hb dX4_parts_15 rfl hl (by decide) rfl (fun ls hl => ?_)
      have LP_16 : ∀ (K_16 : nS → Option nS) (kk_16 : ∀ (σe_16 : nS) (H : Heap) (locs : List Loc) (ls : Array Slot), K_16 σe_16 = some q → nH D 14 (cfM cI cZ h) h (nAd 14 h sz) s.heap σe_16 H locs → lv_has ls 4 [] → W p l e R s m args below meth c H locs 0 0 Q (F0 m 53 ls [])) (n : Nat) (v3_16 : Int32) (σl_16 : nS) (H : Heap) (locs : List Loc) (ls : Array Slot), gM_parts_L16 (gM_parts d) p1 p2 K_16 n v3_16 σl_16 = some q → nH D 14 (cfM cI cZ h) h (nAd 14 h sz) s.heap σl_16 H locs → lv_has ls 4 [(0, .ref (h 0)), (1, .int p1), (2, .int p2), (3, .int v3_16)] → W p l e R s m args below meth c H locs 0 0 Q (F0 m 16 ls []) := by
        intro K_16 kk_16 n
        induction n with
        | zero => intro v3_16 σl_16 H locs ls hg hH hl; rw [gM_parts_L16] at hg; exact ob_n hg
        | succ n ih_16 =>
          intro v3_16 σl_16 H locs ls hg hH hl
          rw [gM_parts_L16] at hg
          refine lv_iload_n hx hb dX4_parts_16 rfl (lv_at hl 3 rfl) ?_
          refine lv_iload_n hx hb dX4_parts_17 rfl (lv_at hl 2 rfl) ?_
          refine lv_icmp_gt (tgt := 53) hx hb dX4_parts_18 (by decide) (fun c2 => ?_) (fun c2 => ?_)
          · replace hg := ob_t c2 hg
            exact kk_16 σl_16 H locs ls hg hH (lv_sub hl [] rfl)
          · replace hg := ob_f c2 hg
            refine lv_aload_n hx hb dX4_parts_21 rfl (lv_at hl 0 rfl) ?_
            refine ng_get hx hb hts hown hK hH 0 (by decide) rfl rfl inlX4 12 (by decide) mw_76 rfl dX4_parts_22 ?_
            refine lv_iload_n hx hb dX4_parts_25 rfl (lv_at hl 1 rfl) ?_
            refine lv_iload_n hx hb dX4_parts_26 rfl (lv_at hl 3 rfl) ?_
            obtain ⟨hb3, hg⟩ := ob_i hg
            refine ng_iast hx hb hK hH 10 (by decide) (fun _ => rfl) hb3 dX4_parts_27 (fun H locs hH => ?_)
            refine lv_aload_n hx hb dX4_parts_28 rfl (lv_at hl 0 rfl) ?_
            refine lv_iload_n hx hb dX4_parts_29 rfl (lv_at hl 1 rfl) ?_
            refine lv_iconst (v := (1 : Int32)) hx hb dX4_parts_30 (by decide) ?_
            refine lv_iadd hx hb dX4_parts_31 ?_
            refine lv_iload_n hx hb dX4_parts_32 rfl (lv_at hl 3 rfl) ?_
            refine lv_iload_n hx hb dX4_parts_33 rfl (lv_at hl 2 rfl) ?_
            refine lv_icmp_ne (tgt := 43) hx hb dX4_parts_34 (by decide) (fun c4 => ?_) (fun c4 => ?_)
            · replace hg := ob_f c4 hg
              refine lv_iload_n hx hb dX4_parts_43 rfl (lv_at hl 2 rfl) ?_
              obtain ⟨q5, hc6, hg⟩ := ob_b hg
              refine ng_cv (ng_rV hx hb hml hown hts hK hH (As := [.int (p1 + (1 : Int32)), .int p2]) (rest := []) 0 (ihd (p1 + (1 : Int32)) p2 (nst σl_16 10 p1.toNatClampNeg v3_16) q5 hc6 _) (by decide) rfl rfl mw_262 mw_263 mw_264 mw_5 mw_265 pdX4_parts ⟨by rw [hR]; show _ ≤ _; simp only [nRm]; omega, by rw [hR]; show _ ≤ _; simp only [nRm]; omega⟩ hl.1 rfl (Nat.le_of_ble_eq_true rfl) dX4_parts_44 ⟨Nat.zero_le _, Nat.zero_le _⟩) hH (fun H locs hH => ?_)
              refine lv_iinc (v := (v3_16 + 1)) (lv' := [(3, .int (v3_16 + 1)), (0, .ref (h 0)), (1, .int p1), (2, .int p2)]) hx hb dX4_parts_47 hl (k := 3) rfl rfl (by decide) rfl (fun ls hl => ?_)
              refine lv_goto (tgt := 16) hx hb dX4_parts_50 (by decide) ?_
              exact ih_16 (v3_16 + 1) q5 H locs ls hg hH (lv_sub hl [1, 2, 3, 0] rfl)
            · replace hg := ob_t c4 hg
              refine lv_iload_n hx hb dX4_parts_37 rfl (lv_at hl 2 rfl) ?_
              refine lv_iconst (v := (1 : Int32)) hx hb dX4_parts_38 (by decide) ?_
              refine lv_iadd hx hb dX4_parts_39 ?_
              refine lv_goto (tgt := 44) hx hb dX4_parts_40 (by decide) ?_
              obtain ⟨q7, hc8, hg⟩ := ob_b hg
              refine ng_cv (ng_rV hx hb hml hown hts hK hH (As := [.int (p1 + (1 : Int32)), .int (p2 + (1 : Int32))]) (rest := []) 0 (ihd (p1 + (1 : Int32)) (p2 + (1 : Int32)) (nst σl_16 10 p1.toNatClampNeg v3_16) q7 hc8 _) (by decide) rfl rfl mw_262 mw_263 mw_264 mw_5 mw_265 pdX4_parts ⟨by rw [hR]; show _ ≤ _; simp only [nRm]; omega, by rw [hR]; show _ ≤ _; simp only [nRm]; omega⟩ hl.1 rfl (Nat.le_of_ble_eq_true rfl) dX4_parts_44 ⟨Nat.zero_le _, Nat.zero_le _⟩) hH (fun H locs hH => ?_)
              refine lv_iinc (v := (v3_16 + 1)) (lv' := [(3, .int (v3_16 + 1)), (0, .ref (h 0)), (1, .int p1), (2, .int p2)]) hx hb dX4_parts_47 hl (k := 3) rfl rfl (by decide) rfl (fun ls hl => ?_)
              refine lv_goto (tgt := 16) hx hb dX4_parts_50 (by decide) ?_
              exact ih_16 (v3_16 + 1) q7 H locs ls hg hH (lv_sub hl [1, 2, 3, 0] rfl)
      refine LP_16 _ ?_ _ _ _ _ _ _ hg hH (lv_sub hl [1, 2, 3, 0] rfl)
      intro σe_16 H locs ls hg hH hl
      subst hQ
      exact ng_vret hx hb hr hlk (Option.some.inj hg) hH dX4_parts_53
    · replace hg := ob_t c1 hg
      refine lv_aload_n hx hb dX4_parts_8 rfl (lv_at hl 0 rfl) ?_
      refine lv_iload_n hx hb dX4_parts_9 rfl (lv_at hl 2 rfl) ?_
      obtain ⟨q9, hc10, hg⟩ := ob_b hg
      refine ng_cv (ng_rV hx hb hml hown hts hK hH (As := [.int p2]) (rest := []) 0 (cM_looks l D cI cZ cA h hi p2 σ q9 hc10 _) (by decide) rfl rfl mw_266 mw_267 mw_268 mw_5 mw_269 pdX4_looks ⟨by rw [hR]; show _ ≤ _; simp only [nRm]; omega, by rw [hR]; show _ ≤ _; simp only [nRm]; omega⟩ hl.1 rfl (Nat.le_of_ble_eq_true rfl) dX4_parts_10 ⟨Nat.zero_le _, Nat.zero_le _⟩) hH (fun H locs hH => ?_)
      subst hQ
      exact ng_vret hx hb hr hlk (Option.some.inj hg) hH dX4_parts_13
set_option maxHeartbeats 8000000 in
set_option maxRecDepth 100000 in
theorem cM_goesThrough (l : Launch) (D : va_G) (cI cZ cA : ClassId) (h : Nat → Nat) (hi : nInj 14 h) (p1 p2 : Int32) (σ : nS) (q : nS) (hg : gM_goesThrough p1 p2 σ = some q) : nMv l yX4_goesThrough cX4_goesThrough 3 none 15 D cI cZ cA 14 (cfM cI cZ h) h [.ref (h 0), .int p1, .int p2] σ q := by
  unfold gM_goesThrough at hg
  refine ng_body_v (by decide) hi (Nat.le_of_ble_eq_true rfl) ?_
  intro p e R s m args below meth c sz Q ls hx hb hml hr hlk hts hown hK hR hQ hl hH
  have hown : s.vm.findClass RX4 = some m.cls := hown
  have hl : lv_has ls 3 [(0, .ref (h 0)), (1, .int p1), (2, .int p2)] := hl
  refine lv_aload_n hx hb dX4_goesThrough_0 rfl (lv_at hl 0 rfl) ?_
  refine lv_iload_n hx hb dX4_goesThrough_1 rfl (lv_at hl 1 rfl) ?_
  refine ng_put hx hb hts hown hK hH 0 (by decide) rfl rfl inlX4 tyX4 tyX4_ok nmX4 14 (by decide) mw_258 rfl (by decide +kernel) (Nat.le_of_ble_eq_true rfl) rfl dX4_goesThrough_2 (fun H locs hH => ?_)
  refine lv_aload_n hx hb dX4_goesThrough_5 rfl (lv_at hl 0 rfl) ?_
  refine lv_iload_n hx hb dX4_goesThrough_6 rfl (lv_at hl 2 rfl) ?_
  refine ng_put hx hb hts hown hK hH 0 (by decide) rfl rfl inlX4 tyX4 tyX4_ok nmX4 20 (by decide) mw_259 rfl (by decide +kernel) (Nat.le_of_ble_eq_true rfl) rfl dX4_goesThrough_7 (fun H locs hH => ?_)
  refine lv_aload_n hx hb dX4_goesThrough_10 rfl (lv_at hl 0 rfl) ?_
  refine lv_ldc hx hb hown (hts _ mw_260) dX4_goesThrough_11 ?_
  refine ng_put hx hb hts hown hK hH 0 (by decide) rfl rfl inlX4 tyX4 tyX4_ok nmX4 18 (by decide) mw_247 rfl (by decide +kernel) (Nat.le_of_ble_eq_true rfl) rfl dX4_goesThrough_13 (fun H locs hH => ?_)
  refine lv_aload_n hx hb dX4_goesThrough_16 rfl (lv_at hl 0 rfl) ?_
  refine lv_iconst (v := (0 : Int32)) hx hb dX4_goesThrough_17 (by decide) ?_
  refine ng_put hx hb hts hown hK hH 0 (by decide) rfl rfl inlX4 tyX4 tyX4_ok nmX4 19 (by decide) mw_261 rfl (by decide +kernel) (Nat.le_of_ble_eq_true rfl) rfl dX4_goesThrough_18 (fun H locs hH => ?_)
  refine lv_aload_n hx hb dX4_goesThrough_21 rfl (lv_at hl 0 rfl) ?_
  refine lv_iconst (v := (0 : Int32)) hx hb dX4_goesThrough_22 (by decide) ?_
  refine lv_iconst (v := (0 : Int32)) hx hb dX4_goesThrough_23 (by decide) ?_
  obtain ⟨q1, hc2, hg⟩ := ob_b hg
  refine ng_cv (ng_rV hx hb hml hown hts hK hH (As := [.int (0 : Int32), .int (0 : Int32)]) (rest := []) 0 (cM_parts l D cI cZ cA h hi 11 (0 : Int32) (0 : Int32) (nst (nst (nst (nst σ 0 14 p1) 0 20 p2) 0 18 (1000000 : Int32)) 0 19 (0 : Int32)) q1 hc2 _) (by decide) rfl rfl mw_262 mw_263 mw_264 mw_5 mw_265 pdX4_parts ⟨by rw [hR]; show _ ≤ _; simp only [nRm]; omega, by rw [hR]; show _ ≤ _; simp only [nRm]; omega⟩ hl.1 rfl (Nat.le_of_ble_eq_true rfl) dX4_goesThrough_24 ⟨Nat.zero_le _, Nat.zero_le _⟩) hH (fun H locs hH => ?_)
  subst hQ
  exact ng_vret hx hb hr hlk (Option.some.inj hg) hH dX4_goesThrough_27
set_option maxHeartbeats 8000000 in
set_option maxRecDepth 100000 in
theorem cM_canTwo (l : Launch) (D : va_G) (cI cZ cA : ClassId) (h : Nat → Nat) (hi : nInj 14 h) (p1 p2 : Int32) (σ : nS) (q : Int32 × nS) (hg : gM_canTwo p1 p2 σ = some q) : nMi l yX4_canTwo cX4_canTwo 3 (some .boolean) 3 D cI cZ cA 14 (cfM cI cZ h) h [.ref (h 0), .int p1, .int p2] σ q.1 q.2 := by
  unfold gM_canTwo at hg
  refine ng_body_i (by decide) hi (Nat.le_of_ble_eq_true rfl) ?_
  intro p e R s m args below meth c sz Q ls hx hb hml hr hlk hts hown hK hR hQ hl hH
  have hown : s.vm.findClass RX4 = some m.cls := hown
  have hl : lv_has ls 3 [(0, .ref (h 0)), (1, .int p1), (2, .int p2)] := hl
  refine lv_aload_n hx hb dX4_canTwo_0 rfl (lv_at hl 0 rfl) ?_
  refine lv_iload_n hx hb dX4_canTwo_1 rfl (lv_at hl 1 rfl) ?_
  obtain ⟨q1, hc2, hg⟩ := ob_b hg
  refine ng_ci (ng_rV hx hb hml hown hts hK hH (As := [.int p1]) (rest := []) 0 (cM_isPost l D cI cZ cA h hi p1 σ q1 hc2 _) (by decide) rfl rfl mw_117 mw_118 mw_119 mw_5 mw_120 pdX4_isPost ⟨by rw [hR]; show _ ≤ _; simp only [nRm]; omega, by rw [hR]; show _ ≤ _; simp only [nRm]; omega⟩ hl.1 rfl (Nat.le_of_ble_eq_true rfl) dX4_canTwo_2 ⟨Nat.zero_le _, Nat.zero_le _⟩) hH (fun H locs hH => ?_)
  refine lv_if_eq (tgt := 21) hx hb dX4_canTwo_5 (by decide) (fun c3 => ?_) (fun c3 => ?_)
  · replace hg := ob_t c3 hg
    refine lv_iconst (v := (0 : Int32)) hx hb dX4_canTwo_21 (by decide) ?_
    subst hQ
    exact ng_zret hx hb hr hlk (by decide) (congrArg Prod.fst (Option.some.inj hg)) (congrArg Prod.snd (Option.some.inj hg)) hH dX4_canTwo_22
  · replace hg := ob_f c3 hg
    refine lv_aload_n hx hb dX4_canTwo_8 rfl (lv_at hl 0 rfl) ?_
    refine lv_iload_n hx hb dX4_canTwo_9 rfl (lv_at hl 2 rfl) ?_
    obtain ⟨q4, hc5, hg⟩ := ob_b hg
    refine ng_ci (ng_rV hx hb hml hown hts hK hH (As := [.int p2]) (rest := []) 0 (cM_isPost l D cI cZ cA h hi p2 σ q4 hc5 _) (by decide) rfl rfl mw_117 mw_118 mw_119 mw_5 mw_120 pdX4_isPost ⟨by rw [hR]; show _ ≤ _; simp only [nRm]; omega, by rw [hR]; show _ ≤ _; simp only [nRm]; omega⟩ hl.1 rfl (Nat.le_of_ble_eq_true rfl) dX4_canTwo_10 ⟨Nat.zero_le _, Nat.zero_le _⟩) hH (fun H locs hH => ?_)
    refine lv_if_eq (tgt := 21) hx hb dX4_canTwo_13 (by decide) (fun c6 => ?_) (fun c6 => ?_)
    · replace hg := ob_t c6 hg
      refine lv_iconst (v := (0 : Int32)) hx hb dX4_canTwo_21 (by decide) ?_
      subst hQ
      exact ng_zret hx hb hr hlk (by decide) (congrArg Prod.fst (Option.some.inj hg)) (congrArg Prod.snd (Option.some.inj hg)) hH dX4_canTwo_22
    · replace hg := ob_f c6 hg
      refine lv_iload_n hx hb dX4_canTwo_16 rfl (lv_at hl 1 rfl) ?_
      refine lv_iload_n hx hb dX4_canTwo_17 rfl (lv_at hl 2 rfl) ?_
      refine lv_icmp_ne (tgt := 23) hx hb dX4_canTwo_18 (by decide) (fun c7 => ?_) (fun c7 => ?_)
      · replace hg := ob_f c7 hg
        refine lv_aload_n hx hb dX4_canTwo_23 rfl (lv_at hl 0 rfl) ?_
        refine lv_iload_n hx hb dX4_canTwo_24 rfl (lv_at hl 1 rfl) ?_
        refine ng_put hx hb hts hown hK hH 0 (by decide) rfl rfl inlX4 tyX4 tyX4_ok nmX4 15 (by decide) mw_252 rfl (by decide +kernel) (Nat.le_of_ble_eq_true rfl) rfl dX4_canTwo_25 (fun H locs hH => ?_)
        refine lv_aload_n hx hb dX4_canTwo_28 rfl (lv_at hl 0 rfl) ?_
        refine lv_iload_n hx hb dX4_canTwo_29 rfl (lv_at hl 2 rfl) ?_
        refine ng_put hx hb hts hown hK hH 0 (by decide) rfl rfl inlX4 tyX4 tyX4_ok nmX4 16 (by decide) mw_253 rfl (by decide +kernel) (Nat.le_of_ble_eq_true rfl) rfl dX4_canTwo_30 (fun H locs hH => ?_)
        refine lv_iconst (v := (1 : Int32)) hx hb dX4_canTwo_33 (by decide) ?_
        subst hQ
        exact ng_zret hx hb hr hlk (by decide) (congrArg Prod.fst (Option.some.inj hg)) (congrArg Prod.snd (Option.some.inj hg)) hH dX4_canTwo_34
      · replace hg := ob_t c7 hg
        refine lv_iconst (v := (0 : Int32)) hx hb dX4_canTwo_21 (by decide) ?_
        subst hQ
        exact ng_zret hx hb hr hlk (by decide) (congrArg Prod.fst (Option.some.inj hg)) (congrArg Prod.snd (Option.some.inj hg)) hH dX4_canTwo_22
set_option maxHeartbeats 8000000 in
set_option maxRecDepth 100000 in
theorem cM_cut (l : Launch) (D : va_G) (cI cZ cA : ClassId) (h : Nat → Nat) (hi : nInj 14 h) (p1 p2 : Int32) (σ : nS) (q : Int32 × nS) (hg : gM_cut p1 p2 σ = some q) : nMi l yX4_cut cX4_cut 3 (some .int) 16 D cI cZ cA 14 (cfM cI cZ h) h [.ref (h 0), .int p1, .int p2] σ q.1 q.2 := by
  unfold gM_cut at hg
  refine ng_body_i (by decide) hi (Nat.le_of_ble_eq_true rfl) ?_
  intro p e R s m args below meth c sz Q ls hx hb hml hr hlk hts hown hK hR hQ hl hH
  have hown : s.vm.findClass RX4 = some m.cls := hown
  have hl : lv_has ls 3 [(0, .ref (h 0)), (1, .int p1), (2, .int p2)] := hl
  refine lv_aload_n hx hb dX4_cut_0 rfl (lv_at hl 0 rfl) ?_
  refine lv_iload_n hx hb dX4_cut_1 rfl (lv_at hl 1 rfl) ?_
  refine lv_iload_n hx hb dX4_cut_2 rfl (lv_at hl 2 rfl) ?_
  obtain ⟨q1, hc2, hg⟩ := ob_b hg
  refine ng_ci (ng_rV hx hb hml hown hts hK hH (As := [.int p1, .int p2]) (rest := []) 0 (cM_canTwo l D cI cZ cA h hi p1 p2 σ q1 hc2 _) (by decide) rfl rfl mw_248 mw_249 mw_250 mw_5 mw_251 pdX4_canTwo ⟨by rw [hR]; show _ ≤ _; simp only [nRm]; omega, by rw [hR]; show _ ≤ _; simp only [nRm]; omega⟩ hl.1 rfl (Nat.le_of_ble_eq_true rfl) dX4_cut_3 ⟨Nat.zero_le _, Nat.zero_le _⟩) hH (fun H locs hH => ?_)
  refine lv_if_ne (tgt := 11) hx hb dX4_cut_6 (by decide) (fun c3 => ?_) (fun c3 => ?_)
  · replace hg := ob_f c3 hg
    refine lv_aload_n hx hb dX4_cut_11 rfl (lv_at hl 0 rfl) ?_
    refine lv_iconst (v := (0 : Int32)) hx hb dX4_cut_12 (by decide) ?_
    refine lv_iconst (v := (0 : Int32)) hx hb dX4_cut_13 (by decide) ?_
    obtain ⟨q4, hc5, hg⟩ := ob_b hg
    refine ng_cv (ng_rV hx hb hml hown hts hK hH (As := [.int (0 : Int32), .int (0 : Int32)]) (rest := []) 0 (cM_goesThrough l D cI cZ cA h hi (0 : Int32) (0 : Int32) q1.2 q4 hc5 _) (by decide) rfl rfl mw_254 mw_255 mw_256 mw_5 mw_257 pdX4_goesThrough ⟨by rw [hR]; show _ ≤ _; simp only [nRm]; omega, by rw [hR]; show _ ≤ _; simp only [nRm]; omega⟩ hl.1 rfl (Nat.le_of_ble_eq_true rfl) dX4_cut_14 ⟨Nat.zero_le _, Nat.zero_le _⟩) hH (fun H locs hH => ?_)
    refine lv_aload_n hx hb dX4_cut_17 rfl (lv_at hl 0 rfl) ?_
    refine ng_get hx hb hts hown hK hH 0 (by decide) rfl rfl inlX4 18 (by decide) mw_247 rfl dX4_cut_18 ?_
    subst hQ
    exact ng_iret hx hb hr hlk (congrArg Prod.fst (Option.some.inj hg)) (congrArg Prod.snd (Option.some.inj hg)) hH dX4_cut_21
  · replace hg := ob_t c3 hg
    refine lv_iconst (v := (-1 : Int32)) hx hb dX4_cut_9 (by decide) ?_
    subst hQ
    exact ng_iret hx hb hr hlk (congrArg Prod.fst (Option.some.inj hg)) (congrArg Prod.snd (Option.some.inj hg)) hH dX4_cut_10
set_option maxHeartbeats 8000000 in
set_option maxRecDepth 100000 in
theorem cM_cutPart (l : Launch) (D : va_G) (cI cZ cA : ClassId) (h : Nat → Nat) (hi : nInj 14 h) (p1 p2 p3 : Int32) (σ : nS) (q : Int32 × nS) (hg : gM_cutPart p1 p2 p3 σ = some q) : nMi l yX4_cutPart cX4_cutPart 4 (some .int) 16 D cI cZ cA 14 (cfM cI cZ h) h [.ref (h 0), .int p1, .int p2, .int p3] σ q.1 q.2 := by
  unfold gM_cutPart at hg
  refine ng_body_i (by decide) hi (Nat.le_of_ble_eq_true rfl) ?_
  intro p e R s m args below meth c sz Q ls hx hb hml hr hlk hts hown hK hR hQ hl hH
  have hown : s.vm.findClass RX4 = some m.cls := hown
  have hl : lv_has ls 4 [(0, .ref (h 0)), (1, .int p1), (2, .int p2), (3, .int p3)] := hl
  refine lv_aload_n hx hb dX4_cutPart_0 rfl (lv_at hl 0 rfl) ?_
  refine lv_iload_n hx hb dX4_cutPart_1 rfl (lv_at hl 1 rfl) ?_
  refine lv_iload_n hx hb dX4_cutPart_2 rfl (lv_at hl 2 rfl) ?_
  obtain ⟨q1, hc2, hg⟩ := ob_b hg
  refine ng_ci (ng_rV hx hb hml hown hts hK hH (As := [.int p1, .int p2]) (rest := []) 0 (cM_canTwo l D cI cZ cA h hi p1 p2 σ q1 hc2 _) (by decide) rfl rfl mw_248 mw_249 mw_250 mw_5 mw_251 pdX4_canTwo ⟨by rw [hR]; show _ ≤ _; simp only [nRm]; omega, by rw [hR]; show _ ≤ _; simp only [nRm]; omega⟩ hl.1 rfl (Nat.le_of_ble_eq_true rfl) dX4_cutPart_3 ⟨Nat.zero_le _, Nat.zero_le _⟩) hH (fun H locs hH => ?_)
  refine lv_if_eq (tgt := 17) hx hb dX4_cutPart_6 (by decide) (fun c3 => ?_) (fun c3 => ?_)
  · replace hg := ob_t c3 hg
    refine lv_iconst (v := (-1 : Int32)) hx hb dX4_cutPart_17 (by decide) ?_
    subst hQ
    exact ng_iret hx hb hr hlk (congrArg Prod.fst (Option.some.inj hg)) (congrArg Prod.snd (Option.some.inj hg)) hH dX4_cutPart_18
  · replace hg := ob_f c3 hg
    refine lv_aload_n hx hb dX4_cutPart_9 rfl (lv_at hl 0 rfl) ?_
    refine lv_iload_n hx hb dX4_cutPart_10 rfl (lv_at hl 3 rfl) ?_
    obtain ⟨q4, hc5, hg⟩ := ob_b hg
    refine ng_ci (ng_rV hx hb hml hown hts hK hH (As := [.int p3]) (rest := []) 0 (cM_isPost l D cI cZ cA h hi p3 q1.2 q4 hc5 _) (by decide) rfl rfl mw_117 mw_118 mw_119 mw_5 mw_120 pdX4_isPost ⟨by rw [hR]; show _ ≤ _; simp only [nRm]; omega, by rw [hR]; show _ ≤ _; simp only [nRm]; omega⟩ hl.1 rfl (Nat.le_of_ble_eq_true rfl) dX4_cutPart_11 ⟨Nat.zero_le _, Nat.zero_le _⟩) hH (fun H locs hH => ?_)
    refine lv_if_ne (tgt := 19) hx hb dX4_cutPart_14 (by decide) (fun c6 => ?_) (fun c6 => ?_)
    · replace hg := ob_f c6 hg
      refine lv_aload_n hx hb dX4_cutPart_19 rfl (lv_at hl 0 rfl) ?_
      refine lv_iconst (v := (0 : Int32)) hx hb dX4_cutPart_20 (by decide) ?_
      refine lv_iconst (v := (0 : Int32)) hx hb dX4_cutPart_21 (by decide) ?_
      obtain ⟨q7, hc8, hg⟩ := ob_b hg
      refine ng_cv (ng_rV hx hb hml hown hts hK hH (As := [.int (0 : Int32), .int (0 : Int32)]) (rest := []) 0 (cM_goesThrough l D cI cZ cA h hi (0 : Int32) (0 : Int32) q1.2 q7 hc8 _) (by decide) rfl rfl mw_254 mw_255 mw_256 mw_5 mw_257 pdX4_goesThrough ⟨by rw [hR]; show _ ≤ _; simp only [nRm]; omega, by rw [hR]; show _ ≤ _; simp only [nRm]; omega⟩ hl.1 rfl (Nat.le_of_ble_eq_true rfl) dX4_cutPart_22 ⟨Nat.zero_le _, Nat.zero_le _⟩) hH (fun H locs hH => ?_)
      refine lv_aload_n hx hb dX4_cutPart_25 rfl (lv_at hl 0 rfl) ?_
      refine ng_get hx hb hts hown hK hH 0 (by decide) rfl rfl inlX4 13 (by decide) mw_77 rfl dX4_cutPart_26 ?_
      refine lv_iload_n hx hb dX4_cutPart_29 rfl (lv_at hl 3 rfl) ?_
      obtain ⟨hb9, hg⟩ := ob_i hg
      refine ng_iald hx hb hK hH 11 (by decide) (fun _ => rfl) hb9 dX4_cutPart_30 ?_
      subst hQ
      exact ng_iret hx hb hr hlk (congrArg Prod.fst (Option.some.inj hg)) (congrArg Prod.snd (Option.some.inj hg)) hH dX4_cutPart_31
    · replace hg := ob_t c6 hg
      refine lv_iconst (v := (-1 : Int32)) hx hb dX4_cutPart_17 (by decide) ?_
      subst hQ
      exact ng_iret hx hb hr hlk (congrArg Prod.fst (Option.some.inj hg)) (congrArg Prod.snd (Option.some.inj hg)) hH dX4_cutPart_18
set_option maxHeartbeats 8000000 in
set_option maxRecDepth 100000 in
theorem cM_told (l : Launch) (D : va_G) (cI cZ cA : ClassId) (h : Nat → Nat) (hi : nInj 14 h) (p1 : Int32) (σ : nS) (q : Int32 × nS) (hg : gM_told p1 σ = some q) : nMi l yX4_told cX4_told 2 (some .int) 16 D cI cZ cA 14 (cfM cI cZ h) h [.ref (h 0), .int p1] σ q.1 q.2 := by
  unfold gM_told at hg
  refine ng_body_i (by decide) hi (Nat.le_of_ble_eq_true rfl) ?_
  intro p e R s m args below meth c sz Q ls hx hb hml hr hlk hts hown hK hR hQ hl hH
  have hown : s.vm.findClass RX4 = some m.cls := hown
  have hl : lv_has ls 2 [(0, .ref (h 0)), (1, .int p1)] := hl
  refine lv_aload_n hx hb dX4_told_0 rfl (lv_at hl 0 rfl) ?_
  refine ng_get hx hb hts hown hK hH 0 (by decide) rfl rfl inlX4 2 (by decide) mw_92 rfl dX4_told_1 ?_
  refine lv_if_ne (tgt := 9) hx hb dX4_told_4 (by decide) (fun c1 => ?_) (fun c1 => ?_)
  · replace hg := ob_f c1 hg
    refine lv_aload_n hx hb dX4_told_9 rfl (lv_at hl 0 rfl) ?_
    refine lv_iload_n hx hb dX4_told_10 rfl (lv_at hl 1 rfl) ?_
    refine lv_iconst (v := (0 : Int32)) hx hb dX4_told_11 (by decide) ?_
    obtain ⟨q2, hc3, hg⟩ := ob_b hg
    refine ng_cv (ng_rV hx hb hml hown hts hK hH (As := [.int p1, .int (0 : Int32)]) (rest := []) 0 (cM_goesThrough l D cI cZ cA h hi p1 (0 : Int32) σ q2 hc3 _) (by decide) rfl rfl mw_254 mw_255 mw_256 mw_5 mw_257 pdX4_goesThrough ⟨by rw [hR]; show _ ≤ _; simp only [nRm]; omega, by rw [hR]; show _ ≤ _; simp only [nRm]; omega⟩ hl.1 rfl (Nat.le_of_ble_eq_true rfl) dX4_told_12 ⟨Nat.zero_le _, Nat.zero_le _⟩) hH (fun H locs hH => ?_)
    refine lv_aload_n hx hb dX4_told_15 rfl (lv_at hl 0 rfl) ?_
    refine ng_get hx hb hts hown hK hH 0 (by decide) rfl rfl inlX4 18 (by decide) mw_247 rfl dX4_told_16 ?_
    subst hQ
    exact ng_iret hx hb hr hlk (congrArg Prod.fst (Option.some.inj hg)) (congrArg Prod.snd (Option.some.inj hg)) hH dX4_told_19
  · replace hg := ob_t c1 hg
    refine lv_iconst (v := (-1 : Int32)) hx hb dX4_told_7 (by decide) ?_
    subst hQ
    exact ng_iret hx hb hr hlk (congrArg Prod.fst (Option.some.inj hg)) (congrArg Prod.snd (Option.some.inj hg)) hH dX4_told_8
