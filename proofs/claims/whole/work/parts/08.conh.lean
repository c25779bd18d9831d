set_option maxHeartbeats 8000000 in
set_option maxRecDepth 100000 in
theorem cM_isPost (l : Launch) (D : va_G) (cI cZ cA : ClassId) (h : Nat → Nat) (hi : nInj 14 h) (p1 : Int32) (σ : nS) (q : Int32) (hg : gM_isPost p1 σ = some q) : nMi l yX4_isPost cX4_isPost 2 (some .boolean) 2 D cI cZ cA 14 (cfM cI cZ h) h [.ref (h 0), .int p1] σ q σ := by
  unfold gM_isPost at hg
  refine ng_body_i (by decide) hi (Nat.le_of_ble_eq_true rfl) ?_
  intro p e R s m args below meth c sz Q ls hx hb hml hr hlk hts hown hK hR hQ hl hH
  have hown : s.vm.findClass RX4 = some m.cls := hown
  have hl : lv_has ls 2 [(0, .ref (h 0)), (1, .int p1)] := hl
  refine lv_iload_n hx hb dX4_isPost_0 rfl (lv_at hl 1 rfl) ?_
  refine lv_iconst (v := (0 : Int32)) hx hb dX4_isPost_1 (by decide) ?_
  refine lv_aload_n hx hb dX4_isPost_2 rfl (lv_at hl 0 rfl) ?_
  refine ng_get hx hb hts hown hK hH 0 (by decide) rfl rfl inlX4 2 (by decide) mw_92 rfl dX4_isPost_3 ?_
  refine lv_iconst (v := (1 : Int32)) hx hb dX4_isPost_6 (by decide) ?_
  refine lv_isub hx hb dX4_isPost_7 ?_
  obtain ⟨q1, hc2, hg⟩ := ob_b hg
  refine ng_ci (ng_rS hx hb hml hown hts hK hH (As := [.int p1, .int (0 : Int32), .int ((σ 0 2) - (1 : Int32))]) (rest := []) (cM_in l D cI cZ cA h hi p1 (0 : Int32) ((σ 0 2) - (1 : Int32)) σ q1 hc2 _) mw_93 mw_94 mw_5 mw_95 pdX4_in.2 ⟨by rw [hR]; show _ ≤ _; simp only [nRm]; omega, by rw [hR]; show _ ≤ _; simp only [nRm]; omega⟩ hl.1 rfl (Nat.le_of_ble_eq_true rfl) dX4_isPost_8 ⟨Nat.zero_le _, Nat.zero_le _⟩) hH (fun H locs hH => ?_)
  obtain ⟨hz, hg⟩ := ob_i hg
  subst hQ
  exact ng_zret hx hb hr hlk hz (Option.some.inj hg) rfl hH dX4_isPost_11
set_option maxHeartbeats 8000000 in
set_option maxRecDepth 100000 in
theorem cM_isLine (l : Launch) (D : va_G) (cI cZ cA : ClassId) (h : Nat → Nat) (hi : nInj 14 h) (p1 : Int32) (σ : nS) (q : Int32) (hg : gM_isLine p1 σ = some q) : nMi l yX4_isLine cX4_isLine 2 (some .boolean) 2 D cI cZ cA 14 (cfM cI cZ h) h [.ref (h 0), .int p1] σ q σ := by
  unfold gM_isLine at hg
  refine ng_body_i (by decide) hi (Nat.le_of_ble_eq_true rfl) ?_
  intro p e R s m args below meth c sz Q ls hx hb hml hr hlk hts hown hK hR hQ hl hH
  have hown : s.vm.findClass RX4 = some m.cls := hown
  have hl : lv_has ls 2 [(0, .ref (h 0)), (1, .int p1)] := hl
  refine lv_iload_n hx hb dX4_isLine_0 rfl (lv_at hl 1 rfl) ?_
  refine lv_iconst (v := (0 : Int32)) hx hb dX4_isLine_1 (by decide) ?_
  refine lv_aload_n hx hb dX4_isLine_2 rfl (lv_at hl 0 rfl) ?_
  refine ng_get hx hb hts hown hK hH 0 (by decide) rfl rfl inlX4 8 (by decide) mw_116 rfl dX4_isLine_3 ?_
  refine lv_iconst (v := (1 : Int32)) hx hb dX4_isLine_6 (by decide) ?_
  refine lv_isub hx hb dX4_isLine_7 ?_
  obtain ⟨q1, hc2, hg⟩ := ob_b hg
  refine ng_ci (ng_rS hx hb hml hown hts hK hH (As := [.int p1, .int (0 : Int32), .int ((σ 0 8) - (1 : Int32))]) (rest := []) (cM_in l D cI cZ cA h hi p1 (0 : Int32) ((σ 0 8) - (1 : Int32)) σ q1 hc2 _) mw_93 mw_94 mw_5 mw_95 pdX4_in.2 ⟨by rw [hR]; show _ ≤ _; simp only [nRm]; omega, by rw [hR]; show _ ≤ _; simp only [nRm]; omega⟩ hl.1 rfl (Nat.le_of_ble_eq_true rfl) dX4_isLine_8 ⟨Nat.zero_le _, Nat.zero_le _⟩) hH (fun H locs hH => ?_)
  refine lv_if_eq (tgt := 27) hx hb dX4_isLine_11 (by decide) (fun c3 => ?_) (fun c3 => ?_)
  · replace hg := ob_t c3 hg
    refine lv_iconst (v := (0 : Int32)) hx hb dX4_isLine_27 (by decide) ?_
    subst hQ
    exact ng_zret hx hb hr hlk (by decide) (Option.some.inj hg) rfl hH dX4_isLine_28
  · replace hg := ob_f c3 hg
    refine lv_aload_n hx hb dX4_isLine_14 rfl (lv_at hl 0 rfl) ?_
    refine ng_get hx hb hts hown hK hH 0 (by decide) rfl rfl inlX4 7 (by decide) mw_73 rfl dX4_isLine_15 ?_
    refine lv_iload_n hx hb dX4_isLine_18 rfl (lv_at hl 1 rfl) ?_
    obtain ⟨hb4, hg⟩ := ob_i hg
    refine ng_zald hx hb hK hH 7 (by decide) (fun _ => rfl) hb4 dX4_isLine_19 ?_
    refine lv_if_ne (tgt := 27) hx hb dX4_isLine_20 (by decide) (fun c5 => ?_) (fun c5 => ?_)
    · replace hg := ob_f c5 hg
      refine lv_iconst (v := (0 : Int32)) hx hb dX4_isLine_27 (by decide) ?_
      subst hQ
      exact ng_zret hx hb hr hlk (by decide) (Option.some.inj hg) rfl hH dX4_isLine_28
    · replace hg := ob_t c5 hg
      refine lv_iconst (v := (1 : Int32)) hx hb dX4_isLine_23 (by decide) ?_
      refine lv_goto (tgt := 28) hx hb dX4_isLine_24 (by decide) ?_
      subst hQ
      exact ng_zret hx hb hr hlk (by decide) (Option.some.inj hg) rfl hH dX4_isLine_28
set_option maxHeartbeats 8000000 in
set_option maxRecDepth 100000 in
theorem cM_post (l : Launch) (D : va_G) (cI cZ cA : ClassId) (h : Nat → Nat) (hi : nInj 14 h) (p1 : Int32) (σ : nS) (q : Int32 × nS) (hg : gM_post p1 σ = some q) : nMi l yX4_post cX4_post 2 (some .int) 2 D cI cZ cA 14 (cfM cI cZ h) h [.ref (h 0), .int p1] σ q.1 q.2 := by
  unfold gM_post at hg
  refine ng_body_i (by decide) hi (Nat.le_of_ble_eq_true rfl) ?_
  intro p e R s m args below meth c sz Q ls hx hb hml hr hlk hts hown hK hR hQ hl hH
  have hown : s.vm.findClass RX4 = some m.cls := hown
  have hl : lv_has ls 2 [(0, .ref (h 0)), (1, .int p1)] := hl
  refine lv_iload_n hx hb dX4_post_0 rfl (lv_at hl 1 rfl) ?_
  refine lv_iconst (v := (1 : Int32)) hx hb dX4_post_1 (by decide) ?_
  refine lv_bipush (v := (99 : Int32)) hx hb dX4_post_2 (by decide) ?_
  obtain ⟨q1, hc2, hg⟩ := ob_b hg
  refine ng_ci (ng_rS hx hb hml hown hts hK hH (As := [.int p1, .int (1 : Int32), .int (99 : Int32)]) (rest := []) (cM_in l D cI cZ cA h hi p1 (1 : Int32) (99 : Int32) σ q1 hc2 _) mw_93 mw_94 mw_5 mw_95 pdX4_in.2 ⟨by rw [hR]; show _ ≤ _; simp only [nRm]; omega, by rw [hR]; show _ ≤ _; simp only [nRm]; omega⟩ hl.1 rfl (Nat.le_of_ble_eq_true rfl) dX4_post_4 ⟨Nat.zero_le _, Nat.zero_le _⟩) hH (fun H locs hH => ?_)
  refine lv_if_eq (tgt := 19) hx hb dX4_post_7 (by decide) (fun c3 => ?_) (fun c3 => ?_)
  · replace hg := ob_t c3 hg
    refine lv_iconst (v := (-1 : Int32)) hx hb dX4_post_19 (by decide) ?_
    subst hQ
    exact ng_iret hx hb hr hlk (congrArg Prod.fst (Option.some.inj hg)) (congrArg Prod.snd (Option.some.inj hg)) hH dX4_post_20
  · replace hg := ob_f c3 hg
    refine lv_aload_n hx hb dX4_post_10 rfl (lv_at hl 0 rfl) ?_
    refine ng_get hx hb hts hown hK hH 0 (by decide) rfl rfl inlX4 2 (by decide) mw_92 rfl dX4_post_11 ?_
    refine lv_bipush (v := (9 : Int32)) hx hb dX4_post_14 (by decide) ?_
    refine lv_icmp_ne (tgt := 21) hx hb dX4_post_16 (by decide) (fun c4 => ?_) (fun c4 => ?_)
    · replace hg := ob_f c4 hg
      refine lv_aload_n hx hb dX4_post_21 rfl (lv_at hl 0 rfl) ?_
      refine ng_get hx hb hts hown hK hH 0 (by decide) rfl rfl inlX4 0 (by decide) mw_67 rfl dX4_post_22 ?_
      refine lv_aload_n hx hb dX4_post_25 rfl (lv_at hl 0 rfl) ?_
      refine ng_get hx hb hts hown hK hH 0 (by decide) rfl rfl inlX4 2 (by decide) mw_92 rfl dX4_post_26 ?_
      refine lv_iload_n hx hb dX4_post_29 rfl (lv_at hl 1 rfl) ?_
      obtain ⟨hb5, hg⟩ := ob_i hg
      refine ng_iast hx hb hK hH 1 (by decide) (fun _ => rfl) hb5 dX4_post_30 (fun H locs hH => ?_)
      refine lv_aload_n hx hb dX4_post_31 rfl (lv_at hl 0 rfl) ?_
      refine lv_dup hx hb dX4_post_32 rfl ?_
      refine ng_get hx hb hts hown hK hH 0 (by decide) rfl rfl inlX4 2 (by decide) mw_92 rfl dX4_post_33 ?_
      refine lv_iconst (v := (1 : Int32)) hx hb dX4_post_36 (by decide) ?_
      refine lv_iadd hx hb dX4_post_37 ?_
      refine ng_put hx hb hts hown hK hH 0 (by decide) rfl rfl inlX4 tyX4 tyX4_ok nmX4 2 (by decide) mw_92 rfl (by decide +kernel) (Nat.le_of_ble_eq_true rfl) rfl dX4_post_38 (fun H locs hH => ?_)
      refine lv_aload_n hx hb dX4_post_41 rfl (lv_at hl 0 rfl) ?_
      refine ng_get hx hb hts hown hK hH 0 (by decide) rfl rfl inlX4 2 (by decide) mw_92 rfl dX4_post_42 ?_
      refine lv_iconst (v := (1 : Int32)) hx hb dX4_post_45 (by decide) ?_
      refine lv_isub hx hb dX4_post_46 ?_
      subst hQ
      exact ng_iret hx hb hr hlk (congrArg Prod.fst (Option.some.inj hg)) (congrArg Prod.snd (Option.some.inj hg)) hH dX4_post_47
    · replace hg := ob_t c4 hg
      refine lv_iconst (v := (-1 : Int32)) hx hb dX4_post_19 (by decide) ?_
      subst hQ
      exact ng_iret hx hb hr hlk (congrArg Prod.fst (Option.some.inj hg)) (congrArg Prod.snd (Option.some.inj hg)) hH dX4_post_20
set_option maxHeartbeats 8000000 in
set_option maxRecDepth 100000 in
theorem cM_line (l : Launch) (D : va_G) (cI cZ cA : ClassId) (h : Nat → Nat) (hi : nInj 14 h) (p1 p2 p3 p4 : Int32) (σ : nS) (q : Int32 × nS) (hg : gM_line p1 p2 p3 p4 σ = some q) : nMi l yX4_line cX4_line 5 (some .int) 3 D cI cZ cA 14 (cfM cI cZ h) h [.ref (h 0), .int p1, .int p2, .int p3, .int p4] σ q.1 q.2 := by
  unfold gM_line at hg
  refine ng_body_i (by decide) hi (Nat.le_of_ble_eq_true rfl) ?_
  intro p e R s m args below meth c sz Q ls hx hb hml hr hlk hts hown hK hR hQ hl hH
  have hown : s.vm.findClass RX4 = some m.cls := hown
  have hl : lv_has ls 5 [(0, .ref (h 0)), (1, .int p1), (2, .int p2), (3, .int p3), (4, .int p4)] := hl
  refine lv_aload_n hx hb dX4_line_0 rfl (lv_at hl 0 rfl) ?_
  refine lv_iload_n hx hb dX4_line_1 rfl (lv_at hl 1 rfl) ?_
  obtain ⟨q1, hc2, hg⟩ := ob_b hg
  refine ng_ci (ng_rV hx hb hml hown hts hK hH (As := [.int p1]) (rest := []) 0 (cM_isPost l D cI cZ cA h hi p1 σ q1 hc2 _) (by decide) rfl rfl mw_117 mw_118 mw_119 mw_5 mw_120 pdX4_isPost ⟨by rw [hR]; show _ ≤ _; simp only [nRm]; omega, by rw [hR]; show _ ≤ _; simp only [nRm]; omega⟩ hl.1 rfl (Nat.le_of_ble_eq_true rfl) dX4_line_2 ⟨Nat.zero_le _, Nat.zero_le _⟩) hH (fun H locs hH => ?_)
  refine lv_if_eq (tgt := 40) hx hb dX4_line_5 (by decide) (fun c3 => ?_) (fun c3 => ?_)
  · replace hg := ob_t c3 hg
    refine lv_iconst (v := (-1 : Int32)) hx hb dX4_line_40 (by decide) ?_
    subst hQ
    exact ng_iret hx hb hr hlk (congrArg Prod.fst (Option.some.inj hg)) (congrArg Prod.snd (Option.some.inj hg)) hH dX4_line_41
  · replace hg := ob_f c3 hg
    refine lv_aload_n hx hb dX4_line_8 rfl (lv_at hl 0 rfl) ?_
    refine lv_iload_n hx hb dX4_line_9 rfl (lv_at hl 2 rfl) ?_
    obtain ⟨q4, hc5, hg⟩ := ob_b hg
    refine ng_ci (ng_rV hx hb hml hown hts hK hH (As := [.int p2]) (rest := []) 0 (cM_isPost l D cI cZ cA h hi p2 σ q4 hc5 _) (by decide) rfl rfl mw_117 mw_118 mw_119 mw_5 mw_120 pdX4_isPost ⟨by rw [hR]; show _ ≤ _; simp only [nRm]; omega, by rw [hR]; show _ ≤ _; simp only [nRm]; omega⟩ hl.1 rfl (Nat.le_of_ble_eq_true rfl) dX4_line_10 ⟨Nat.zero_le _, Nat.zero_le _⟩) hH (fun H locs hH => ?_)
    refine lv_if_eq (tgt := 40) hx hb dX4_line_13 (by decide) (fun c6 => ?_) (fun c6 => ?_)
    · replace hg := ob_t c6 hg
      refine lv_iconst (v := (-1 : Int32)) hx hb dX4_line_40 (by decide) ?_
      subst hQ
      exact ng_iret hx hb hr hlk (congrArg Prod.fst (Option.some.inj hg)) (congrArg Prod.snd (Option.some.inj hg)) hH dX4_line_41
    · replace hg := ob_f c6 hg
      refine lv_iload_n hx hb dX4_line_16 rfl (lv_at hl 1 rfl) ?_
      refine lv_iload_n hx hb dX4_line_17 rfl (lv_at hl 2 rfl) ?_
      refine lv_icmp_eq (tgt := 40) hx hb dX4_line_18 (by decide) (fun c7 => ?_) (fun c7 => ?_)
      · replace hg := ob_t c7 hg
        refine lv_iconst (v := (-1 : Int32)) hx hb dX4_line_40 (by decide) ?_
        subst hQ
        exact ng_iret hx hb hr hlk (congrArg Prod.fst (Option.some.inj hg)) (congrArg Prod.snd (Option.some.inj hg)) hH dX4_line_41
      · replace hg := ob_f c7 hg
        refine lv_iload_n hx hb dX4_line_21 rfl (lv_at hl 3 rfl) ?_
        refine lv_iconst (v := (0 : Int32)) hx hb dX4_line_22 (by decide) ?_
        refine lv_bipush (v := (99 : Int32)) hx hb dX4_line_23 (by decide) ?_
        obtain ⟨q8, hc9, hg⟩ := ob_b hg
        refine ng_ci (ng_rS hx hb hml hown hts hK hH (As := [.int p3, .int (0 : Int32), .int (99 : Int32)]) (rest := []) (cM_in l D cI cZ cA h hi p3 (0 : Int32) (99 : Int32) σ q8 hc9 _) mw_93 mw_94 mw_5 mw_95 pdX4_in.2 ⟨by rw [hR]; show _ ≤ _; simp only [nRm]; omega, by rw [hR]; show _ ≤ _; simp only [nRm]; omega⟩ hl.1 rfl (Nat.le_of_ble_eq_true rfl) dX4_line_25 ⟨Nat.zero_le _, Nat.zero_le _⟩) hH (fun H locs hH => ?_)
        refine lv_if_eq (tgt := 40) hx hb dX4_line_28 (by decide) (fun c10 => ?_) (fun c10 => ?_)
        · replace hg := ob_t c10 hg
          refine lv_iconst (v := (-1 : Int32)) hx hb dX4_line_40 (by decide) ?_
          subst hQ
          exact ng_iret hx hb hr hlk (congrArg Prod.fst (Option.some.inj hg)) (congrArg Prod.snd (Option.some.inj hg)) hH dX4_line_41
        · replace hg := ob_f c10 hg
          refine lv_aload_n hx hb dX4_line_31 rfl (lv_at hl 0 rfl) ?_
          refine ng_get hx hb hts hown hK hH 0 (by decide) rfl rfl inlX4 8 (by decide) mw_116 rfl dX4_line_32 ?_
          refine lv_bipush (v := (24 : Int32)) hx hb dX4_line_35 (by decide) ?_
          refine lv_icmp_ne (tgt := 42) hx hb dX4_line_37 (by decide) (fun c11 => ?_) (fun c11 => ?_)
          · replace hg := ob_f c11 hg
            refine lv_aload_n hx hb dX4_line_42 rfl (lv_at hl 0 rfl) ?_
            refine ng_get hx hb hts hown hK hH 0 (by decide) rfl rfl inlX4 3 (by decide) mw_69 rfl dX4_line_43 ?_
            refine lv_aload_n hx hb dX4_line_46 rfl (lv_at hl 0 rfl) ?_
            refine ng_get hx hb hts hown hK hH 0 (by decide) rfl rfl inlX4 8 (by decide) mw_116 rfl dX4_line_47 ?_
            refine lv_iload_n hx hb dX4_line_50 rfl (lv_at hl 1 rfl) ?_
            obtain ⟨hb12, hg⟩ := ob_i hg
            refine ng_iast hx hb hK hH 3 (by decide) (fun _ => rfl) hb12 dX4_line_51 (fun H locs hH => ?_)
            refine lv_aload_n hx hb dX4_line_52 rfl (lv_at hl 0 rfl) ?_
            refine ng_get hx hb hts hown hK hH 0 (by decide) rfl rfl inlX4 4 (by decide) mw_70 rfl dX4_line_53 ?_
            refine lv_aload_n hx hb dX4_line_56 rfl (lv_at hl 0 rfl) ?_
            refine ng_get hx hb hts hown hK hH 0 (by decide) rfl rfl inlX4 8 (by decide) mw_116 rfl dX4_line_57 ?_
            refine lv_iload_n hx hb dX4_line_60 rfl (lv_at hl 2 rfl) ?_
            obtain ⟨hb13, hg⟩ := ob_i hg
            refine ng_iast hx hb hK hH 4 (by decide) (fun _ => rfl) hb13 dX4_line_61 (fun H locs hH => ?_)
            refine lv_aload_n hx hb dX4_line_62 rfl (lv_at hl 0 rfl) ?_
            refine ng_get hx hb hts hown hK hH 0 (by decide) rfl rfl inlX4 5 (by decide) mw_71 rfl dX4_line_63 ?_
            refine lv_aload_n hx hb dX4_line_66 rfl (lv_at hl 0 rfl) ?_
            refine ng_get hx hb hts hown hK hH 0 (by decide) rfl rfl inlX4 8 (by decide) mw_116 rfl dX4_line_67 ?_
            refine lv_iload_n hx hb dX4_line_70 rfl (lv_at hl 3 rfl) ?_
            obtain ⟨hb14, hg⟩ := ob_i hg
            refine ng_iast hx hb hK hH 5 (by decide) (fun _ => rfl) hb14 dX4_line_71 (fun H locs hH => ?_)
            refine lv_aload_n hx hb dX4_line_72 rfl (lv_at hl 0 rfl) ?_
            refine ng_get hx hb hts hown hK hH 0 (by decide) rfl rfl inlX4 6 (by decide) mw_72 rfl dX4_line_73 ?_
            refine lv_aload_n hx hb dX4_line_76 rfl (lv_at hl 0 rfl) ?_
            refine ng_get hx hb hts hown hK hH 0 (by decide) rfl rfl inlX4 8 (by decide) mw_116 rfl dX4_line_77 ?_
            refine lv_iload hx hb dX4_line_80 (lv_at hl 4 rfl) ?_
            obtain ⟨hb15, hg⟩ := ob_i hg
            refine ng_zast hx hb hK hH 6 (by decide) (fun _ => rfl) hb15 dX4_line_82 (fun H locs hH => ?_)
            refine lv_aload_n hx hb dX4_line_83 rfl (lv_at hl 0 rfl) ?_
            refine lv_dup hx hb dX4_line_84 rfl ?_
            refine ng_get hx hb hts hown hK hH 0 (by decide) rfl rfl inlX4 8 (by decide) mw_116 rfl dX4_line_85 ?_
            refine lv_iconst (v := (1 : Int32)) hx hb dX4_line_88 (by decide) ?_
            refine lv_iadd hx hb dX4_line_89 ?_
            refine ng_put hx hb hts hown hK hH 0 (by decide) rfl rfl inlX4 tyX4 tyX4_ok nmX4 8 (by decide) mw_116 rfl (by decide +kernel) (Nat.le_of_ble_eq_true rfl) rfl dX4_line_90 (fun H locs hH => ?_)
            refine lv_aload_n hx hb dX4_line_93 rfl (lv_at hl 0 rfl) ?_
            refine ng_get hx hb hts hown hK hH 0 (by decide) rfl rfl inlX4 8 (by decide) mw_116 rfl dX4_line_94 ?_
            refine lv_iconst (v := (1 : Int32)) hx hb dX4_line_97 (by decide) ?_
            refine lv_isub hx hb dX4_line_98 ?_
            subst hQ
            exact ng_iret hx hb hr hlk (congrArg Prod.fst (Option.some.inj hg)) (congrArg Prod.snd (Option.some.inj hg)) hH dX4_line_99
          · replace hg := ob_t c11 hg
            refine lv_iconst (v := (-1 : Int32)) hx hb dX4_line_40 (by decide) ?_
            subst hQ
            exact ng_iret hx hb hr hlk (congrArg Prod.fst (Option.some.inj hg)) (congrArg Prod.snd (Option.some.inj hg)) hH dX4_line_41
set_option maxHeartbeats 8000000 in
set_option maxRecDepth 100000 in
theorem cM_end (l : Launch) (D : va_G) (cI cZ cA : ClassId) (h : Nat → Nat) (hi : nInj 14 h) (p1 : Int32) (σ : nS) (q : Int32 × nS) (hg : gM_end p1 σ = some q) : nMi l yX4_end cX4_end 2 (some .boolean) 3 D cI cZ cA 14 (cfM cI cZ h) h [.ref (h 0), .int p1] σ q.1 q.2 := by
  unfold gM_end at hg
  refine ng_body_i (by decide) hi (Nat.le_of_ble_eq_true rfl) ?_
  intro p e R s m args below meth c sz Q ls hx hb hml hr hlk hts hown hK hR hQ hl hH
  have hown : s.vm.findClass RX4 = some m.cls := hown
  have hl : lv_has ls 2 [(0, .ref (h 0)), (1, .int p1)] := hl
  refine lv_aload_n hx hb dX4_end_0 rfl (lv_at hl 0 rfl) ?_
  refine lv_iload_n hx hb dX4_end_1 rfl (lv_at hl 1 rfl) ?_
  obtain ⟨q1, hc2, hg⟩ := ob_b hg
  refine ng_ci (ng_rV hx hb hml hown hts hK hH (As := [.int p1]) (rest := []) 0 (cM_isLine l D cI cZ cA h hi p1 σ q1 hc2 _) (by decide) rfl rfl mw_137 mw_138 mw_139 mw_5 mw_140 pdX4_isLine ⟨by rw [hR]; show _ ≤ _; simp only [nRm]; omega, by rw [hR]; show _ ≤ _; simp only [nRm]; omega⟩ hl.1 rfl (Nat.le_of_ble_eq_true rfl) dX4_end_2 ⟨Nat.zero_le _, Nat.zero_le _⟩) hH (fun H locs hH => ?_)
  refine lv_if_ne (tgt := 10) hx hb dX4_end_5 (by decide) (fun c3 => ?_) (fun c3 => ?_)
  · replace hg := ob_f c3 hg
    refine lv_aload_n hx hb dX4_end_10 rfl (lv_at hl 0 rfl) ?_
    refine ng_get hx hb hts hown hK hH 0 (by decide) rfl rfl inlX4 7 (by decide) mw_73 rfl dX4_end_11 ?_
    refine lv_iload_n hx hb dX4_end_14 rfl (lv_at hl 1 rfl) ?_
    refine lv_iconst (v := (1 : Int32)) hx hb dX4_end_15 (by decide) ?_
    obtain ⟨hb4, hg⟩ := ob_i hg
    refine ng_zast hx hb hK hH 7 (by decide) (fun _ => rfl) hb4 dX4_end_16 (fun H locs hH => ?_)
    refine lv_iconst (v := (1 : Int32)) hx hb dX4_end_17 (by decide) ?_
    subst hQ
    exact ng_zret hx hb hr hlk (by decide) (congrArg Prod.fst (Option.some.inj hg)) (congrArg Prod.snd (Option.some.inj hg)) hH dX4_end_18
  · replace hg := ob_t c3 hg
    refine lv_iconst (v := (0 : Int32)) hx hb dX4_end_8 (by decide) ?_
    subst hQ
    exact ng_zret hx hb hr hlk (by decide) (congrArg Prod.fst (Option.some.inj hg)) (congrArg Prod.snd (Option.some.inj hg)) hH dX4_end_9
set_option maxHeartbeats 8000000 in
set_option maxRecDepth 100000 in
theorem cM_terminal (l : Launch) (D : va_G) (cI cZ cA : ClassId) (h : Nat → Nat) (hi : nInj 14 h) (p1 p2 : Int32) (σ : nS) (q : Int32 × nS) (hg : gM_terminal p1 p2 σ = some q) : nMi l yX4_terminal cX4_terminal 3 (some .boolean) 3 D cI cZ cA 14 (cfM cI cZ h) h [.ref (h 0), .int p1, .int p2] σ q.1 q.2 := by
  unfold gM_terminal at hg
  refine ng_body_i (by decide) hi (Nat.le_of_ble_eq_true rfl) ?_
  intro p e R s m args below meth c sz Q ls hx hb hml hr hlk hts hown hK hR hQ hl hH
  have hown : s.vm.findClass RX4 = some m.cls := hown
  have hl : lv_has ls 3 [(0, .ref (h 0)), (1, .int p1), (2, .int p2)] := hl
  refine lv_aload_n hx hb dX4_terminal_0 rfl (lv_at hl 0 rfl) ?_
  refine lv_iload_n hx hb dX4_terminal_1 rfl (lv_at hl 1 rfl) ?_
  obtain ⟨q1, hc2, hg⟩ := ob_b hg
  refine ng_ci (ng_rV hx hb hml hown hts hK hH (As := [.int p1]) (rest := []) 0 (cM_isPost l D cI cZ cA h hi p1 σ q1 hc2 _) (by decide) rfl rfl mw_117 mw_118 mw_119 mw_5 mw_120 pdX4_isPost ⟨by rw [hR]; show _ ≤ _; simp only [nRm]; omega, by rw [hR]; show _ ≤ _; simp only [nRm]; omega⟩ hl.1 rfl (Nat.le_of_ble_eq_true rfl) dX4_terminal_2 ⟨Nat.zero_le _, Nat.zero_le _⟩) hH (fun H locs hH => ?_)
  refine lv_if_eq (tgt := 18) hx hb dX4_terminal_5 (by decide) (fun c3 => ?_) (fun c3 => ?_)
  · replace hg := ob_t c3 hg
    refine lv_iconst (v := (0 : Int32)) hx hb dX4_terminal_18 (by decide) ?_
    subst hQ
    exact ng_zret hx hb hr hlk (by decide) (congrArg Prod.fst (Option.some.inj hg)) (congrArg Prod.snd (Option.some.inj hg)) hH dX4_terminal_19
  · replace hg := ob_f c3 hg
    refine lv_aload_n hx hb dX4_terminal_8 rfl (lv_at hl 0 rfl) ?_
    refine ng_get hx hb hts hown hK hH 0 (by decide) rfl rfl inlX4 1 (by decide) mw_68 rfl dX4_terminal_9 ?_
    refine lv_iload_n hx hb dX4_terminal_12 rfl (lv_at hl 1 rfl) ?_
    obtain ⟨hb4, hg⟩ := ob_i hg
    refine ng_zald hx hb hK hH 2 (by decide) (fun _ => rfl) hb4 dX4_terminal_13 ?_
    refine lv_iload_n hx hb dX4_terminal_14 rfl (lv_at hl 2 rfl) ?_
    refine lv_icmp_ne (tgt := 20) hx hb dX4_terminal_15 (by decide) (fun c5 => ?_) (fun c5 => ?_)
    · replace hg := ob_f c5 hg
      refine lv_aload_n hx hb dX4_terminal_20 rfl (lv_at hl 0 rfl) ?_
      refine ng_get hx hb hts hown hK hH 0 (by decide) rfl rfl inlX4 1 (by decide) mw_68 rfl dX4_terminal_21 ?_
      refine lv_iload_n hx hb dX4_terminal_24 rfl (lv_at hl 1 rfl) ?_
      refine lv_iload_n hx hb dX4_terminal_25 rfl (lv_at hl 2 rfl) ?_
      obtain ⟨hb6, hg⟩ := ob_i hg
      refine ng_zast hx hb hK hH 2 (by decide) (fun _ => rfl) hb6 dX4_terminal_26 (fun H locs hH => ?_)
      refine lv_iconst (v := (1 : Int32)) hx hb dX4_terminal_27 (by decide) ?_
      subst hQ
      exact ng_zret hx hb hr hlk (by decide) (congrArg Prod.fst (Option.some.inj hg)) (congrArg Prod.snd (Option.some.inj hg)) hH dX4_terminal_28
    · replace hg := ob_t c5 hg
      refine lv_iconst (v := (0 : Int32)) hx hb dX4_terminal_18 (by decide) ?_
      subst hQ
      exact ng_zret hx hb hr hlk (by decide) (congrArg Prod.fst (Option.some.inj hg)) (congrArg Prod.snd (Option.some.inj hg)) hH dX4_terminal_19
set_option maxHeartbeats 8000000 in
set_option maxRecDepth 100000 in
theorem cM_pairOf (l : Launch) (D : va_G) (cI cZ cA : ClassId) (h : Nat → Nat) (hi : nInj 14 h) (p1 p2 : Int32) (σ : nS) (q : Int32) (hg : gM_pairOf p1 p2 σ = some q) : nMi l yX4_pairOf cX4_pairOf 4 (some .int) 1 D cI cZ cA 14 (cfM cI cZ h) h [.ref (h 0), .int p1, .int p2] σ q σ := by
  unfold gM_pairOf at hg
  refine ng_body_i (by decide) hi (Nat.le_of_ble_eq_true rfl) ?_
  intro p e R s m args below meth c sz Q ls hx hb hml hr hlk hts hown hK hR hQ hl hH
  have hown : s.vm.findClass RX4 = some m.cls := hown
  have hl : lv_has ls 4 [(0, .ref (h 0)), (1, .int p1), (2, .int p2)] := hl
  refine lv_iconst (v := (0 : Int32)) hx hb dX4_pairOf_0 (by decide) ?_
  refine lv_istore_n (lv' := [(3, .int (0 : Int32)), (0, .ref (h 0)), (1, .int p1), (2, .int p2)]) hx hb dX4_pairOf_1 rfl hl (by decide) rfl (fun ls hl => ?_)
  have LP_2 : ∀ (K_2 : Option Int32) (kk_2 : ∀ (H : Heap) (locs : List Loc) (ls : Array Slot), K_2 = some q → nH D 14 (cfM cI cZ h) h (nAd 14 h sz) s.heap σ H locs → lv_has ls 4 [] → W p l e R s m args below meth c H locs 0 0 Q (F0 m 58 ls [])) (n : Nat) (v3_2 : Int32) (H : Heap) (locs : List Loc) (ls : Array Slot), gM_pairOf_L2 p1 p2 σ K_2 n v3_2 = some q → nH D 14 (cfM cI cZ h) h (nAd 14 h sz) s.heap σ H locs → lv_has ls 4 [(0, .ref (h 0)), (1, .int p1), (2, .int p2), (3, .int v3_2)] → W p l e R s m args below meth c H locs 0 0 Q (F0 m 2 ls []) := by
    intro K_2 kk_2 n
    induction n with
    | zero => intro v3_2 H locs ls hg hH hl; rw [gM_pairOf_L2] at hg; exact ob_n hg
    | succ n ih_2 =>
      intro v3_2 H locs ls hg hH hl
      rw [gM_pairOf_L2] at hg
      refine lv_iload_n hx hb dX4_pairOf_2 rfl (lv_at hl 3 rfl) ?_
      refine lv_aload_n hx hb dX4_pairOf_3 rfl (lv_at hl 0 rfl) ?_
      refine ng_get hx hb hts hown hK hH 0 (by decide) rfl rfl inlX4 11 (by decide) mw_166 rfl dX4_pairOf_4 ?_
      refine lv_icmp_ge (tgt := 58) hx hb dX4_pairOf_7 (by decide) (fun c1 => ?_) (fun c1 => ?_)
      · replace hg := ob_t c1 hg
        exact kk_2 H locs ls hg hH (lv_sub hl [] rfl)
      · replace hg := ob_f c1 hg
        refine lv_aload_n hx hb dX4_pairOf_10 rfl (lv_at hl 0 rfl) ?_
        refine ng_get hx hb hts hown hK hH 0 (by decide) rfl rfl inlX4 9 (by decide) mw_74 rfl dX4_pairOf_11 ?_
        refine lv_iload_n hx hb dX4_pairOf_14 rfl (lv_at hl 3 rfl) ?_
        obtain ⟨hb2, hg⟩ := ob_i hg
        refine ng_iald hx hb hK hH 8 (by decide) (fun _ => rfl) hb2 dX4_pairOf_15 ?_
        refine lv_iload_n hx hb dX4_pairOf_16 rfl (lv_at hl 1 rfl) ?_
        refine lv_icmp_ne (tgt := 30) hx hb dX4_pairOf_17 (by decide) (fun c3 => ?_) (fun c3 => ?_)
        · replace hg := ob_f c3 hg
          refine lv_aload_n hx hb dX4_pairOf_30 rfl (lv_at hl 0 rfl) ?_
          refine ng_get hx hb hts hown hK hH 0 (by decide) rfl rfl inlX4 9 (by decide) mw_74 rfl dX4_pairOf_31 ?_
          refine lv_iload_n hx hb dX4_pairOf_34 rfl (lv_at hl 3 rfl) ?_
          obtain ⟨hb4, hg⟩ := ob_i hg
          refine ng_iald hx hb hK hH 8 (by decide) (fun _ => rfl) hb4 dX4_pairOf_35 ?_
          refine lv_iload_n hx hb dX4_pairOf_36 rfl (lv_at hl 2 rfl) ?_
          refine lv_icmp_ne (tgt := 52) hx hb dX4_pairOf_37 (by decide) (fun c5 => ?_) (fun c5 => ?_)
          · replace hg := ob_f c5 hg
            refine lv_iinc (v := (v3_2 + 1)) (lv' := [(3, .int (v3_2 + 1)), (0, .ref (h 0)), (1, .int p1), (2, .int p2)]) hx hb dX4_pairOf_52 hl (k := 3) rfl rfl (by decide) rfl (fun ls hl => ?_)
            refine lv_goto (tgt := 2) hx hb dX4_pairOf_55 (by decide) ?_
            exact ih_2 (v3_2 + 1) H locs ls hg hH (lv_sub hl [1, 2, 3, 0] rfl)
          · replace hg := ob_t c5 hg
            refine lv_aload_n hx hb dX4_pairOf_40 rfl (lv_at hl 0 rfl) ?_
            refine ng_get hx hb hts hown hK hH 0 (by decide) rfl rfl inlX4 10 (by decide) mw_75 rfl dX4_pairOf_41 ?_
            refine lv_iload_n hx hb dX4_pairOf_44 rfl (lv_at hl 3 rfl) ?_
            obtain ⟨hb6, hg⟩ := ob_i hg
            refine ng_iald hx hb hK hH 9 (by decide) (fun _ => rfl) hb6 dX4_pairOf_45 ?_
            refine lv_iload_n hx hb dX4_pairOf_46 rfl (lv_at hl 1 rfl) ?_
            refine lv_icmp_ne (tgt := 52) hx hb dX4_pairOf_47 (by decide) (fun c7 => ?_) (fun c7 => ?_)
            · replace hg := ob_f c7 hg
              refine lv_iinc (v := (v3_2 + 1)) (lv' := [(3, .int (v3_2 + 1)), (0, .ref (h 0)), (1, .int p1), (2, .int p2)]) hx hb dX4_pairOf_52 hl (k := 3) rfl rfl (by decide) rfl (fun ls hl => ?_)
              refine lv_goto (tgt := 2) hx hb dX4_pairOf_55 (by decide) ?_
              exact ih_2 (v3_2 + 1) H locs ls hg hH (lv_sub hl [1, 2, 3, 0] rfl)
            · replace hg := ob_t c7 hg
              refine lv_iload_n hx hb dX4_pairOf_50 rfl (lv_at hl 3 rfl) ?_
              subst hQ
              exact ng_iret hx hb hr hlk (Option.some.inj hg) rfl hH dX4_pairOf_51
        · replace hg := ob_t c3 hg
          refine lv_aload_n hx hb dX4_pairOf_20 rfl (lv_at hl 0 rfl) ?_
          refine ng_get hx hb hts hown hK hH 0 (by decide) rfl rfl inlX4 10 (by decide) mw_75 rfl dX4_pairOf_21 ?_
          refine lv_iload_n hx hb dX4_pairOf_24 rfl (lv_at hl 3 rfl) ?_
          obtain ⟨hb8, hg⟩ := ob_i hg
          refine ng_iald hx hb hK hH 9 (by decide) (fun _ => rfl) hb8 dX4_pairOf_25 ?_
          refine lv_iload_n hx hb dX4_pairOf_26 rfl (lv_at hl 2 rfl) ?_
          refine lv_icmp_eq (tgt := 50) hx hb dX4_pairOf_27 (by decide) (fun c9 => ?_) (fun c9 => ?_)
          · replace hg := ob_t c9 hg
            refine lv_iload_n hx hb dX4_pairOf_50 rfl (lv_at hl 3 rfl) ?_
            subst hQ
            exact ng_iret hx hb hr hlk (Option.some.inj hg) rfl hH dX4_pairOf_51
          · replace hg := ob_f c9 hg
            refine lv_aload_n hx hb dX4_pairOf_30 rfl (lv_at hl 0 rfl) ?_
            refine ng_get hx hb hts hown hK hH 0 (by decide) rfl rfl inlX4 9 (by decide) mw_74 rfl dX4_pairOf_31 ?_
            refine lv_iload_n hx hb dX4_pairOf_34 rfl (lv_at hl 3 rfl) ?_
            obtain ⟨hb10, hg⟩ := ob_i hg
            refine ng_iald hx hb hK hH 8 (by decide) (fun _ => rfl) hb10 dX4_pairOf_35 ?_
            refine lv_iload_n hx hb dX4_pairOf_36 rfl (lv_at hl 2 rfl) ?_
            refine lv_icmp_ne (tgt := 52) hx hb dX4_pairOf_37 (by decide) (fun c11 => ?_) (fun c11 => ?_)
            · replace hg := ob_f c11 hg
              refine lv_iinc (v := (v3_2 + 1)) (lv' := [(3, .int (v3_2 + 1)), (0, .ref (h 0)), (1, .int p1), (2, .int p2)]) hx hb dX4_pairOf_52 hl (k := 3) rfl rfl (by decide) rfl (fun ls hl => ?_)
              refine lv_goto (tgt := 2) hx hb dX4_pairOf_55 (by decide) ?_
              exact ih_2 (v3_2 + 1) H locs ls hg hH (lv_sub hl [1, 2, 3, 0] rfl)
            · replace hg := ob_t c11 hg
              refine lv_aload_n hx hb dX4_pairOf_40 rfl (lv_at hl 0 rfl) ?_
              refine ng_get hx hb hts hown hK hH 0 (by decide) rfl rfl inlX4 10 (by decide) mw_75 rfl dX4_pairOf_41 ?_
              refine lv_iload_n hx hb dX4_pairOf_44 rfl (lv_at hl 3 rfl) ?_
              obtain ⟨hb12, hg⟩ := ob_i hg
              refine ng_iald hx hb hK hH 9 (by decide) (fun _ => rfl) hb12 dX4_pairOf_45 ?_
              refine lv_iload_n hx hb dX4_pairOf_46 rfl (lv_at hl 1 rfl) ?_
              refine lv_icmp_ne (tgt := 52) hx hb dX4_pairOf_47 (by decide) (fun c13 => ?_) (fun c13 => ?_)
              · replace hg := ob_f c13 hg
                refine lv_iinc (v := (v3_2 + 1)) (lv' := [(3, .int (v3_2 + 1)), (0, .ref (h 0)), (1, .int p1), (2, .int p2)]) hx hb dX4_pairOf_52 hl (k := 3) rfl rfl (by decide) rfl (fun ls hl => ?_)
                refine lv_goto (tgt := 2) hx hb dX4_pairOf_55 (by decide) ?_
                exact ih_2 (v3_2 + 1) H locs ls hg hH (lv_sub hl [1, 2, 3, 0] rfl)
              · replace hg := ob_t c13 hg
                refine lv_iload_n hx hb dX4_pairOf_50 rfl (lv_at hl 3 rfl) ?_
                subst hQ
                exact ng_iret hx hb hr hlk (Option.some.inj hg) rfl hH dX4_pairOf_51
  refine LP_2 _ ?_ _ _ _ _ _ hg hH (lv_sub hl [1, 2, 3, 0] rfl)
  intro H locs ls hg hH hl
  refine lv_iconst (v := (-1 : Int32)) hx hb dX4_pairOf_58 (by decide) ?_
  subst hQ
  exact ng_iret hx hb hr hlk (Option.some.inj hg) rfl hH dX4_pairOf_59
set_option maxHeartbeats 8000000 in
set_option maxRecDepth 100000 in
theorem cM_pair (l : Launch) (D : va_G) (cI cZ cA : ClassId) (h : Nat → Nat) (hi : nInj 14 h) (p1 p2 : Int32) (σ : nS) (q : Int32 × nS) (hg : gM_pair p1 p2 σ = some q) : nMi l yX4_pair cX4_pair 3 (some .boolean) 3 D cI cZ cA 14 (cfM cI cZ h) h [.ref (h 0), .int p1, .int p2] σ q.1 q.2 := by
  unfold gM_pair at hg
  refine ng_body_i (by decide) hi (Nat.le_of_ble_eq_true rfl) ?_
  intro p e R s m args below meth c sz Q ls hx hb hml hr hlk hts hown hK hR hQ hl hH
  have hown : s.vm.findClass RX4 = some m.cls := hown
  have hl : lv_has ls 3 [(0, .ref (h 0)), (1, .int p1), (2, .int p2)] := hl
  refine lv_aload_n hx hb dX4_pair_0 rfl (lv_at hl 0 rfl) ?_
  refine lv_iload_n hx hb dX4_pair_1 rfl (lv_at hl 1 rfl) ?_
  obtain ⟨q1, hc2, hg⟩ := ob_b hg
  refine ng_ci (ng_rV hx hb hml hown hts hK hH (As := [.int p1]) (rest := []) 0 (cM_isPost l D cI cZ cA h hi p1 σ q1 hc2 _) (by decide) rfl rfl mw_117 mw_118 mw_119 mw_5 mw_120 pdX4_isPost ⟨by rw [hR]; show _ ≤ _; simp only [nRm]; omega, by rw [hR]; show _ ≤ _; simp only [nRm]; omega⟩ hl.1 rfl (Nat.le_of_ble_eq_true rfl) dX4_pair_2 ⟨Nat.zero_le _, Nat.zero_le _⟩) hH (fun H locs hH => ?_)
  refine lv_if_eq (tgt := 40) hx hb dX4_pair_5 (by decide) (fun c3 => ?_) (fun c3 => ?_)
  · replace hg := ob_t c3 hg
    refine lv_iconst (v := (0 : Int32)) hx hb dX4_pair_40 (by decide) ?_
    subst hQ
    exact ng_zret hx hb hr hlk (by decide) (congrArg Prod.fst (Option.some.inj hg)) (congrArg Prod.snd (Option.some.inj hg)) hH dX4_pair_41
  · replace hg := ob_f c3 hg
    refine lv_aload_n hx hb dX4_pair_8 rfl (lv_at hl 0 rfl) ?_
    refine lv_iload_n hx hb dX4_pair_9 rfl (lv_at hl 2 rfl) ?_
    obtain ⟨q4, hc5, hg⟩ := ob_b hg
    refine ng_ci (ng_rV hx hb hml hown hts hK hH (As := [.int p2]) (rest := []) 0 (cM_isPost l D cI cZ cA h hi p2 σ q4 hc5 _) (by decide) rfl rfl mw_117 mw_118 mw_119 mw_5 mw_120 pdX4_isPost ⟨by rw [hR]; show _ ≤ _; simp only [nRm]; omega, by rw [hR]; show _ ≤ _; simp only [nRm]; omega⟩ hl.1 rfl (Nat.le_of_ble_eq_true rfl) dX4_pair_10 ⟨Nat.zero_le _, Nat.zero_le _⟩) hH (fun H locs hH => ?_)
    refine lv_if_eq (tgt := 40) hx hb dX4_pair_13 (by decide) (fun c6 => ?_) (fun c6 => ?_)
    · replace hg := ob_t c6 hg
      refine lv_iconst (v := (0 : Int32)) hx hb dX4_pair_40 (by decide) ?_
      subst hQ
      exact ng_zret hx hb hr hlk (by decide) (congrArg Prod.fst (Option.some.inj hg)) (congrArg Prod.snd (Option.some.inj hg)) hH dX4_pair_41
    · replace hg := ob_f c6 hg
      refine lv_iload_n hx hb dX4_pair_16 rfl (lv_at hl 1 rfl) ?_
      refine lv_iload_n hx hb dX4_pair_17 rfl (lv_at hl 2 rfl) ?_
      refine lv_icmp_eq (tgt := 40) hx hb dX4_pair_18 (by decide) (fun c7 => ?_) (fun c7 => ?_)
      · replace hg := ob_t c7 hg
        refine lv_iconst (v := (0 : Int32)) hx hb dX4_pair_40 (by decide) ?_
        subst hQ
        exact ng_zret hx hb hr hlk (by decide) (congrArg Prod.fst (Option.some.inj hg)) (congrArg Prod.snd (Option.some.inj hg)) hH dX4_pair_41
      · replace hg := ob_f c7 hg
        refine lv_aload_n hx hb dX4_pair_21 rfl (lv_at hl 0 rfl) ?_
        refine lv_iload_n hx hb dX4_pair_22 rfl (lv_at hl 1 rfl) ?_
        refine lv_iload_n hx hb dX4_pair_23 rfl (lv_at hl 2 rfl) ?_
        obtain ⟨q8, hc9, hg⟩ := ob_b hg
        refine ng_ci (ng_rV hx hb hml hown hts hK hH (As := [.int p1, .int p2]) (rest := []) 0 (cM_pairOf l D cI cZ cA h hi p1 p2 σ q8 hc9 _) (by decide) rfl rfl mw_167 mw_168 mw_169 mw_5 mw_170 pdX4_pairOf ⟨by rw [hR]; show _ ≤ _; simp only [nRm]; omega, by rw [hR]; show _ ≤ _; simp only [nRm]; omega⟩ hl.1 rfl (Nat.le_of_ble_eq_true rfl) dX4_pair_24 ⟨Nat.zero_le _, Nat.zero_le _⟩) hH (fun H locs hH => ?_)
        refine lv_iconst (v := (-1 : Int32)) hx hb dX4_pair_27 (by decide) ?_
        refine lv_icmp_ne (tgt := 40) hx hb dX4_pair_28 (by decide) (fun c10 => ?_) (fun c10 => ?_)
        · replace hg := ob_f c10 hg
          refine lv_iconst (v := (0 : Int32)) hx hb dX4_pair_40 (by decide) ?_
          subst hQ
          exact ng_zret hx hb hr hlk (by decide) (congrArg Prod.fst (Option.some.inj hg)) (congrArg Prod.snd (Option.some.inj hg)) hH dX4_pair_41
        · replace hg := ob_t c10 hg
          refine lv_aload_n hx hb dX4_pair_31 rfl (lv_at hl 0 rfl) ?_
          refine ng_get hx hb hts hown hK hH 0 (by decide) rfl rfl inlX4 11 (by decide) mw_166 rfl dX4_pair_32 ?_
          refine lv_bipush (v := (8 : Int32)) hx hb dX4_pair_35 (by decide) ?_
          refine lv_icmp_ne (tgt := 42) hx hb dX4_pair_37 (by decide) (fun c11 => ?_) (fun c11 => ?_)
          · replace hg := ob_f c11 hg
            refine lv_aload_n hx hb dX4_pair_42 rfl (lv_at hl 0 rfl) ?_
            refine ng_get hx hb hts hown hK hH 0 (by decide) rfl rfl inlX4 9 (by decide) mw_74 rfl dX4_pair_43 ?_
            refine lv_aload_n hx hb dX4_pair_46 rfl (lv_at hl 0 rfl) ?_
            refine ng_get hx hb hts hown hK hH 0 (by decide) rfl rfl inlX4 11 (by decide) mw_166 rfl dX4_pair_47 ?_
            refine lv_iload_n hx hb dX4_pair_50 rfl (lv_at hl 1 rfl) ?_
            obtain ⟨hb12, hg⟩ := ob_i hg
            refine ng_iast hx hb hK hH 8 (by decide) (fun _ => rfl) hb12 dX4_pair_51 (fun H locs hH => ?_)
            refine lv_aload_n hx hb dX4_pair_52 rfl (lv_at hl 0 rfl) ?_
            refine ng_get hx hb hts hown hK hH 0 (by decide) rfl rfl inlX4 10 (by decide) mw_75 rfl dX4_pair_53 ?_
            refine lv_aload_n hx hb dX4_pair_56 rfl (lv_at hl 0 rfl) ?_
            refine ng_get hx hb hts hown hK hH 0 (by decide) rfl rfl inlX4 11 (by decide) mw_166 rfl dX4_pair_57 ?_
            refine lv_iload_n hx hb dX4_pair_60 rfl (lv_at hl 2 rfl) ?_
            obtain ⟨hb13, hg⟩ := ob_i hg
            refine ng_iast hx hb hK hH 9 (by decide) (fun _ => rfl) hb13 dX4_pair_61 (fun H locs hH => ?_)
            refine lv_aload_n hx hb dX4_pair_62 rfl (lv_at hl 0 rfl) ?_
            refine lv_dup hx hb dX4_pair_63 rfl ?_
            refine ng_get hx hb hts hown hK hH 0 (by decide) rfl rfl inlX4 11 (by decide) mw_166 rfl dX4_pair_64 ?_
            refine lv_iconst (v := (1 : Int32)) hx hb dX4_pair_67 (by decide) ?_
            refine lv_iadd hx hb dX4_pair_68 ?_
            refine ng_put hx hb hts hown hK hH 0 (by decide) rfl rfl inlX4 tyX4 tyX4_ok nmX4 11 (by decide) mw_166 rfl (by decide +kernel) (Nat.le_of_ble_eq_true rfl) rfl dX4_pair_69 (fun H locs hH => ?_)
            refine lv_iconst (v := (1 : Int32)) hx hb dX4_pair_72 (by decide) ?_
            subst hQ
            exact ng_zret hx hb hr hlk (by decide) (congrArg Prod.fst (Option.some.inj hg)) (congrArg Prod.snd (Option.some.inj hg)) hH dX4_pair_73
          · replace hg := ob_t c11 hg
            refine lv_iconst (v := (0 : Int32)) hx hb dX4_pair_40 (by decide) ?_
            subst hQ
            exact ng_zret hx hb hr hlk (by decide) (congrArg Prod.fst (Option.some.inj hg)) (congrArg Prod.snd (Option.some.inj hg)) hH dX4_pair_41
