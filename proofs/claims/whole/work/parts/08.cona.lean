set_option maxHeartbeats 8000000 in
set_option maxRecDepth 100000 in
theorem cN_addPost (l : Launch) (D : va_G) (cI cZ cA : ClassId) (h : Nat → Nat) (hi : nInj 48 h) (p1 : Int32) (σ : nS) (q : Int32 × nS) (hg : gN_addPost p1 σ = some q) : nMi l yX1_addPost cX1_addPost 2 (some .int) 1 D cI cZ cA 48 (cfC cI cZ cA h) h [.ref (h 1), .int p1] σ q.1 q.2 := by
  unfold gN_addPost at hg
  refine ng_body_i (by decide) hi (Nat.le_of_ble_eq_true rfl) ?_
  intro p e R s m args below meth c sz Q ls hx hb hml hr hlk hts hown hK hR hQ hl hH
  have hown : s.vm.findClass RX1 = some m.cls := hown
  have hl : lv_has ls 2 [(0, .ref (h 1)), (1, .int p1)] := hl
  refine lv_iload_n hx hb dX1_addPost_0 rfl (lv_at hl 1 rfl) ?_
  refine lv_iconst (v := (1 : Int32)) hx hb dX1_addPost_1 (by decide) ?_
  refine lv_icmp_lt (tgt := 20) hx hb dX1_addPost_2 (by decide) (fun c1 => ?_) (fun c1 => ?_)
  · replace hg := ob_t c1 hg
    refine lv_iconst (v := (-1 : Int32)) hx hb dX1_addPost_20 (by decide) ?_
    subst hQ
    exact ng_iret hx hb hr hlk (congrArg Prod.fst (Option.some.inj hg)) (congrArg Prod.snd (Option.some.inj hg)) hH dX1_addPost_21
  · replace hg := ob_f c1 hg
    refine lv_iload_n hx hb dX1_addPost_5 rfl (lv_at hl 1 rfl) ?_
    refine lv_bipush (v := (99 : Int32)) hx hb dX1_addPost_6 (by decide) ?_
    refine lv_icmp_gt (tgt := 20) hx hb dX1_addPost_8 (by decide) (fun c2 => ?_) (fun c2 => ?_)
    · replace hg := ob_t c2 hg
      refine lv_iconst (v := (-1 : Int32)) hx hb dX1_addPost_20 (by decide) ?_
      subst hQ
      exact ng_iret hx hb hr hlk (congrArg Prod.fst (Option.some.inj hg)) (congrArg Prod.snd (Option.some.inj hg)) hH dX1_addPost_21
    · replace hg := ob_f c2 hg
      refine lv_aload_n hx hb dX1_addPost_11 rfl (lv_at hl 0 rfl) ?_
      refine ng_get hx hb hts hown hK hH 1 (by decide) rfl rfl inlX1 5 (by decide) mw_37 rfl dX1_addPost_12 ?_
      refine lv_bipush (v := (9 : Int32)) hx hb dX1_addPost_15 (by decide) ?_
      refine lv_icmp_lt (tgt := 22) hx hb dX1_addPost_17 (by decide) (fun c3 => ?_) (fun c3 => ?_)
      · replace hg := ob_t c3 hg
        refine lv_aload_n hx hb dX1_addPost_22 rfl (lv_at hl 0 rfl) ?_
        refine ng_get hx hb hts hown hK hH 1 (by decide) rfl rfl inlX1 7 (by decide) mw_39 rfl dX1_addPost_23 ?_
        refine lv_aload_n hx hb dX1_addPost_26 rfl (lv_at hl 0 rfl) ?_
        refine ng_get hx hb hts hown hK hH 1 (by decide) rfl rfl inlX1 5 (by decide) mw_37 rfl dX1_addPost_27 ?_
        refine lv_iload_n hx hb dX1_addPost_30 rfl (lv_at hl 1 rfl) ?_
        obtain ⟨hb4, hg⟩ := ob_i hg
        refine ng_iast hx hb hK hH 7 (by decide) (fun _ => rfl) hb4 dX1_addPost_31 (fun H locs hH => ?_)
        refine lv_aload_n hx hb dX1_addPost_32 rfl (lv_at hl 0 rfl) ?_
        refine lv_dup hx hb dX1_addPost_33 rfl ?_
        refine ng_get hx hb hts hown hK hH 1 (by decide) rfl rfl inlX1 5 (by decide) mw_37 rfl dX1_addPost_34 ?_
        refine lv_iconst (v := (1 : Int32)) hx hb dX1_addPost_37 (by decide) ?_
        refine lv_iadd hx hb dX1_addPost_38 ?_
        refine ng_put hx hb hts hown hK hH 1 (by decide) rfl rfl inlX1 tyX1 tyX1_ok nmX1 5 (by decide) mw_37 rfl (by decide +kernel) (Nat.le_of_ble_eq_true rfl) rfl dX1_addPost_39 (fun H locs hH => ?_)
        refine lv_aload_n hx hb dX1_addPost_42 rfl (lv_at hl 0 rfl) ?_
        refine ng_get hx hb hts hown hK hH 1 (by decide) rfl rfl inlX1 5 (by decide) mw_37 rfl dX1_addPost_43 ?_
        refine lv_iconst (v := (1 : Int32)) hx hb dX1_addPost_46 (by decide) ?_
        refine lv_isub hx hb dX1_addPost_47 ?_
        subst hQ
        exact ng_iret hx hb hr hlk (congrArg Prod.fst (Option.some.inj hg)) (congrArg Prod.snd (Option.some.inj hg)) hH dX1_addPost_48
      · replace hg := ob_f c3 hg
        refine lv_iconst (v := (-1 : Int32)) hx hb dX1_addPost_20 (by decide) ?_
        subst hQ
        exact ng_iret hx hb hr hlk (congrArg Prod.fst (Option.some.inj hg)) (congrArg Prod.snd (Option.some.inj hg)) hH dX1_addPost_21
set_option maxHeartbeats 8000000 in
set_option maxRecDepth 100000 in
theorem cC_post (l : Launch) (D : va_G) (cI cZ cA : ClassId) (h : Nat → Nat) (hi : nInj 48 h) (p1 : Int32) (σ : nS) (q : Int32 × nS) (hg : gC_post p1 σ = some q) : nMi l yX3_post cX3_post 2 (some .int) 2 D cI cZ cA 48 (cfC cI cZ cA h) h [.ref (h 0), .int p1] σ q.1 q.2 := by
  unfold gC_post at hg
  refine ng_body_i (by decide) hi (Nat.le_of_ble_eq_true rfl) ?_
  intro p e R s m args below meth c sz Q ls hx hb hml hr hlk hts hown hK hR hQ hl hH
  have hown : s.vm.findClass RX3 = some m.cls := hown
  have hl : lv_has ls 2 [(0, .ref (h 0)), (1, .int p1)] := hl
  refine lv_aload_n hx hb dX3_post_0 rfl (lv_at hl 0 rfl) ?_
  refine ng_get hx hb hts hown hK hH 0 (by decide) rfl rfl inlX3 0 (by decide) mw_15 rfl dX3_post_1 ?_
  refine lv_iload_n hx hb dX3_post_4 rfl (lv_at hl 1 rfl) ?_
  obtain ⟨q1, hc2, hg⟩ := ob_b hg
  refine ng_ci (ng_rV hx hb hml hown hts hK hH (As := [.int p1]) (rest := []) 1 (cN_addPost l D cI cZ cA h hi p1 σ q1 hc2 _) (by decide) rfl rfl mw_84 mw_85 mw_86 mw_14 mw_87 pdX1_addPost ⟨by rw [hR]; show _ ≤ _; simp only [nRm]; omega, by rw [hR]; show _ ≤ _; simp only [nRm]; omega⟩ hl.1 rfl (Nat.le_of_ble_eq_true rfl) dX3_post_5 ⟨Nat.zero_le _, Nat.zero_le _⟩) hH (fun H locs hH => ?_)
  subst hQ
  exact ng_iret hx hb hr hlk (congrArg Prod.fst (Option.some.inj hg)) (congrArg Prod.snd (Option.some.inj hg)) hH dX3_post_8
set_option maxHeartbeats 8000000 in
set_option maxRecDepth 100000 in
theorem cN_hasPost (l : Launch) (D : va_G) (cI cZ cA : ClassId) (h : Nat → Nat) (hi : nInj 48 h) (p1 : Int32) (σ : nS) (q : Int32) (hg : gN_hasPost p1 σ = some q) : nMi l yX1_hasPost cX1_hasPost 2 (some .boolean) 1 D cI cZ cA 48 (cfC cI cZ cA h) h [.ref (h 1), .int p1] σ q σ := by
  unfold gN_hasPost at hg
  refine ng_body_i (by decide) hi (Nat.le_of_ble_eq_true rfl) ?_
  intro p e R s m args below meth c sz Q ls hx hb hml hr hlk hts hown hK hR hQ hl hH
  have hown : s.vm.findClass RX1 = some m.cls := hown
  have hl : lv_has ls 2 [(0, .ref (h 1)), (1, .int p1)] := hl
  refine lv_iload_n hx hb dX1_hasPost_0 rfl (lv_at hl 1 rfl) ?_
  refine lv_if_lt (tgt := 16) hx hb dX1_hasPost_1 (by decide) (fun c1 => ?_) (fun c1 => ?_)
  · replace hg := ob_t c1 hg
    refine lv_iconst (v := (0 : Int32)) hx hb dX1_hasPost_16 (by decide) ?_
    subst hQ
    exact ng_zret hx hb hr hlk (by decide) (Option.some.inj hg) rfl hH dX1_hasPost_17
  · replace hg := ob_f c1 hg
    refine lv_iload_n hx hb dX1_hasPost_4 rfl (lv_at hl 1 rfl) ?_
    refine lv_aload_n hx hb dX1_hasPost_5 rfl (lv_at hl 0 rfl) ?_
    refine ng_get hx hb hts hown hK hH 1 (by decide) rfl rfl inlX1 5 (by decide) mw_37 rfl dX1_hasPost_6 ?_
    refine lv_icmp_ge (tgt := 16) hx hb dX1_hasPost_9 (by decide) (fun c2 => ?_) (fun c2 => ?_)
    · replace hg := ob_t c2 hg
      refine lv_iconst (v := (0 : Int32)) hx hb dX1_hasPost_16 (by decide) ?_
      subst hQ
      exact ng_zret hx hb hr hlk (by decide) (Option.some.inj hg) rfl hH dX1_hasPost_17
    · replace hg := ob_f c2 hg
      refine lv_iconst (v := (1 : Int32)) hx hb dX1_hasPost_12 (by decide) ?_
      refine lv_goto (tgt := 17) hx hb dX1_hasPost_13 (by decide) ?_
      subst hQ
      exact ng_zret hx hb hr hlk (by decide) (Option.some.inj hg) rfl hH dX1_hasPost_17
set_option maxHeartbeats 8000000 in
set_option maxRecDepth 100000 in
theorem cN_hasTwo (l : Launch) (D : va_G) (cI cZ cA : ClassId) (h : Nat → Nat) (hi : nInj 48 h) (p1 p2 : Int32) (σ : nS) (q : Int32) (hg : gN_hasTwo p1 p2 σ = some q) : nMi l yX1_hasTwo cX1_hasTwo 3 (some .boolean) 2 D cI cZ cA 48 (cfC cI cZ cA h) h [.ref (h 1), .int p1, .int p2] σ q σ := by
  unfold gN_hasTwo at hg
  refine ng_body_i (by decide) hi (Nat.le_of_ble_eq_true rfl) ?_
  intro p e R s m args below meth c sz Q ls hx hb hml hr hlk hts hown hK hR hQ hl hH
  have hown : s.vm.findClass RX1 = some m.cls := hown
  have hl : lv_has ls 3 [(0, .ref (h 1)), (1, .int p1), (2, .int p2)] := hl
  refine lv_aload_n hx hb dX1_hasTwo_0 rfl (lv_at hl 0 rfl) ?_
  refine lv_iload_n hx hb dX1_hasTwo_1 rfl (lv_at hl 1 rfl) ?_
  obtain ⟨q1, hc2, hg⟩ := ob_b hg
  refine ng_ci (ng_rV hx hb hml hown hts hK hH (As := [.int p1]) (rest := []) 1 (cN_hasPost l D cI cZ cA h hi p1 σ q1 hc2 _) (by decide) rfl rfl mw_108 mw_109 mw_110 mw_14 mw_111 pdX1_hasPost ⟨by rw [hR]; show _ ≤ _; simp only [nRm]; omega, by rw [hR]; show _ ≤ _; simp only [nRm]; omega⟩ hl.1 rfl (Nat.le_of_ble_eq_true rfl) dX1_hasTwo_2 ⟨Nat.zero_le _, Nat.zero_le _⟩) hH (fun H locs hH => ?_)
  refine lv_if_eq (tgt := 25) hx hb dX1_hasTwo_5 (by decide) (fun c3 => ?_) (fun c3 => ?_)
  · replace hg := ob_t c3 hg
    refine lv_iconst (v := (0 : Int32)) hx hb dX1_hasTwo_25 (by decide) ?_
    subst hQ
    exact ng_zret hx hb hr hlk (by decide) (Option.some.inj hg) rfl hH dX1_hasTwo_26
  · replace hg := ob_f c3 hg
    refine lv_aload_n hx hb dX1_hasTwo_8 rfl (lv_at hl 0 rfl) ?_
    refine lv_iload_n hx hb dX1_hasTwo_9 rfl (lv_at hl 2 rfl) ?_
    obtain ⟨q4, hc5, hg⟩ := ob_b hg
    refine ng_ci (ng_rV hx hb hml hown hts hK hH (As := [.int p2]) (rest := []) 1 (cN_hasPost l D cI cZ cA h hi p2 σ q4 hc5 _) (by decide) rfl rfl mw_108 mw_109 mw_110 mw_14 mw_111 pdX1_hasPost ⟨by rw [hR]; show _ ≤ _; simp only [nRm]; omega, by rw [hR]; show _ ≤ _; simp only [nRm]; omega⟩ hl.1 rfl (Nat.le_of_ble_eq_true rfl) dX1_hasTwo_10 ⟨Nat.zero_le _, Nat.zero_le _⟩) hH (fun H locs hH => ?_)
    refine lv_if_eq (tgt := 25) hx hb dX1_hasTwo_13 (by decide) (fun c6 => ?_) (fun c6 => ?_)
    · replace hg := ob_t c6 hg
      refine lv_iconst (v := (0 : Int32)) hx hb dX1_hasTwo_25 (by decide) ?_
      subst hQ
      exact ng_zret hx hb hr hlk (by decide) (Option.some.inj hg) rfl hH dX1_hasTwo_26
    · replace hg := ob_f c6 hg
      refine lv_iload_n hx hb dX1_hasTwo_16 rfl (lv_at hl 1 rfl) ?_
      refine lv_iload_n hx hb dX1_hasTwo_17 rfl (lv_at hl 2 rfl) ?_
      refine lv_icmp_eq (tgt := 25) hx hb dX1_hasTwo_18 (by decide) (fun c7 => ?_) (fun c7 => ?_)
      · replace hg := ob_t c7 hg
        refine lv_iconst (v := (0 : Int32)) hx hb dX1_hasTwo_25 (by decide) ?_
        subst hQ
        exact ng_zret hx hb hr hlk (by decide) (Option.some.inj hg) rfl hH dX1_hasTwo_26
      · replace hg := ob_f c7 hg
        refine lv_iconst (v := (1 : Int32)) hx hb dX1_hasTwo_21 (by decide) ?_
        refine lv_goto (tgt := 26) hx hb dX1_hasTwo_22 (by decide) ?_
        subst hQ
        exact ng_zret hx hb hr hlk (by decide) (Option.some.inj hg) rfl hH dX1_hasTwo_26
set_option maxHeartbeats 8000000 in
set_option maxRecDepth 100000 in
theorem cN_addLine (l : Launch) (D : va_G) (cI cZ cA : ClassId) (h : Nat → Nat) (hi : nInj 48 h) (p1 p2 p3 p4 : Int32) (σ : nS) (q : Int32 × nS) (hg : gN_addLine p1 p2 p3 p4 σ = some q) : nMi l yX1_addLine cX1_addLine 5 (some .int) 3 D cI cZ cA 48 (cfC cI cZ cA h) h [.ref (h 1), .int p1, .int p2, .int p3, .int p4] σ q.1 q.2 := by
  unfold gN_addLine at hg
  refine ng_body_i (by decide) hi (Nat.le_of_ble_eq_true rfl) ?_
  intro p e R s m args below meth c sz Q ls hx hb hml hr hlk hts hown hK hR hQ hl hH
  have hown : s.vm.findClass RX1 = some m.cls := hown
  have hl : lv_has ls 5 [(0, .ref (h 1)), (1, .int p1), (2, .int p2), (3, .int p3), (4, .int p4)] := hl
  refine lv_aload_n hx hb dX1_addLine_0 rfl (lv_at hl 0 rfl) ?_
  refine lv_iload_n hx hb dX1_addLine_1 rfl (lv_at hl 1 rfl) ?_
  refine lv_iload_n hx hb dX1_addLine_2 rfl (lv_at hl 2 rfl) ?_
  obtain ⟨q1, hc2, hg⟩ := ob_b hg
  refine ng_ci (ng_rV hx hb hml hown hts hK hH (As := [.int p1, .int p2]) (rest := []) 1 (cN_hasTwo l D cI cZ cA h hi p1 p2 σ q1 hc2 _) (by decide) rfl rfl mw_104 mw_105 mw_106 mw_14 mw_107 pdX1_hasTwo ⟨by rw [hR]; show _ ≤ _; simp only [nRm]; omega, by rw [hR]; show _ ≤ _; simp only [nRm]; omega⟩ hl.1 rfl (Nat.le_of_ble_eq_true rfl) dX1_addLine_3 ⟨Nat.zero_le _, Nat.zero_le _⟩) hH (fun H locs hH => ?_)
  refine lv_if_eq (tgt := 28) hx hb dX1_addLine_6 (by decide) (fun c3 => ?_) (fun c3 => ?_)
  · replace hg := ob_t c3 hg
    refine lv_iconst (v := (-1 : Int32)) hx hb dX1_addLine_28 (by decide) ?_
    subst hQ
    exact ng_iret hx hb hr hlk (congrArg Prod.fst (Option.some.inj hg)) (congrArg Prod.snd (Option.some.inj hg)) hH dX1_addLine_29
  · replace hg := ob_f c3 hg
    refine lv_iload_n hx hb dX1_addLine_9 rfl (lv_at hl 3 rfl) ?_
    refine lv_if_lt (tgt := 28) hx hb dX1_addLine_10 (by decide) (fun c4 => ?_) (fun c4 => ?_)
    · replace hg := ob_t c4 hg
      refine lv_iconst (v := (-1 : Int32)) hx hb dX1_addLine_28 (by decide) ?_
      subst hQ
      exact ng_iret hx hb hr hlk (congrArg Prod.fst (Option.some.inj hg)) (congrArg Prod.snd (Option.some.inj hg)) hH dX1_addLine_29
    · replace hg := ob_f c4 hg
      refine lv_iload_n hx hb dX1_addLine_13 rfl (lv_at hl 3 rfl) ?_
      refine lv_bipush (v := (99 : Int32)) hx hb dX1_addLine_14 (by decide) ?_
      refine lv_icmp_gt (tgt := 28) hx hb dX1_addLine_16 (by decide) (fun c5 => ?_) (fun c5 => ?_)
      · replace hg := ob_t c5 hg
        refine lv_iconst (v := (-1 : Int32)) hx hb dX1_addLine_28 (by decide) ?_
        subst hQ
        exact ng_iret hx hb hr hlk (congrArg Prod.fst (Option.some.inj hg)) (congrArg Prod.snd (Option.some.inj hg)) hH dX1_addLine_29
      · replace hg := ob_f c5 hg
        refine lv_aload_n hx hb dX1_addLine_19 rfl (lv_at hl 0 rfl) ?_
        refine ng_get hx hb hts hown hK hH 1 (by decide) rfl rfl inlX1 6 (by decide) mw_38 rfl dX1_addLine_20 ?_
        refine lv_bipush (v := (24 : Int32)) hx hb dX1_addLine_23 (by decide) ?_
        refine lv_icmp_lt (tgt := 30) hx hb dX1_addLine_25 (by decide) (fun c6 => ?_) (fun c6 => ?_)
        · replace hg := ob_t c6 hg
          refine lv_aload_n hx hb dX1_addLine_30 rfl (lv_at hl 0 rfl) ?_
          refine ng_get hx hb hts hown hK hH 1 (by decide) rfl rfl inlX1 0 (by decide) mw_31 rfl dX1_addLine_31 ?_
          refine lv_aload_n hx hb dX1_addLine_34 rfl (lv_at hl 0 rfl) ?_
          refine ng_get hx hb hts hown hK hH 1 (by decide) rfl rfl inlX1 6 (by decide) mw_38 rfl dX1_addLine_35 ?_
          refine lv_iload_n hx hb dX1_addLine_38 rfl (lv_at hl 1 rfl) ?_
          obtain ⟨hb7, hg⟩ := ob_i hg
          refine ng_iast hx hb hK hH 2 (by decide) (fun _ => rfl) hb7 dX1_addLine_39 (fun H locs hH => ?_)
          refine lv_aload_n hx hb dX1_addLine_40 rfl (lv_at hl 0 rfl) ?_
          refine ng_get hx hb hts hown hK hH 1 (by decide) rfl rfl inlX1 1 (by decide) mw_32 rfl dX1_addLine_41 ?_
          refine lv_aload_n hx hb dX1_addLine_44 rfl (lv_at hl 0 rfl) ?_
          refine ng_get hx hb hts hown hK hH 1 (by decide) rfl rfl inlX1 6 (by decide) mw_38 rfl dX1_addLine_45 ?_
          refine lv_iload_n hx hb dX1_addLine_48 rfl (lv_at hl 2 rfl) ?_
          obtain ⟨hb8, hg⟩ := ob_i hg
          refine ng_iast hx hb hK hH 3 (by decide) (fun _ => rfl) hb8 dX1_addLine_49 (fun H locs hH => ?_)
          refine lv_aload_n hx hb dX1_addLine_50 rfl (lv_at hl 0 rfl) ?_
          refine ng_get hx hb hts hown hK hH 1 (by decide) rfl rfl inlX1 2 (by decide) mw_33 rfl dX1_addLine_51 ?_
          refine lv_aload_n hx hb dX1_addLine_54 rfl (lv_at hl 0 rfl) ?_
          refine ng_get hx hb hts hown hK hH 1 (by decide) rfl rfl inlX1 6 (by decide) mw_38 rfl dX1_addLine_55 ?_
          refine lv_iload_n hx hb dX1_addLine_58 rfl (lv_at hl 3 rfl) ?_
          obtain ⟨hb9, hg⟩ := ob_i hg
          refine ng_iast hx hb hK hH 4 (by decide) (fun _ => rfl) hb9 dX1_addLine_59 (fun H locs hH => ?_)
          refine lv_aload_n hx hb dX1_addLine_60 rfl (lv_at hl 0 rfl) ?_
          refine ng_get hx hb hts hown hK hH 1 (by decide) rfl rfl inlX1 3 (by decide) mw_35 rfl dX1_addLine_61 ?_
          refine lv_aload_n hx hb dX1_addLine_64 rfl (lv_at hl 0 rfl) ?_
          refine ng_get hx hb hts hown hK hH 1 (by decide) rfl rfl inlX1 6 (by decide) mw_38 rfl dX1_addLine_65 ?_
          refine lv_iload hx hb dX1_addLine_68 (lv_at hl 4 rfl) ?_
          obtain ⟨hb10, hg⟩ := ob_i hg
          refine ng_zast hx hb hK hH 5 (by decide) (fun _ => rfl) hb10 dX1_addLine_70 (fun H locs hH => ?_)
          refine lv_aload_n hx hb dX1_addLine_71 rfl (lv_at hl 0 rfl) ?_
          refine lv_dup hx hb dX1_addLine_72 rfl ?_
          refine ng_get hx hb hts hown hK hH 1 (by decide) rfl rfl inlX1 6 (by decide) mw_38 rfl dX1_addLine_73 ?_
          refine lv_iconst (v := (1 : Int32)) hx hb dX1_addLine_76 (by decide) ?_
          refine lv_iadd hx hb dX1_addLine_77 ?_
          refine ng_put hx hb hts hown hK hH 1 (by decide) rfl rfl inlX1 tyX1 tyX1_ok nmX1 6 (by decide) mw_38 rfl (by decide +kernel) (Nat.le_of_ble_eq_true rfl) rfl dX1_addLine_78 (fun H locs hH => ?_)
          refine lv_aload_n hx hb dX1_addLine_81 rfl (lv_at hl 0 rfl) ?_
          refine ng_get hx hb hts hown hK hH 1 (by decide) rfl rfl inlX1 6 (by decide) mw_38 rfl dX1_addLine_82 ?_
          refine lv_iconst (v := (1 : Int32)) hx hb dX1_addLine_85 (by decide) ?_
          refine lv_isub hx hb dX1_addLine_86 ?_
          subst hQ
          exact ng_iret hx hb hr hlk (congrArg Prod.fst (Option.some.inj hg)) (congrArg Prod.snd (Option.some.inj hg)) hH dX1_addLine_87
        · replace hg := ob_f c6 hg
          refine lv_iconst (v := (-1 : Int32)) hx hb dX1_addLine_28 (by decide) ?_
          subst hQ
          exact ng_iret hx hb hr hlk (congrArg Prod.fst (Option.some.inj hg)) (congrArg Prod.snd (Option.some.inj hg)) hH dX1_addLine_29
set_option maxHeartbeats 8000000 in
set_option maxRecDepth 100000 in
theorem cC_line (l : Launch) (D : va_G) (cI cZ cA : ClassId) (h : Nat → Nat) (hi : nInj 48 h) (p1 p2 p3 p4 : Int32) (σ : nS) (q : Int32 × nS) (hg : gC_line p1 p2 p3 p4 σ = some q) : nMi l yX3_line cX3_line 5 (some .int) 4 D cI cZ cA 48 (cfC cI cZ cA h) h [.ref (h 0), .int p1, .int p2, .int p3, .int p4] σ q.1 q.2 := by
  unfold gC_line at hg
  refine ng_body_i (by decide) hi (Nat.le_of_ble_eq_true rfl) ?_
  intro p e R s m args below meth c sz Q ls hx hb hml hr hlk hts hown hK hR hQ hl hH
  have hown : s.vm.findClass RX3 = some m.cls := hown
  have hl : lv_has ls 5 [(0, .ref (h 0)), (1, .int p1), (2, .int p2), (3, .int p3), (4, .int p4)] := hl
  refine lv_aload_n hx hb dX3_line_0 rfl (lv_at hl 0 rfl) ?_
  refine ng_get hx hb hts hown hK hH 0 (by decide) rfl rfl inlX3 0 (by decide) mw_15 rfl dX3_line_1 ?_
  refine lv_iload_n hx hb dX3_line_4 rfl (lv_at hl 1 rfl) ?_
  refine lv_iload_n hx hb dX3_line_5 rfl (lv_at hl 2 rfl) ?_
  refine lv_iload_n hx hb dX3_line_6 rfl (lv_at hl 3 rfl) ?_
  refine lv_iload hx hb dX3_line_7 (lv_at hl 4 rfl) ?_
  obtain ⟨q1, hc2, hg⟩ := ob_b hg
  refine ng_ci (ng_rV hx hb hml hown hts hK hH (As := [.int p1, .int p2, .int p3, .int p4]) (rest := []) 1 (cN_addLine l D cI cZ cA h hi p1 p2 p3 p4 σ q1 hc2 _) (by decide) rfl rfl mw_100 mw_101 mw_102 mw_14 mw_103 pdX1_addLine ⟨by rw [hR]; show _ ≤ _; simp only [nRm]; omega, by rw [hR]; show _ ≤ _; simp only [nRm]; omega⟩ hl.1 rfl (Nat.le_of_ble_eq_true rfl) dX3_line_9 ⟨Nat.zero_le _, Nat.zero_le _⟩) hH (fun H locs hH => ?_)
  subst hQ
  exact ng_iret hx hb hr hlk (congrArg Prod.fst (Option.some.inj hg)) (congrArg Prod.snd (Option.some.inj hg)) hH dX3_line_12
set_option maxHeartbeats 8000000 in
set_option maxRecDepth 100000 in
theorem cN_hasLine (l : Launch) (D : va_G) (cI cZ cA : ClassId) (h : Nat → Nat) (hi : nInj 48 h) (p1 : Int32) (σ : nS) (q : Int32) (hg : gN_hasLine p1 σ = some q) : nMi l yX1_hasLine cX1_hasLine 2 (some .boolean) 1 D cI cZ cA 48 (cfC cI cZ cA h) h [.ref (h 1), .int p1] σ q σ := by
  unfold gN_hasLine at hg
  refine ng_body_i (by decide) hi (Nat.le_of_ble_eq_true rfl) ?_
  intro p e R s m args below meth c sz Q ls hx hb hml hr hlk hts hown hK hR hQ hl hH
  have hown : s.vm.findClass RX1 = some m.cls := hown
  have hl : lv_has ls 2 [(0, .ref (h 1)), (1, .int p1)] := hl
  refine lv_iload_n hx hb dX1_hasLine_0 rfl (lv_at hl 1 rfl) ?_
  refine lv_if_lt (tgt := 25) hx hb dX1_hasLine_1 (by decide) (fun c1 => ?_) (fun c1 => ?_)
  · replace hg := ob_t c1 hg
    refine lv_iconst (v := (0 : Int32)) hx hb dX1_hasLine_25 (by decide) ?_
    subst hQ
    exact ng_zret hx hb hr hlk (by decide) (Option.some.inj hg) rfl hH dX1_hasLine_26
  · replace hg := ob_f c1 hg
    refine lv_iload_n hx hb dX1_hasLine_4 rfl (lv_at hl 1 rfl) ?_
    refine lv_aload_n hx hb dX1_hasLine_5 rfl (lv_at hl 0 rfl) ?_
    refine ng_get hx hb hts hown hK hH 1 (by decide) rfl rfl inlX1 6 (by decide) mw_38 rfl dX1_hasLine_6 ?_
    refine lv_icmp_ge (tgt := 25) hx hb dX1_hasLine_9 (by decide) (fun c2 => ?_) (fun c2 => ?_)
    · replace hg := ob_t c2 hg
      refine lv_iconst (v := (0 : Int32)) hx hb dX1_hasLine_25 (by decide) ?_
      subst hQ
      exact ng_zret hx hb hr hlk (by decide) (Option.some.inj hg) rfl hH dX1_hasLine_26
    · replace hg := ob_f c2 hg
      refine lv_aload_n hx hb dX1_hasLine_12 rfl (lv_at hl 0 rfl) ?_
      refine ng_get hx hb hts hown hK hH 1 (by decide) rfl rfl inlX1 4 (by decide) mw_36 rfl dX1_hasLine_13 ?_
      refine lv_iload_n hx hb dX1_hasLine_16 rfl (lv_at hl 1 rfl) ?_
      obtain ⟨hb3, hg⟩ := ob_i hg
      refine ng_zald hx hb hK hH 6 (by decide) (fun _ => rfl) hb3 dX1_hasLine_17 ?_
      refine lv_if_ne (tgt := 25) hx hb dX1_hasLine_18 (by decide) (fun c4 => ?_) (fun c4 => ?_)
      · replace hg := ob_f c4 hg
        refine lv_iconst (v := (0 : Int32)) hx hb dX1_hasLine_25 (by decide) ?_
        subst hQ
        exact ng_zret hx hb hr hlk (by decide) (Option.some.inj hg) rfl hH dX1_hasLine_26
      · replace hg := ob_t c4 hg
        refine lv_iconst (v := (1 : Int32)) hx hb dX1_hasLine_21 (by decide) ?_
        refine lv_goto (tgt := 26) hx hb dX1_hasLine_22 (by decide) ?_
        subst hQ
        exact ng_zret hx hb hr hlk (by decide) (Option.some.inj hg) rfl hH dX1_hasLine_26
set_option maxHeartbeats 8000000 in
set_option maxRecDepth 100000 in
theorem cN_endLine (l : Launch) (D : va_G) (cI cZ cA : ClassId) (h : Nat → Nat) (hi : nInj 48 h) (p1 : Int32) (σ : nS) (q : Int32 × nS) (hg : gN_endLine p1 σ = some q) : nMi l yX1_endLine cX1_endLine 2 (some .boolean) 2 D cI cZ cA 48 (cfC cI cZ cA h) h [.ref (h 1), .int p1] σ q.1 q.2 := by
  unfold gN_endLine at hg
  refine ng_body_i (by decide) hi (Nat.le_of_ble_eq_true rfl) ?_
  intro p e R s m args below meth c sz Q ls hx hb hml hr hlk hts hown hK hR hQ hl hH
  have hown : s.vm.findClass RX1 = some m.cls := hown
  have hl : lv_has ls 2 [(0, .ref (h 1)), (1, .int p1)] := hl
  refine lv_aload_n hx hb dX1_endLine_0 rfl (lv_at hl 0 rfl) ?_
  refine lv_iload_n hx hb dX1_endLine_1 rfl (lv_at hl 1 rfl) ?_
  obtain ⟨q1, hc2, hg⟩ := ob_b hg
  refine ng_ci (ng_rV hx hb hml hown hts hK hH (As := [.int p1]) (rest := []) 1 (cN_hasLine l D cI cZ cA h hi p1 σ q1 hc2 _) (by decide) rfl rfl mw_129 mw_130 mw_131 mw_14 mw_132 pdX1_hasLine ⟨by rw [hR]; show _ ≤ _; simp only [nRm]; omega, by rw [hR]; show _ ≤ _; simp only [nRm]; omega⟩ hl.1 rfl (Nat.le_of_ble_eq_true rfl) dX1_endLine_2 ⟨Nat.zero_le _, Nat.zero_le _⟩) hH (fun H locs hH => ?_)
  refine lv_if_ne (tgt := 10) hx hb dX1_endLine_5 (by decide) (fun c3 => ?_) (fun c3 => ?_)
  · replace hg := ob_f c3 hg
    refine lv_aload_n hx hb dX1_endLine_10 rfl (lv_at hl 0 rfl) ?_
    refine ng_get hx hb hts hown hK hH 1 (by decide) rfl rfl inlX1 4 (by decide) mw_36 rfl dX1_endLine_11 ?_
    refine lv_iload_n hx hb dX1_endLine_14 rfl (lv_at hl 1 rfl) ?_
    refine lv_iconst (v := (1 : Int32)) hx hb dX1_endLine_15 (by decide) ?_
    obtain ⟨hb4, hg⟩ := ob_i hg
    refine ng_zast hx hb hK hH 6 (by decide) (fun _ => rfl) hb4 dX1_endLine_16 (fun H locs hH => ?_)
    refine lv_iconst (v := (1 : Int32)) hx hb dX1_endLine_17 (by decide) ?_
    subst hQ
    exact ng_zret hx hb hr hlk (by decide) (congrArg Prod.fst (Option.some.inj hg)) (congrArg Prod.snd (Option.some.inj hg)) hH dX1_endLine_18
  · replace hg := ob_t c3 hg
    refine lv_iconst (v := (0 : Int32)) hx hb dX1_endLine_8 (by decide) ?_
    subst hQ
    exact ng_zret hx hb hr hlk (by decide) (congrArg Prod.fst (Option.some.inj hg)) (congrArg Prod.snd (Option.some.inj hg)) hH dX1_endLine_9
set_option maxHeartbeats 8000000 in
set_option maxRecDepth 100000 in
theorem cC_end (l : Launch) (D : va_G) (cI cZ cA : ClassId) (h : Nat → Nat) (hi : nInj 48 h) (p1 : Int32) (σ : nS) (q : Int32 × nS) (hg : gC_end p1 σ = some q) : nMi l yX3_end cX3_end 2 (some .boolean) 3 D cI cZ cA 48 (cfC cI cZ cA h) h [.ref (h 0), .int p1] σ q.1 q.2 := by
  unfold gC_end at hg
  refine ng_body_i (by decide) hi (Nat.le_of_ble_eq_true rfl) ?_
  intro p e R s m args below meth c sz Q ls hx hb hml hr hlk hts hown hK hR hQ hl hH
  have hown : s.vm.findClass RX3 = some m.cls := hown
  have hl : lv_has ls 2 [(0, .ref (h 0)), (1, .int p1)] := hl
  refine lv_aload_n hx hb dX3_end_0 rfl (lv_at hl 0 rfl) ?_
  refine ng_get hx hb hts hown hK hH 0 (by decide) rfl rfl inlX3 0 (by decide) mw_15 rfl dX3_end_1 ?_
  refine lv_iload_n hx hb dX3_end_4 rfl (lv_at hl 1 rfl) ?_
  obtain ⟨q1, hc2, hg⟩ := ob_b hg
  refine ng_ci (ng_rV hx hb hml hown hts hK hH (As := [.int p1]) (rest := []) 1 (cN_endLine l D cI cZ cA h hi p1 σ q1 hc2 _) (by decide) rfl rfl mw_125 mw_126 mw_127 mw_14 mw_128 pdX1_endLine ⟨by rw [hR]; show _ ≤ _; simp only [nRm]; omega, by rw [hR]; show _ ≤ _; simp only [nRm]; omega⟩ hl.1 rfl (Nat.le_of_ble_eq_true rfl) dX3_end_5 ⟨Nat.zero_le _, Nat.zero_le _⟩) hH (fun H locs hH => ?_)
  obtain ⟨hz, hg⟩ := ob_i hg
  subst hQ
  exact ng_zret hx hb hr hlk hz (congrArg Prod.fst (Option.some.inj hg)) (congrArg Prod.snd (Option.some.inj hg)) hH dX3_end_8
set_option maxHeartbeats 8000000 in
set_option maxRecDepth 100000 in
theorem cC_holds (l : Launch) (D : va_G) (cI cZ cA : ClassId) (h : Nat → Nat) (hi : nInj 48 h) (p1 p2 : Int32) (σ : nS) (q : Int32) (hg : gC_holds p1 p2 σ = some q) : nMi l yX3_holds cX3_holds 2 (some .boolean) 1 D cI cZ cA 48 (cfC cI cZ cA h) h [.int p1, .int p2] σ q σ := by
  unfold gC_holds at hg
  refine ng_body_i (by decide) hi (Nat.le_of_ble_eq_true rfl) ?_
  intro p e R s m args below meth c sz Q ls hx hb hml hr hlk hts hown hK hR hQ hl hH
  have hown : s.vm.findClass RX3 = some m.cls := hown
  have hl : lv_has ls 2 [(0, .int p1), (1, .int p2)] := hl
  refine lv_iload_n hx hb dX3_holds_0 rfl (lv_at hl 0 rfl) ?_
  refine lv_iload_n hx hb dX3_holds_1 rfl (lv_at hl 1 rfl) ?_
  refine lv_ishr hx hb dX3_holds_2 ?_
  refine lv_iconst (v := (1 : Int32)) hx hb dX3_holds_3 (by decide) ?_
  refine lv_iand hx hb dX3_holds_4 ?_
  refine lv_if_eq (tgt := 12) hx hb dX3_holds_5 (by decide) (fun c1 => ?_) (fun c1 => ?_)
  · replace hg := ob_t c1 hg
    refine lv_iconst (v := (0 : Int32)) hx hb dX3_holds_12 (by decide) ?_
    subst hQ
    exact ng_zret hx hb hr hlk (by decide) (Option.some.inj hg) rfl hH dX3_holds_13
  · replace hg := ob_f c1 hg
    refine lv_iconst (v := (1 : Int32)) hx hb dX3_holds_8 (by decide) ?_
    refine lv_goto (tgt := 13) hx hb dX3_holds_9 (by decide) ?_
    subst hQ
    exact ng_zret hx hb hr hlk (by decide) (Option.some.inj hg) rfl hH dX3_holds_13
set_option maxHeartbeats 8000000 in
set_option maxRecDepth 100000 in
theorem cC_terminal (l : Launch) (D : va_G) (cI cZ cA : ClassId) (h : Nat → Nat) (hi : nInj 48 h) (p1 p2 : Int32) (σ : nS) (q : Int32 × nS) (hg : gC_terminal p1 p2 σ = some q) : nMi l yX3_terminal cX3_terminal 3 (some .boolean) 2 D cI cZ cA 48 (cfC cI cZ cA h) h [.ref (h 0), .int p1, .int p2] σ q.1 q.2 := by
  unfold gC_terminal at hg
  refine ng_body_i (by decide) hi (Nat.le_of_ble_eq_true rfl) ?_
  intro p e R s m args below meth c sz Q ls hx hb hml hr hlk hts hown hK hR hQ hl hH
  have hown : s.vm.findClass RX3 = some m.cls := hown
  have hl : lv_has ls 3 [(0, .ref (h 0)), (1, .int p1), (2, .int p2)] := hl
  refine lv_aload_n hx hb dX3_terminal_0 rfl (lv_at hl 0 rfl) ?_
  refine ng_get hx hb hts hown hK hH 0 (by decide) rfl rfl inlX3 0 (by decide) mw_15 rfl dX3_terminal_1 ?_
  refine lv_iload_n hx hb dX3_terminal_4 rfl (lv_at hl 1 rfl) ?_
  obtain ⟨q1, hc2, hg⟩ := ob_b hg
  refine ng_ci (ng_rV hx hb hml hown hts hK hH (As := [.int p1]) (rest := []) 1 (cN_hasPost l D cI cZ cA h hi p1 σ q1 hc2 _) (by decide) rfl rfl mw_145 mw_109 mw_110 mw_14 mw_111 pdX1_hasPost ⟨by rw [hR]; show _ ≤ _; simp only [nRm]; omega, by rw [hR]; show _ ≤ _; simp only [nRm]; omega⟩ hl.1 rfl (Nat.le_of_ble_eq_true rfl) dX3_terminal_5 ⟨Nat.zero_le _, Nat.zero_le _⟩) hH (fun H locs hH => ?_)
  refine lv_if_eq (tgt := 23) hx hb dX3_terminal_8 (by decide) (fun c3 => ?_) (fun c3 => ?_)
  · replace hg := ob_t c3 hg
    refine lv_iconst (v := (0 : Int32)) hx hb dX3_terminal_23 (by decide) ?_
    subst hQ
    exact ng_zret hx hb hr hlk (by decide) (congrArg Prod.fst (Option.some.inj hg)) (congrArg Prod.snd (Option.some.inj hg)) hH dX3_terminal_24
  · replace hg := ob_f c3 hg
    refine lv_aload_n hx hb dX3_terminal_11 rfl (lv_at hl 0 rfl) ?_
    refine ng_get hx hb hts hown hK hH 0 (by decide) rfl rfl inlX3 5 (by decide) mw_27 rfl dX3_terminal_12 ?_
    refine lv_iload_n hx hb dX3_terminal_15 rfl (lv_at hl 1 rfl) ?_
    obtain ⟨q4, hc5, hg⟩ := ob_b hg
    refine ng_ci (ng_rS hx hb hml hown hts hK hH (As := [.int (σ 0 5), .int p1]) (rest := []) (cC_holds l D cI cZ cA h hi (σ 0 5) p1 σ q4 hc5 _) mw_146 mw_147 mw_2 mw_148 pdX3_holds.2 ⟨by rw [hR]; show _ ≤ _; simp only [nRm]; omega, by rw [hR]; show _ ≤ _; simp only [nRm]; omega⟩ hl.1 rfl (Nat.le_of_ble_eq_true rfl) dX3_terminal_16 ⟨Nat.zero_le _, Nat.zero_le _⟩) hH (fun H locs hH => ?_)
    refine lv_iload_n hx hb dX3_terminal_19 rfl (lv_at hl 2 rfl) ?_
    refine lv_icmp_ne (tgt := 25) hx hb dX3_terminal_20 (by decide) (fun c6 => ?_) (fun c6 => ?_)
    · replace hg := ob_f c6 hg
      refine lv_aload_n hx hb dX3_terminal_25 rfl (lv_at hl 0 rfl) ?_
      refine lv_dup hx hb dX3_terminal_26 rfl ?_
      refine ng_get hx hb hts hown hK hH 0 (by decide) rfl rfl inlX3 5 (by decide) mw_27 rfl dX3_terminal_27 ?_
      refine lv_iconst (v := (1 : Int32)) hx hb dX3_terminal_30 (by decide) ?_
      refine lv_iload_n hx hb dX3_terminal_31 rfl (lv_at hl 1 rfl) ?_
      refine lv_ishl hx hb dX3_terminal_32 ?_
      refine lv_ixor hx hb dX3_terminal_33 ?_
      refine ng_put hx hb hts hown hK hH 0 (by decide) rfl rfl inlX3 tyX3 tyX3_ok nmX3 5 (by decide) mw_27 rfl (by decide +kernel) (Nat.le_of_ble_eq_true rfl) rfl dX3_terminal_34 (fun H locs hH => ?_)
      refine lv_iconst (v := (1 : Int32)) hx hb dX3_terminal_37 (by decide) ?_
      subst hQ
      exact ng_zret hx hb hr hlk (by decide) (congrArg Prod.fst (Option.some.inj hg)) (congrArg Prod.snd (Option.some.inj hg)) hH dX3_terminal_38
    · replace hg := ob_t c6 hg
      refine lv_iconst (v := (0 : Int32)) hx hb dX3_terminal_23 (by decide) ?_
      subst hQ
      exact ng_zret hx hb hr hlk (by decide) (congrArg Prod.fst (Option.some.inj hg)) (congrArg Prod.snd (Option.some.inj hg)) hH dX3_terminal_24
set_option maxHeartbeats 8000000 in
set_option maxRecDepth 100000 in
theorem cC_turnPair (l : Launch) (D : va_G) (cI cZ cA : ClassId) (h : Nat → Nat) (hi : nInj 48 h) (p1 p2 : Int32) (σ : nS) (q : nS) (hg : gC_turnPair p1 p2 σ = some q) : nMv l yX3_turnPair cX3_turnPair 3 none 1 D cI cZ cA 48 (cfC cI cZ cA h) h [.ref (h 0), .int p1, .int p2] σ q := by
  unfold gC_turnPair at hg
  refine ng_body_v (by decide) hi (Nat.le_of_ble_eq_true rfl) ?_
  intro p e R s m args below meth c sz Q ls hx hb hml hr hlk hts hown hK hR hQ hl hH
  have hown : s.vm.findClass RX3 = some m.cls := hown
  have hl : lv_has ls 3 [(0, .ref (h 0)), (1, .int p1), (2, .int p2)] := hl
  refine lv_aload_n hx hb dX3_turnPair_0 rfl (lv_at hl 0 rfl) ?_
  refine ng_get hx hb hts hown hK hH 0 (by decide) rfl rfl inlX3 3 (by decide) mw_25 rfl dX3_turnPair_1 ?_
  refine lv_iload_n hx hb dX3_turnPair_4 rfl (lv_at hl 1 rfl) ?_
  refine lv_dup2_11 hx hb dX3_turnPair_5 rfl rfl ?_
  obtain ⟨hb1, hg⟩ := ob_i hg
  refine ng_iald hx hb hK hH 47 (by decide) (fun _ => rfl) hb1 dX3_turnPair_6 ?_
  refine lv_iconst (v := (1 : Int32)) hx hb dX3_turnPair_7 (by decide) ?_
  refine lv_iload_n hx hb dX3_turnPair_8 rfl (lv_at hl 2 rfl) ?_
  refine lv_ishl hx hb dX3_turnPair_9 ?_
  refine lv_ixor hx hb dX3_turnPair_10 ?_
  obtain ⟨hb2, hg⟩ := ob_i hg
  refine ng_iast hx hb hK hH 47 (by decide) (fun _ => rfl) hb2 dX3_turnPair_11 (fun H locs hH => ?_)
  refine lv_aload_n hx hb dX3_turnPair_12 rfl (lv_at hl 0 rfl) ?_
  refine ng_get hx hb hts hown hK hH 0 (by decide) rfl rfl inlX3 3 (by decide) mw_25 rfl dX3_turnPair_13 ?_
  refine lv_iload_n hx hb dX3_turnPair_16 rfl (lv_at hl 2 rfl) ?_
  refine lv_dup2_11 hx hb dX3_turnPair_17 rfl rfl ?_
  obtain ⟨hb3, hg⟩ := ob_i hg
  refine ng_iald hx hb hK hH 47 (by decide) (fun _ => rfl) hb3 dX3_turnPair_18 ?_
  refine lv_iconst (v := (1 : Int32)) hx hb dX3_turnPair_19 (by decide) ?_
  refine lv_iload_n hx hb dX3_turnPair_20 rfl (lv_at hl 1 rfl) ?_
  refine lv_ishl hx hb dX3_turnPair_21 ?_
  refine lv_ixor hx hb dX3_turnPair_22 ?_
  obtain ⟨hb4, hg⟩ := ob_i hg
  refine ng_iast hx hb hK hH 47 (by decide) (fun _ => rfl) hb4 dX3_turnPair_23 (fun H locs hH => ?_)
  subst hQ
  exact ng_vret hx hb hr hlk (Option.some.inj hg) hH dX3_turnPair_24
set_option maxHeartbeats 8000000 in
set_option maxRecDepth 100000 in
theorem cC_pair (l : Launch) (D : va_G) (cI cZ cA : ClassId) (h : Nat → Nat) (hi : nInj 48 h) (p1 p2 : Int32) (σ : nS) (q : Int32 × nS) (hg : gC_pair p1 p2 σ = some q) : nMi l yX3_pair cX3_pair 3 (some .boolean) 3 D cI cZ cA 48 (cfC cI cZ cA h) h [.ref (h 0), .int p1, .int p2] σ q.1 q.2 := by
  unfold gC_pair at hg
  refine ng_body_i (by decide) hi (Nat.le_of_ble_eq_true rfl) ?_
  intro p e R s m args below meth c sz Q ls hx hb hml hr hlk hts hown hK hR hQ hl hH
  have hown : s.vm.findClass RX3 = some m.cls := hown
  have hl : lv_has ls 3 [(0, .ref (h 0)), (1, .int p1), (2, .int p2)] := hl
  refine lv_aload_n hx hb dX3_pair_0 rfl (lv_at hl 0 rfl) ?_
  refine ng_get hx hb hts hown hK hH 0 (by decide) rfl rfl inlX3 0 (by decide) mw_15 rfl dX3_pair_1 ?_
  refine lv_iload_n hx hb dX3_pair_4 rfl (lv_at hl 1 rfl) ?_
  refine lv_iload_n hx hb dX3_pair_5 rfl (lv_at hl 2 rfl) ?_
  obtain ⟨q1, hc2, hg⟩ := ob_b hg
  refine ng_ci (ng_rV hx hb hml hown hts hK hH (As := [.int p1, .int p2]) (rest := []) 1 (cN_hasTwo l D cI cZ cA h hi p1 p2 σ q1 hc2 _) (by decide) rfl rfl mw_157 mw_105 mw_106 mw_14 mw_107 pdX1_hasTwo ⟨by rw [hR]; show _ ≤ _; simp only [nRm]; omega, by rw [hR]; show _ ≤ _; simp only [nRm]; omega⟩ hl.1 rfl (Nat.le_of_ble_eq_true rfl) dX3_pair_6 ⟨Nat.zero_le _, Nat.zero_le _⟩) hH (fun H locs hH => ?_)
  refine lv_if_eq (tgt := 34) hx hb dX3_pair_9 (by decide) (fun c3 => ?_) (fun c3 => ?_)
  · replace hg := ob_t c3 hg
    refine lv_iconst (v := (0 : Int32)) hx hb dX3_pair_34 (by decide) ?_
    subst hQ
    exact ng_zret hx hb hr hlk (by decide) (congrArg Prod.fst (Option.some.inj hg)) (congrArg Prod.snd (Option.some.inj hg)) hH dX3_pair_35
  · replace hg := ob_f c3 hg
    refine lv_aload_n hx hb dX3_pair_12 rfl (lv_at hl 0 rfl) ?_
    refine ng_get hx hb hts hown hK hH 0 (by decide) rfl rfl inlX3 3 (by decide) mw_25 rfl dX3_pair_13 ?_
    refine lv_iload_n hx hb dX3_pair_16 rfl (lv_at hl 1 rfl) ?_
    obtain ⟨hb4, hg⟩ := ob_i hg
    refine ng_iald hx hb hK hH 47 (by decide) (fun _ => rfl) hb4 dX3_pair_17 ?_
    refine lv_iload_n hx hb dX3_pair_18 rfl (lv_at hl 2 rfl) ?_
    obtain ⟨q5, hc6, hg⟩ := ob_b hg
    refine ng_ci (ng_rS hx hb hml hown hts hK hH (As := [.int (σ 47 p1.toNatClampNeg), .int p2]) (rest := []) (cC_holds l D cI cZ cA h hi (σ 47 p1.toNatClampNeg) p2 σ q5 hc6 _) mw_146 mw_147 mw_2 mw_148 pdX3_holds.2 ⟨by rw [hR]; show _ ≤ _; simp only [nRm]; omega, by rw [hR]; show _ ≤ _; simp only [nRm]; omega⟩ hl.1 rfl (Nat.le_of_ble_eq_true rfl) dX3_pair_19 ⟨Nat.zero_le _, Nat.zero_le _⟩) hH (fun H locs hH => ?_)
    refine lv_if_ne (tgt := 34) hx hb dX3_pair_22 (by decide) (fun c7 => ?_) (fun c7 => ?_)
    · replace hg := ob_f c7 hg
      refine lv_iconst (v := (0 : Int32)) hx hb dX3_pair_34 (by decide) ?_
      subst hQ
      exact ng_zret hx hb hr hlk (by decide) (congrArg Prod.fst (Option.some.inj hg)) (congrArg Prod.snd (Option.some.inj hg)) hH dX3_pair_35
    · replace hg := ob_t c7 hg
      refine lv_aload_n hx hb dX3_pair_25 rfl (lv_at hl 0 rfl) ?_
      refine ng_get hx hb hts hown hK hH 0 (by decide) rfl rfl inlX3 4 (by decide) mw_26 rfl dX3_pair_26 ?_
      refine lv_bipush (v := (8 : Int32)) hx hb dX3_pair_29 (by decide) ?_
      refine lv_icmp_lt (tgt := 36) hx hb dX3_pair_31 (by decide) (fun c8 => ?_) (fun c8 => ?_)
      · replace hg := ob_t c8 hg
        refine lv_aload_n hx hb dX3_pair_36 rfl (lv_at hl 0 rfl) ?_
        refine lv_iload_n hx hb dX3_pair_37 rfl (lv_at hl 1 rfl) ?_
        refine lv_iload_n hx hb dX3_pair_38 rfl (lv_at hl 2 rfl) ?_
        obtain ⟨q9, hc10, hg⟩ := ob_b hg
        refine ng_cv (ng_rV hx hb hml hown hts hK hH (As := [.int p1, .int p2]) (rest := []) 0 (cC_turnPair l D cI cZ cA h hi p1 p2 σ q9 hc10 _) (by decide) rfl rfl mw_158 mw_159 mw_160 mw_2 mw_161 pdX3_turnPair ⟨by rw [hR]; show _ ≤ _; simp only [nRm]; omega, by rw [hR]; show _ ≤ _; simp only [nRm]; omega⟩ hl.1 rfl (Nat.le_of_ble_eq_true rfl) dX3_pair_39 ⟨Nat.zero_le _, Nat.zero_le _⟩) hH (fun H locs hH => ?_)
        refine lv_aload_n hx hb dX3_pair_42 rfl (lv_at hl 0 rfl) ?_
        refine lv_dup hx hb dX3_pair_43 rfl ?_
        refine ng_get hx hb hts hown hK hH 0 (by decide) rfl rfl inlX3 4 (by decide) mw_26 rfl dX3_pair_44 ?_
        refine lv_iconst (v := (1 : Int32)) hx hb dX3_pair_47 (by decide) ?_
        refine lv_iadd hx hb dX3_pair_48 ?_
        refine ng_put hx hb hts hown hK hH 0 (by decide) rfl rfl inlX3 tyX3 tyX3_ok nmX3 4 (by decide) mw_26 rfl (by decide +kernel) (Nat.le_of_ble_eq_true rfl) rfl dX3_pair_49 (fun H locs hH => ?_)
        refine lv_iconst (v := (1 : Int32)) hx hb dX3_pair_52 (by decide) ?_
        subst hQ
        exact ng_zret hx hb hr hlk (by decide) (congrArg Prod.fst (Option.some.inj hg)) (congrArg Prod.snd (Option.some.inj hg)) hH dX3_pair_53
      · replace hg := ob_f c8 hg
        refine lv_iconst (v := (0 : Int32)) hx hb dX3_pair_34 (by decide) ?_
        subst hQ
        exact ng_zret hx hb hr hlk (by decide) (congrArg Prod.fst (Option.some.inj hg)) (congrArg Prod.snd (Option.some.inj hg)) hH dX3_pair_35
