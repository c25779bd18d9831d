set_option maxHeartbeats 8000000 in
set_option maxRecDepth 100000 in
theorem cM_toldPart (l : Launch) (D : va_G) (cI cZ cA : ClassId) (h : Nat → Nat) (hi : nInj 14 h) (p1 p2 : Int32) (σ : nS) (q : Int32 × nS) (hg : gM_toldPart p1 p2 σ = some q) : nMi l yX4_toldPart cX4_toldPart 3 (some .int) 16 D cI cZ cA 14 (cfM cI cZ h) h [.ref (h 0), .int p1, .int p2] σ q.1 q.2 := by
  unfold gM_toldPart at hg
  refine ng_body_i (by decide) hi (Nat.le_of_ble_eq_true rfl) ?_
  intro p e R s m args below meth c sz Q ls hx hb hml hr hlk hts hown hK hR hQ hl hH
  have hown : s.vm.findClass RX4 = some m.cls := hown
  have hl : lv_has ls 3 [(0, .ref (h 0)), (1, .int p1), (2, .int p2)] := hl
  refine lv_aload_n hx hb dX4_toldPart_0 rfl (lv_at hl 0 rfl) ?_
  refine lv_iload_n hx hb dX4_toldPart_1 rfl (lv_at hl 2 rfl) ?_
  obtain ⟨q1, hc2, hg⟩ := ob_b hg
  refine ng_ci (ng_rV hx hb hml hown hts hK hH (As := [.int p2]) (rest := []) 0 (cM_isPost l D cI cZ cA h hi p2 σ q1 hc2 _) (by decide) rfl rfl mw_117 mw_118 mw_119 mw_5 mw_120 pdX4_isPost ⟨by rw [hR]; show _ ≤ _; simp only [nRm]; omega, by rw [hR]; show _ ≤ _; simp only [nRm]; omega⟩ hl.1 rfl (Nat.le_of_ble_eq_true rfl) dX4_toldPart_2 ⟨Nat.zero_le _, Nat.zero_le _⟩) hH (fun H locs hH => ?_)
  refine lv_if_ne (tgt := 10) hx hb dX4_toldPart_5 (by decide) (fun c3 => ?_) (fun c3 => ?_)
  · replace hg := ob_f c3 hg
    refine lv_aload_n hx hb dX4_toldPart_10 rfl (lv_at hl 0 rfl) ?_
    refine lv_iload_n hx hb dX4_toldPart_11 rfl (lv_at hl 1 rfl) ?_
    refine lv_iconst (v := (0 : Int32)) hx hb dX4_toldPart_12 (by decide) ?_
    obtain ⟨q4, hc5, hg⟩ := ob_b hg
    refine ng_cv (ng_rV hx hb hml hown hts hK hH (As := [.int p1, .int (0 : Int32)]) (rest := []) 0 (cM_goesThrough l D cI cZ cA h hi p1 (0 : Int32) σ q4 hc5 _) (by decide) rfl rfl mw_254 mw_255 mw_256 mw_5 mw_257 pdX4_goesThrough ⟨by rw [hR]; show _ ≤ _; simp only [nRm]; omega, by rw [hR]; show _ ≤ _; simp only [nRm]; omega⟩ hl.1 rfl (Nat.le_of_ble_eq_true rfl) dX4_toldPart_13 ⟨Nat.zero_le _, Nat.zero_le _⟩) hH (fun H locs hH => ?_)
    refine lv_aload_n hx hb dX4_toldPart_16 rfl (lv_at hl 0 rfl) ?_
    refine ng_get hx hb hts hown hK hH 0 (by decide) rfl rfl inlX4 13 (by decide) mw_77 rfl dX4_toldPart_17 ?_
    refine lv_iload_n hx hb dX4_toldPart_20 rfl (lv_at hl 2 rfl) ?_
    obtain ⟨hb6, hg⟩ := ob_i hg
    refine ng_iald hx hb hK hH 11 (by decide) (fun _ => rfl) hb6 dX4_toldPart_21 ?_
    subst hQ
    exact ng_iret hx hb hr hlk (congrArg Prod.fst (Option.some.inj hg)) (congrArg Prod.snd (Option.some.inj hg)) hH dX4_toldPart_22
  · replace hg := ob_t c3 hg
    refine lv_iconst (v := (-1 : Int32)) hx hb dX4_toldPart_8 (by decide) ?_
    subst hQ
    exact ng_iret hx hb hr hlk (congrArg Prod.fst (Option.some.inj hg)) (congrArg Prod.snd (Option.some.inj hg)) hH dX4_toldPart_9
set_option maxHeartbeats 8000000 in
set_option maxRecDepth 100000 in
theorem cM_terminals (l : Launch) (D : va_G) (cI cZ cA : ClassId) (h : Nat → Nat) (hi : nInj 14 h) (σ : nS) (q : Int32 × nS) (hg : gM_terminals σ = some q) : nMi l yX4_terminals cX4_terminals 1 (some .int) 17 D cI cZ cA 14 (cfM cI cZ h) h [.ref (h 0)] σ q.1 q.2 := by
  unfold gM_terminals at hg
  refine ng_body_i (by decide) hi (Nat.le_of_ble_eq_true rfl) ?_
  intro p e R s m args below meth c sz Q ls hx hb hml hr hlk hts hown hK hR hQ hl hH
  have hown : s.vm.findClass RX4 = some m.cls := hown
  have hl : lv_has ls 1 [(0, .ref (h 0))] := hl
  refine lv_aload_n hx hb dX4_terminals_0 rfl (lv_at hl 0 rfl) ?_
  refine lv_iconst (v := (1 : Int32)) hx hb dX4_terminals_1 (by decide) ?_
  obtain ⟨q1, hc2, hg⟩ := ob_b hg
  refine ng_ci (ng_rV hx hb hml hown hts hK hH (As := [.int (1 : Int32)]) (rest := []) 0 (cM_told l D cI cZ cA h hi (1 : Int32) σ q1 hc2 _) (by decide) rfl rfl mw_304 mw_305 mw_306 mw_5 mw_307 pdX4_told ⟨by rw [hR]; show _ ≤ _; simp only [nRm]; omega, by rw [hR]; show _ ≤ _; simp only [nRm]; omega⟩ hl.1 rfl (Nat.le_of_ble_eq_true rfl) dX4_terminals_2 ⟨Nat.zero_le _, Nat.zero_le _⟩) hH (fun H locs hH => ?_)
  subst hQ
  exact ng_iret hx hb hr hlk (congrArg Prod.fst (Option.some.inj hg)) (congrArg Prod.snd (Option.some.inj hg)) hH dX4_terminals_5
set_option maxHeartbeats 8000000 in
set_option maxRecDepth 100000 in
theorem cM_terminalPart (l : Launch) (D : va_G) (cI cZ cA : ClassId) (h : Nat → Nat) (hi : nInj 14 h) (p1 : Int32) (σ : nS) (q : Int32 × nS) (hg : gM_terminalPart p1 σ = some q) : nMi l yX4_terminalPart cX4_terminalPart 2 (some .int) 17 D cI cZ cA 14 (cfM cI cZ h) h [.ref (h 0), .int p1] σ q.1 q.2 := by
  unfold gM_terminalPart at hg
  refine ng_body_i (by decide) hi (Nat.le_of_ble_eq_true rfl) ?_
  intro p e R s m args below meth c sz Q ls hx hb hml hr hlk hts hown hK hR hQ hl hH
  have hown : s.vm.findClass RX4 = some m.cls := hown
  have hl : lv_has ls 2 [(0, .ref (h 0)), (1, .int p1)] := hl
  refine lv_aload_n hx hb dX4_terminalPart_0 rfl (lv_at hl 0 rfl) ?_
  refine lv_iconst (v := (1 : Int32)) hx hb dX4_terminalPart_1 (by decide) ?_
  refine lv_iload_n hx hb dX4_terminalPart_2 rfl (lv_at hl 1 rfl) ?_
  obtain ⟨q1, hc2, hg⟩ := ob_b hg
  refine ng_ci (ng_rV hx hb hml hown hts hK hH (As := [.int (1 : Int32), .int p1]) (rest := []) 0 (cM_toldPart l D cI cZ cA h hi (1 : Int32) p1 σ q1 hc2 _) (by decide) rfl rfl mw_316 mw_317 mw_318 mw_5 mw_319 pdX4_toldPart ⟨by rw [hR]; show _ ≤ _; simp only [nRm]; omega, by rw [hR]; show _ ≤ _; simp only [nRm]; omega⟩ hl.1 rfl (Nat.le_of_ble_eq_true rfl) dX4_terminalPart_3 ⟨Nat.zero_le _, Nat.zero_le _⟩) hH (fun H locs hH => ?_)
  subst hQ
  exact ng_iret hx hb hr hlk (congrArg Prod.fst (Option.some.inj hg)) (congrArg Prod.snd (Option.some.inj hg)) hH dX4_terminalPart_6
set_option maxHeartbeats 8000000 in
set_option maxRecDepth 100000 in
theorem cM_apart (l : Launch) (D : va_G) (cI cZ cA : ClassId) (h : Nat → Nat) (hi : nInj 14 h) (σ : nS) (q : Int32 × nS) (hg : gM_apart σ = some q) : nMi l yX4_apart cX4_apart 1 (some .int) 17 D cI cZ cA 14 (cfM cI cZ h) h [.ref (h 0)] σ q.1 q.2 := by
  unfold gM_apart at hg
  refine ng_body_i (by decide) hi (Nat.le_of_ble_eq_true rfl) ?_
  intro p e R s m args below meth c sz Q ls hx hb hml hr hlk hts hown hK hR hQ hl hH
  have hown : s.vm.findClass RX4 = some m.cls := hown
  have hl : lv_has ls 1 [(0, .ref (h 0))] := hl
  refine lv_aload_n hx hb dX4_apart_0 rfl (lv_at hl 0 rfl) ?_
  refine lv_iconst (v := (2 : Int32)) hx hb dX4_apart_1 (by decide) ?_
  obtain ⟨q1, hc2, hg⟩ := ob_b hg
  refine ng_ci (ng_rV hx hb hml hown hts hK hH (As := [.int (2 : Int32)]) (rest := []) 0 (cM_told l D cI cZ cA h hi (2 : Int32) σ q1 hc2 _) (by decide) rfl rfl mw_304 mw_305 mw_306 mw_5 mw_307 pdX4_told ⟨by rw [hR]; show _ ≤ _; simp only [nRm]; omega, by rw [hR]; show _ ≤ _; simp only [nRm]; omega⟩ hl.1 rfl (Nat.le_of_ble_eq_true rfl) dX4_apart_2 ⟨Nat.zero_le _, Nat.zero_le _⟩) hH (fun H locs hH => ?_)
  subst hQ
  exact ng_iret hx hb hr hlk (congrArg Prod.fst (Option.some.inj hg)) (congrArg Prod.snd (Option.some.inj hg)) hH dX4_apart_5
set_option maxHeartbeats 8000000 in
set_option maxRecDepth 100000 in
theorem cM_apartPart (l : Launch) (D : va_G) (cI cZ cA : ClassId) (h : Nat → Nat) (hi : nInj 14 h) (p1 : Int32) (σ : nS) (q : Int32 × nS) (hg : gM_apartPart p1 σ = some q) : nMi l yX4_apartPart cX4_apartPart 2 (some .int) 17 D cI cZ cA 14 (cfM cI cZ h) h [.ref (h 0), .int p1] σ q.1 q.2 := by
  unfold gM_apartPart at hg
  refine ng_body_i (by decide) hi (Nat.le_of_ble_eq_true rfl) ?_
  intro p e R s m args below meth c sz Q ls hx hb hml hr hlk hts hown hK hR hQ hl hH
  have hown : s.vm.findClass RX4 = some m.cls := hown
  have hl : lv_has ls 2 [(0, .ref (h 0)), (1, .int p1)] := hl
  refine lv_aload_n hx hb dX4_apartPart_0 rfl (lv_at hl 0 rfl) ?_
  refine lv_iconst (v := (2 : Int32)) hx hb dX4_apartPart_1 (by decide) ?_
  refine lv_iload_n hx hb dX4_apartPart_2 rfl (lv_at hl 1 rfl) ?_
  obtain ⟨q1, hc2, hg⟩ := ob_b hg
  refine ng_ci (ng_rV hx hb hml hown hts hK hH (As := [.int (2 : Int32), .int p1]) (rest := []) 0 (cM_toldPart l D cI cZ cA h hi (2 : Int32) p1 σ q1 hc2 _) (by decide) rfl rfl mw_316 mw_317 mw_318 mw_5 mw_319 pdX4_toldPart ⟨by rw [hR]; show _ ≤ _; simp only [nRm]; omega, by rw [hR]; show _ ≤ _; simp only [nRm]; omega⟩ hl.1 rfl (Nat.le_of_ble_eq_true rfl) dX4_apartPart_3 ⟨Nat.zero_le _, Nat.zero_le _⟩) hH (fun H locs hH => ?_)
  subst hQ
  exact ng_iret hx hb hr hlk (congrArg Prod.fst (Option.some.inj hg)) (congrArg Prod.snd (Option.some.inj hg)) hH dX4_apartPart_6
set_option maxHeartbeats 8000000 in
set_option maxRecDepth 100000 in
theorem cM_sure (l : Launch) (D : va_G) (cI cZ cA : ClassId) (h : Nat → Nat) (hi : nInj 14 h) (p1 : Int32) (σ : nS) (q : Int32 × nS) (hg : gM_sure p1 σ = some q) : nMi l yX4_sure cX4_sure 2 (some .int) 16 D cI cZ cA 14 (cfM cI cZ h) h [.ref (h 0), .int p1] σ q.1 q.2 := by
  unfold gM_sure at hg
  refine ng_body_i (by decide) hi (Nat.le_of_ble_eq_true rfl) ?_
  intro p e R s m args below meth c sz Q ls hx hb hml hr hlk hts hown hK hR hQ hl hH
  have hown : s.vm.findClass RX4 = some m.cls := hown
  have hl : lv_has ls 2 [(0, .ref (h 0)), (1, .int p1)] := hl
  refine lv_aload_n hx hb dX4_sure_0 rfl (lv_at hl 0 rfl) ?_
  refine lv_iload_n hx hb dX4_sure_1 rfl (lv_at hl 1 rfl) ?_
  obtain ⟨q1, hc2, hg⟩ := ob_b hg
  refine ng_ci (ng_rV hx hb hml hown hts hK hH (As := [.int p1]) (rest := []) 0 (cM_isLine l D cI cZ cA h hi p1 σ q1 hc2 _) (by decide) rfl rfl mw_137 mw_138 mw_139 mw_5 mw_140 pdX4_isLine ⟨by rw [hR]; show _ ≤ _; simp only [nRm]; omega, by rw [hR]; show _ ≤ _; simp only [nRm]; omega⟩ hl.1 rfl (Nat.le_of_ble_eq_true rfl) dX4_sure_2 ⟨Nat.zero_le _, Nat.zero_le _⟩) hH (fun H locs hH => ?_)
  refine lv_if_ne (tgt := 10) hx hb dX4_sure_5 (by decide) (fun c3 => ?_) (fun c3 => ?_)
  · replace hg := ob_f c3 hg
    refine lv_aload_n hx hb dX4_sure_10 rfl (lv_at hl 0 rfl) ?_
    refine lv_iconst (v := (2 : Int32)) hx hb dX4_sure_11 (by decide) ?_
    refine lv_iconst (v := (0 : Int32)) hx hb dX4_sure_12 (by decide) ?_
    obtain ⟨q4, hc5, hg⟩ := ob_b hg
    refine ng_cv (ng_rV hx hb hml hown hts hK hH (As := [.int (2 : Int32), .int (0 : Int32)]) (rest := []) 0 (cM_goesThrough l D cI cZ cA h hi (2 : Int32) (0 : Int32) σ q4 hc5 _) (by decide) rfl rfl mw_254 mw_255 mw_256 mw_5 mw_257 pdX4_goesThrough ⟨by rw [hR]; show _ ≤ _; simp only [nRm]; omega, by rw [hR]; show _ ≤ _; simp only [nRm]; omega⟩ hl.1 rfl (Nat.le_of_ble_eq_true rfl) dX4_sure_13 ⟨Nat.zero_le _, Nat.zero_le _⟩) hH (fun H locs hH => ?_)
    refine lv_aload_n hx hb dX4_sure_16 rfl (lv_at hl 0 rfl) ?_
    refine ng_get hx hb hts hown hK hH 0 (by decide) rfl rfl inlX4 21 (by decide) mw_78 rfl dX4_sure_17 ?_
    refine lv_iload_n hx hb dX4_sure_20 rfl (lv_at hl 1 rfl) ?_
    obtain ⟨hb6, hg⟩ := ob_i hg
    refine ng_iald hx hb hK hH 12 (by decide) (fun _ => rfl) hb6 dX4_sure_21 ?_
    refine lv_aload_n hx hb dX4_sure_22 rfl (lv_at hl 0 rfl) ?_
    refine ng_get hx hb hts hown hK hH 0 (by decide) rfl rfl inlX4 19 (by decide) mw_261 rfl dX4_sure_23 ?_
    refine lv_icmp_ne (tgt := 33) hx hb dX4_sure_26 (by decide) (fun c7 => ?_) (fun c7 => ?_)
    · replace hg := ob_f c7 hg
      refine lv_aload_n hx hb dX4_sure_33 rfl (lv_at hl 0 rfl) ?_
      refine ng_get hx hb hts hown hK hH 0 (by decide) rfl rfl inlX4 21 (by decide) mw_78 rfl dX4_sure_34 ?_
      refine lv_iload_n hx hb dX4_sure_37 rfl (lv_at hl 1 rfl) ?_
      obtain ⟨hb8, hg⟩ := ob_i hg
      refine ng_iald hx hb hK hH 12 (by decide) (fun _ => rfl) hb8 dX4_sure_38 ?_
      refine lv_if_le (tgt := 46) hx hb dX4_sure_39 (by decide) (fun c9 => ?_) (fun c9 => ?_)
      · replace hg := ob_t c9 hg
        refine lv_iconst (v := (0 : Int32)) hx hb dX4_sure_46 (by decide) ?_
        subst hQ
        exact ng_iret hx hb hr hlk (congrArg Prod.fst (Option.some.inj hg)) (congrArg Prod.snd (Option.some.inj hg)) hH dX4_sure_47
      · replace hg := ob_f c9 hg
        refine lv_iconst (v := (1 : Int32)) hx hb dX4_sure_42 (by decide) ?_
        refine lv_goto (tgt := 47) hx hb dX4_sure_43 (by decide) ?_
        subst hQ
        exact ng_iret hx hb hr hlk (congrArg Prod.fst (Option.some.inj hg)) (congrArg Prod.snd (Option.some.inj hg)) hH dX4_sure_47
    · replace hg := ob_t c7 hg
      refine lv_iconst (v := (2 : Int32)) hx hb dX4_sure_29 (by decide) ?_
      refine lv_goto (tgt := 47) hx hb dX4_sure_30 (by decide) ?_
      subst hQ
      exact ng_iret hx hb hr hlk (congrArg Prod.fst (Option.some.inj hg)) (congrArg Prod.snd (Option.some.inj hg)) hH dX4_sure_47
  · replace hg := ob_t c3 hg
    refine lv_iconst (v := (-1 : Int32)) hx hb dX4_sure_8 (by decide) ?_
    subst hQ
    exact ng_iret hx hb hr hlk (congrArg Prod.fst (Option.some.inj hg)) (congrArg Prod.snd (Option.some.inj hg)) hH dX4_sure_9
set_option maxHeartbeats 8000000 in
set_option maxRecDepth 100000 in
theorem cM_pieces (l : Launch) (D : va_G) (cI cZ cA : ClassId) (h : Nat → Nat) (hi : nInj 14 h) (p1 : Int32) (σ : nS) (q : Int32 × nS) (hg : gM_pieces p1 σ = some q) : nMi l yX4_pieces cX4_pieces 2 (some .int) 17 D cI cZ cA 14 (cfM cI cZ h) h [.ref (h 0), .int p1] σ q.1 q.2 := by
  unfold gM_pieces at hg
  refine ng_body_i (by decide) hi (Nat.le_of_ble_eq_true rfl) ?_
  intro p e R s m args below meth c sz Q ls hx hb hml hr hlk hts hown hK hR hQ hl hH
  have hown : s.vm.findClass RX4 = some m.cls := hown
  have hl : lv_has ls 2 [(0, .ref (h 0)), (1, .int p1)] := hl
  refine lv_iload_n hx hb dX4_pieces_0 rfl (lv_at hl 1 rfl) ?_
  refine lv_iconst (v := (1 : Int32)) hx hb dX4_pieces_1 (by decide) ?_
  refine lv_aload_n hx hb dX4_pieces_2 rfl (lv_at hl 0 rfl) ?_
  refine ng_get hx hb hts hown hK hH 0 (by decide) rfl rfl inlX4 2 (by decide) mw_92 rfl dX4_pieces_3 ?_
  obtain ⟨q1, hc2, hg⟩ := ob_b hg
  refine ng_ci (ng_rS hx hb hml hown hts hK hH (As := [.int p1, .int (1 : Int32), .int (σ 0 2)]) (rest := []) (cM_in l D cI cZ cA h hi p1 (1 : Int32) (σ 0 2) σ q1 hc2 _) mw_93 mw_94 mw_5 mw_95 pdX4_in.2 ⟨by rw [hR]; show _ ≤ _; simp only [nRm]; omega, by rw [hR]; show _ ≤ _; simp only [nRm]; omega⟩ hl.1 rfl (Nat.le_of_ble_eq_true rfl) dX4_pieces_6 ⟨Nat.zero_le _, Nat.zero_le _⟩) hH (fun H locs hH => ?_)
  refine lv_if_ne (tgt := 14) hx hb dX4_pieces_9 (by decide) (fun c3 => ?_) (fun c3 => ?_)
  · replace hg := ob_f c3 hg
    refine lv_aload_n hx hb dX4_pieces_14 rfl (lv_at hl 0 rfl) ?_
    refine lv_iload_n hx hb dX4_pieces_15 rfl (lv_at hl 1 rfl) ?_
    refine ng_put hx hb hts hown hK hH 0 (by decide) rfl rfl inlX4 tyX4 tyX4_ok nmX4 17 (by decide) mw_274 rfl (by decide +kernel) (Nat.le_of_ble_eq_true rfl) rfl dX4_pieces_16 (fun H locs hH => ?_)
    refine lv_aload_n hx hb dX4_pieces_19 rfl (lv_at hl 0 rfl) ?_
    refine lv_iconst (v := (3 : Int32)) hx hb dX4_pieces_20 (by decide) ?_
    obtain ⟨q4, hc5, hg⟩ := ob_b hg
    refine ng_ci (ng_rV hx hb hml hown hts hK hH (As := [.int (3 : Int32)]) (rest := []) 0 (cM_told l D cI cZ cA h hi (3 : Int32) (nst σ 0 17 p1) q4 hc5 _) (by decide) rfl rfl mw_304 mw_305 mw_306 mw_5 mw_307 pdX4_told ⟨by rw [hR]; show _ ≤ _; simp only [nRm]; omega, by rw [hR]; show _ ≤ _; simp only [nRm]; omega⟩ hl.1 rfl (Nat.le_of_ble_eq_true rfl) dX4_pieces_21 ⟨Nat.zero_le _, Nat.zero_le _⟩) hH (fun H locs hH => ?_)
    subst hQ
    exact ng_iret hx hb hr hlk (congrArg Prod.fst (Option.some.inj hg)) (congrArg Prod.snd (Option.some.inj hg)) hH dX4_pieces_24
  · replace hg := ob_t c3 hg
    refine lv_iconst (v := (-1 : Int32)) hx hb dX4_pieces_12 (by decide) ?_
    subst hQ
    exact ng_iret hx hb hr hlk (congrArg Prod.fst (Option.some.inj hg)) (congrArg Prod.snd (Option.some.inj hg)) hH dX4_pieces_13
set_option maxHeartbeats 8000000 in
set_option maxRecDepth 100000 in
theorem cM_piece (l : Launch) (D : va_G) (cI cZ cA : ClassId) (h : Nat → Nat) (hi : nInj 14 h) (p1 p2 : Int32) (σ : nS) (q : Int32 × nS) (hg : gM_piece p1 p2 σ = some q) : nMi l yX4_piece cX4_piece 3 (some .int) 17 D cI cZ cA 14 (cfM cI cZ h) h [.ref (h 0), .int p1, .int p2] σ q.1 q.2 := by
  unfold gM_piece at hg
  refine ng_body_i (by decide) hi (Nat.le_of_ble_eq_true rfl) ?_
  intro p e R s m args below meth c sz Q ls hx hb hml hr hlk hts hown hK hR hQ hl hH
  have hown : s.vm.findClass RX4 = some m.cls := hown
  have hl : lv_has ls 3 [(0, .ref (h 0)), (1, .int p1), (2, .int p2)] := hl
  refine lv_iload_n hx hb dX4_piece_0 rfl (lv_at hl 1 rfl) ?_
  refine lv_iconst (v := (1 : Int32)) hx hb dX4_piece_1 (by decide) ?_
  refine lv_aload_n hx hb dX4_piece_2 rfl (lv_at hl 0 rfl) ?_
  refine ng_get hx hb hts hown hK hH 0 (by decide) rfl rfl inlX4 2 (by decide) mw_92 rfl dX4_piece_3 ?_
  obtain ⟨q1, hc2, hg⟩ := ob_b hg
  refine ng_ci (ng_rS hx hb hml hown hts hK hH (As := [.int p1, .int (1 : Int32), .int (σ 0 2)]) (rest := []) (cM_in l D cI cZ cA h hi p1 (1 : Int32) (σ 0 2) σ q1 hc2 _) mw_93 mw_94 mw_5 mw_95 pdX4_in.2 ⟨by rw [hR]; show _ ≤ _; simp only [nRm]; omega, by rw [hR]; show _ ≤ _; simp only [nRm]; omega⟩ hl.1 rfl (Nat.le_of_ble_eq_true rfl) dX4_piece_6 ⟨Nat.zero_le _, Nat.zero_le _⟩) hH (fun H locs hH => ?_)
  refine lv_if_ne (tgt := 14) hx hb dX4_piece_9 (by decide) (fun c3 => ?_) (fun c3 => ?_)
  · replace hg := ob_f c3 hg
    refine lv_aload_n hx hb dX4_piece_14 rfl (lv_at hl 0 rfl) ?_
    refine lv_iload_n hx hb dX4_piece_15 rfl (lv_at hl 1 rfl) ?_
    refine ng_put hx hb hts hown hK hH 0 (by decide) rfl rfl inlX4 tyX4 tyX4_ok nmX4 17 (by decide) mw_274 rfl (by decide +kernel) (Nat.le_of_ble_eq_true rfl) rfl dX4_piece_16 (fun H locs hH => ?_)
    refine lv_aload_n hx hb dX4_piece_19 rfl (lv_at hl 0 rfl) ?_
    refine lv_iconst (v := (3 : Int32)) hx hb dX4_piece_20 (by decide) ?_
    refine lv_iload_n hx hb dX4_piece_21 rfl (lv_at hl 2 rfl) ?_
    obtain ⟨q4, hc5, hg⟩ := ob_b hg
    refine ng_ci (ng_rV hx hb hml hown hts hK hH (As := [.int (3 : Int32), .int p2]) (rest := []) 0 (cM_toldPart l D cI cZ cA h hi (3 : Int32) p2 (nst σ 0 17 p1) q4 hc5 _) (by decide) rfl rfl mw_316 mw_317 mw_318 mw_5 mw_319 pdX4_toldPart ⟨by rw [hR]; show _ ≤ _; simp only [nRm]; omega, by rw [hR]; show _ ≤ _; simp only [nRm]; omega⟩ hl.1 rfl (Nat.le_of_ble_eq_true rfl) dX4_piece_22 ⟨Nat.zero_le _, Nat.zero_le _⟩) hH (fun H locs hH => ?_)
    subst hQ
    exact ng_iret hx hb hr hlk (congrArg Prod.fst (Option.some.inj hg)) (congrArg Prod.snd (Option.some.inj hg)) hH dX4_piece_25
  · replace hg := ob_t c3 hg
    refine lv_iconst (v := (-1 : Int32)) hx hb dX4_piece_12 (by decide) ?_
    subst hQ
    exact ng_iret hx hb hr hlk (congrArg Prod.fst (Option.some.inj hg)) (congrArg Prod.snd (Option.some.inj hg)) hH dX4_piece_13
set_option maxHeartbeats 8000000 in
set_option maxRecDepth 100000 in
theorem cM_wholes (l : Launch) (D : va_G) (cI cZ cA : ClassId) (h : Nat → Nat) (hi : nInj 14 h) (σ : nS) (q : Int32 × nS) (hg : gM_wholes σ = some q) : nMi l yX4_wholes cX4_wholes 1 (some .int) 16 D cI cZ cA 14 (cfM cI cZ h) h [.ref (h 0)] σ q.1 q.2 := by
  unfold gM_wholes at hg
  refine ng_body_i (by decide) hi (Nat.le_of_ble_eq_true rfl) ?_
  intro p e R s m args below meth c sz Q ls hx hb hml hr hlk hts hown hK hR hQ hl hH
  have hown : s.vm.findClass RX4 = some m.cls := hown
  have hl : lv_has ls 1 [(0, .ref (h 0))] := hl
  refine lv_aload_n hx hb dX4_wholes_0 rfl (lv_at hl 0 rfl) ?_
  refine ng_get hx hb hts hown hK hH 0 (by decide) rfl rfl inlX4 2 (by decide) mw_92 rfl dX4_wholes_1 ?_
  refine lv_iconst (v := (2 : Int32)) hx hb dX4_wholes_4 (by decide) ?_
  refine lv_icmp_ge (tgt := 10) hx hb dX4_wholes_5 (by decide) (fun c1 => ?_) (fun c1 => ?_)
  · replace hg := ob_t c1 hg
    refine lv_aload_n hx hb dX4_wholes_10 rfl (lv_at hl 0 rfl) ?_
    refine lv_iconst (v := (2 : Int32)) hx hb dX4_wholes_11 (by decide) ?_
    refine ng_put hx hb hts hown hK hH 0 (by decide) rfl rfl inlX4 tyX4 tyX4_ok nmX4 17 (by decide) mw_274 rfl (by decide +kernel) (Nat.le_of_ble_eq_true rfl) rfl dX4_wholes_12 (fun H locs hH => ?_)
    refine lv_aload_n hx hb dX4_wholes_15 rfl (lv_at hl 0 rfl) ?_
    refine lv_iconst (v := (3 : Int32)) hx hb dX4_wholes_16 (by decide) ?_
    refine lv_iconst (v := (0 : Int32)) hx hb dX4_wholes_17 (by decide) ?_
    obtain ⟨q2, hc3, hg⟩ := ob_b hg
    refine ng_cv (ng_rV hx hb hml hown hts hK hH (As := [.int (3 : Int32), .int (0 : Int32)]) (rest := []) 0 (cM_goesThrough l D cI cZ cA h hi (3 : Int32) (0 : Int32) (nst σ 0 17 (2 : Int32)) q2 hc3 _) (by decide) rfl rfl mw_254 mw_255 mw_256 mw_5 mw_257 pdX4_goesThrough ⟨by rw [hR]; show _ ≤ _; simp only [nRm]; omega, by rw [hR]; show _ ≤ _; simp only [nRm]; omega⟩ hl.1 rfl (Nat.le_of_ble_eq_true rfl) dX4_wholes_18 ⟨Nat.zero_le _, Nat.zero_le _⟩) hH (fun H locs hH => ?_)
    refine lv_aload_n hx hb dX4_wholes_21 rfl (lv_at hl 0 rfl) ?_
    refine ng_get hx hb hts hown hK hH 0 (by decide) rfl rfl inlX4 19 (by decide) mw_261 rfl dX4_wholes_22 ?_
    subst hQ
    exact ng_iret hx hb hr hlk (congrArg Prod.fst (Option.some.inj hg)) (congrArg Prod.snd (Option.some.inj hg)) hH dX4_wholes_25
  · replace hg := ob_f c1 hg
    refine lv_iconst (v := (0 : Int32)) hx hb dX4_wholes_8 (by decide) ?_
    subst hQ
    exact ng_iret hx hb hr hlk (congrArg Prod.fst (Option.some.inj hg)) (congrArg Prod.snd (Option.some.inj hg)) hH dX4_wholes_9
set_option maxHeartbeats 8000000 in
set_option maxRecDepth 100000 in
theorem cM_whole (l : Launch) (D : va_G) (cI cZ cA : ClassId) (h : Nat → Nat) (hi : nInj 14 h) (p1 p2 : Int32) (σ : nS) (q : Int32 × nS) (hg : gM_whole p1 p2 σ = some q) : nMi l yX4_whole cX4_whole 3 (some .int) 16 D cI cZ cA 14 (cfM cI cZ h) h [.ref (h 0), .int p1, .int p2] σ q.1 q.2 := by
  unfold gM_whole at hg
  refine ng_body_i (by decide) hi (Nat.le_of_ble_eq_true rfl) ?_
  intro p e R s m args below meth c sz Q ls hx hb hml hr hlk hts hown hK hR hQ hl hH
  have hown : s.vm.findClass RX4 = some m.cls := hown
  have hl : lv_has ls 3 [(0, .ref (h 0)), (1, .int p1), (2, .int p2)] := hl
  refine lv_aload_n hx hb dX4_whole_0 rfl (lv_at hl 0 rfl) ?_
  refine ng_get hx hb hts hown hK hH 0 (by decide) rfl rfl inlX4 2 (by decide) mw_92 rfl dX4_whole_1 ?_
  refine lv_iconst (v := (2 : Int32)) hx hb dX4_whole_4 (by decide) ?_
  refine lv_icmp_lt (tgt := 20) hx hb dX4_whole_5 (by decide) (fun c1 => ?_) (fun c1 => ?_)
  · replace hg := ob_t c1 hg
    refine lv_iconst (v := (-1 : Int32)) hx hb dX4_whole_20 (by decide) ?_
    subst hQ
    exact ng_iret hx hb hr hlk (congrArg Prod.fst (Option.some.inj hg)) (congrArg Prod.snd (Option.some.inj hg)) hH dX4_whole_21
  · replace hg := ob_f c1 hg
    refine lv_iload_n hx hb dX4_whole_8 rfl (lv_at hl 1 rfl) ?_
    refine lv_if_lt (tgt := 20) hx hb dX4_whole_9 (by decide) (fun c2 => ?_) (fun c2 => ?_)
    · replace hg := ob_t c2 hg
      refine lv_iconst (v := (-1 : Int32)) hx hb dX4_whole_20 (by decide) ?_
      subst hQ
      exact ng_iret hx hb hr hlk (congrArg Prod.fst (Option.some.inj hg)) (congrArg Prod.snd (Option.some.inj hg)) hH dX4_whole_21
    · replace hg := ob_f c2 hg
      refine lv_aload_n hx hb dX4_whole_12 rfl (lv_at hl 0 rfl) ?_
      refine lv_iload_n hx hb dX4_whole_13 rfl (lv_at hl 2 rfl) ?_
      obtain ⟨q3, hc4, hg⟩ := ob_b hg
      refine ng_ci (ng_rV hx hb hml hown hts hK hH (As := [.int p2]) (rest := []) 0 (cM_isPost l D cI cZ cA h hi p2 σ q3 hc4 _) (by decide) rfl rfl mw_117 mw_118 mw_119 mw_5 mw_120 pdX4_isPost ⟨by rw [hR]; show _ ≤ _; simp only [nRm]; omega, by rw [hR]; show _ ≤ _; simp only [nRm]; omega⟩ hl.1 rfl (Nat.le_of_ble_eq_true rfl) dX4_whole_14 ⟨Nat.zero_le _, Nat.zero_le _⟩) hH (fun H locs hH => ?_)
      refine lv_if_ne (tgt := 22) hx hb dX4_whole_17 (by decide) (fun c5 => ?_) (fun c5 => ?_)
      · replace hg := ob_f c5 hg
        refine lv_aload_n hx hb dX4_whole_22 rfl (lv_at hl 0 rfl) ?_
        refine lv_iconst (v := (2 : Int32)) hx hb dX4_whole_23 (by decide) ?_
        refine ng_put hx hb hts hown hK hH 0 (by decide) rfl rfl inlX4 tyX4 tyX4_ok nmX4 17 (by decide) mw_274 rfl (by decide +kernel) (Nat.le_of_ble_eq_true rfl) rfl dX4_whole_24 (fun H locs hH => ?_)
        refine lv_aload_n hx hb dX4_whole_27 rfl (lv_at hl 0 rfl) ?_
        refine lv_iconst (v := (3 : Int32)) hx hb dX4_whole_28 (by decide) ?_
        refine lv_iload_n hx hb dX4_whole_29 rfl (lv_at hl 1 rfl) ?_
        obtain ⟨q6, hc7, hg⟩ := ob_b hg
        refine ng_cv (ng_rV hx hb hml hown hts hK hH (As := [.int (3 : Int32), .int p1]) (rest := []) 0 (cM_goesThrough l D cI cZ cA h hi (3 : Int32) p1 (nst σ 0 17 (2 : Int32)) q6 hc7 _) (by decide) rfl rfl mw_254 mw_255 mw_256 mw_5 mw_257 pdX4_goesThrough ⟨by rw [hR]; show _ ≤ _; simp only [nRm]; omega, by rw [hR]; show _ ≤ _; simp only [nRm]; omega⟩ hl.1 rfl (Nat.le_of_ble_eq_true rfl) dX4_whole_30 ⟨Nat.zero_le _, Nat.zero_le _⟩) hH (fun H locs hH => ?_)
        refine lv_iload_n hx hb dX4_whole_33 rfl (lv_at hl 1 rfl) ?_
        refine lv_aload_n hx hb dX4_whole_34 rfl (lv_at hl 0 rfl) ?_
        refine ng_get hx hb hts hown hK hH 0 (by decide) rfl rfl inlX4 19 (by decide) mw_261 rfl dX4_whole_35 ?_
        refine lv_icmp_ge (tgt := 50) hx hb dX4_whole_38 (by decide) (fun c8 => ?_) (fun c8 => ?_)
        · replace hg := ob_t c8 hg
          refine lv_iconst (v := (-1 : Int32)) hx hb dX4_whole_50 (by decide) ?_
          subst hQ
          exact ng_iret hx hb hr hlk (congrArg Prod.fst (Option.some.inj hg)) (congrArg Prod.snd (Option.some.inj hg)) hH dX4_whole_51
        · replace hg := ob_f c8 hg
          refine lv_aload_n hx hb dX4_whole_41 rfl (lv_at hl 0 rfl) ?_
          refine ng_get hx hb hts hown hK hH 0 (by decide) rfl rfl inlX4 13 (by decide) mw_77 rfl dX4_whole_42 ?_
          refine lv_iload_n hx hb dX4_whole_45 rfl (lv_at hl 2 rfl) ?_
          obtain ⟨hb9, hg⟩ := ob_i hg
          refine ng_iald hx hb hK hH 11 (by decide) (fun _ => rfl) hb9 dX4_whole_46 ?_
          refine lv_goto (tgt := 51) hx hb dX4_whole_47 (by decide) ?_
          subst hQ
          exact ng_iret hx hb hr hlk (congrArg Prod.fst (Option.some.inj hg)) (congrArg Prod.snd (Option.some.inj hg)) hH dX4_whole_51
      · replace hg := ob_t c5 hg
        refine lv_iconst (v := (-1 : Int32)) hx hb dX4_whole_20 (by decide) ?_
        subst hQ
        exact ng_iret hx hb hr hlk (congrArg Prod.fst (Option.some.inj hg)) (congrArg Prod.snd (Option.some.inj hg)) hH dX4_whole_21
set_option maxHeartbeats 8000000 in
set_option maxRecDepth 100000 in
theorem cM_regret (l : Launch) (D : va_G) (cI cZ cA : ClassId) (h : Nat → Nat) (hi : nInj 14 h) (σ : nS) (q : Int32 × nS) (hg : gM_regret σ = some q) : nMi l yX4_regret cX4_regret 1 (some .int) 17 D cI cZ cA 14 (cfM cI cZ h) h [.ref (h 0)] σ q.1 q.2 := by
  unfold gM_regret at hg
  refine ng_body_i (by decide) hi (Nat.le_of_ble_eq_true rfl) ?_
  intro p e R s m args below meth c sz Q ls hx hb hml hr hlk hts hown hK hR hQ hl hH
  have hown : s.vm.findClass RX4 = some m.cls := hown
  have hl : lv_has ls 1 [(0, .ref (h 0))] := hl
  refine lv_aload_n hx hb dX4_regret_0 rfl (lv_at hl 0 rfl) ?_
  refine lv_iconst (v := (4 : Int32)) hx hb dX4_regret_1 (by decide) ?_
  obtain ⟨q1, hc2, hg⟩ := ob_b hg
  refine ng_ci (ng_rV hx hb hml hown hts hK hH (As := [.int (4 : Int32)]) (rest := []) 0 (cM_told l D cI cZ cA h hi (4 : Int32) σ q1 hc2 _) (by decide) rfl rfl mw_304 mw_305 mw_306 mw_5 mw_307 pdX4_told ⟨by rw [hR]; show _ ≤ _; simp only [nRm]; omega, by rw [hR]; show _ ≤ _; simp only [nRm]; omega⟩ hl.1 rfl (Nat.le_of_ble_eq_true rfl) dX4_regret_2 ⟨Nat.zero_le _, Nat.zero_le _⟩) hH (fun H locs hH => ?_)
  subst hQ
  exact ng_iret hx hb hr hlk (congrArg Prod.fst (Option.some.inj hg)) (congrArg Prod.snd (Option.some.inj hg)) hH dX4_regret_5
set_option maxHeartbeats 8000000 in
set_option maxRecDepth 100000 in
theorem cM_regretPart (l : Launch) (D : va_G) (cI cZ cA : ClassId) (h : Nat → Nat) (hi : nInj 14 h) (p1 : Int32) (σ : nS) (q : Int32 × nS) (hg : gM_regretPart p1 σ = some q) : nMi l yX4_regretPart cX4_regretPart 2 (some .int) 17 D cI cZ cA 14 (cfM cI cZ h) h [.ref (h 0), .int p1] σ q.1 q.2 := by
  unfold gM_regretPart at hg
  refine ng_body_i (by decide) hi (Nat.le_of_ble_eq_true rfl) ?_
  intro p e R s m args below meth c sz Q ls hx hb hml hr hlk hts hown hK hR hQ hl hH
  have hown : s.vm.findClass RX4 = some m.cls := hown
  have hl : lv_has ls 2 [(0, .ref (h 0)), (1, .int p1)] := hl
  refine lv_aload_n hx hb dX4_regretPart_0 rfl (lv_at hl 0 rfl) ?_
  refine lv_iconst (v := (4 : Int32)) hx hb dX4_regretPart_1 (by decide) ?_
  refine lv_iload_n hx hb dX4_regretPart_2 rfl (lv_at hl 1 rfl) ?_
  obtain ⟨q1, hc2, hg⟩ := ob_b hg
  refine ng_ci (ng_rV hx hb hml hown hts hK hH (As := [.int (4 : Int32), .int p1]) (rest := []) 0 (cM_toldPart l D cI cZ cA h hi (4 : Int32) p1 σ q1 hc2 _) (by decide) rfl rfl mw_316 mw_317 mw_318 mw_5 mw_319 pdX4_toldPart ⟨by rw [hR]; show _ ≤ _; simp only [nRm]; omega, by rw [hR]; show _ ≤ _; simp only [nRm]; omega⟩ hl.1 rfl (Nat.le_of_ble_eq_true rfl) dX4_regretPart_3 ⟨Nat.zero_le _, Nat.zero_le _⟩) hH (fun H locs hH => ?_)
  subst hQ
  exact ng_iret hx hb hr hlk (congrArg Prod.fst (Option.some.inj hg)) (congrArg Prod.snd (Option.some.inj hg)) hH dX4_regretPart_6
set_option maxHeartbeats 8000000 in
set_option maxRecDepth 100000 in
theorem cM_reaches (l : Launch) (D : va_G) (cI cZ cA : ClassId) (h : Nat → Nat) (hi : nInj 14 h) (p1 p2 p3 : Int32) (σ : nS) (q : nS) (hg : gM_reaches p1 p2 p3 σ = some q) : nMv l yX4_reaches cX4_reaches 6 none 1 D cI cZ cA 14 (cfM cI cZ h) h [.ref (h 0), .int p1, .int p2, .int p3] σ q := by
  unfold gM_reaches at hg
  refine ng_body_v (by decide) hi (Nat.le_of_ble_eq_true rfl) ?_
  intro p e R s m args below meth c sz Q ls hx hb hml hr hlk hts hown hK hR hQ hl hH
  have hown : s.vm.findClass RX4 = some m.cls := hown
  have hl : lv_has ls 6 [(0, .ref (h 0)), (1, .int p1), (2, .int p2), (3, .int p3)] := hl
  refine lv_iconst (v := (0 : Int32)) hx hb dX4_reaches_0 (by decide) ?_
  refine lv_istore (lv' := [(4, .int (0 : Int32)), (0, .ref (h 0)), (1, .int p1), (2, .int p2), (3, .int p3)]) hx hb dX4_reaches_1 hl (by decide) rfl (fun ls hl => ?_)
  have LP_3 : ∀ (K_3 : nS → Option nS) (kk_3 : ∀ (σe_3 : nS) (H : Heap) (locs : List Loc) (ls : Array Slot), K_3 σe_3 = some q → nH D 14 (cfM cI cZ h) h (nAd 14 h sz) s.heap σe_3 H locs → lv_has ls 6 [(0, .ref (h 0)), (2, .int p2), (3, .int p3)] → W p l e R s m args below meth c H locs 0 0 Q (F0 m 36 ls [])) (n : Nat) (v4_3 : Int32) (σl_3 : nS) (H : Heap) (locs : List Loc) (ls : Array Slot), gM_reaches_L3 p1 p2 p3 K_3 n v4_3 σl_3 = some q → nH D 14 (cfM cI cZ h) h (nAd 14 h sz) s.heap σl_3 H locs → lv_has ls 6 [(0, .ref (h 0)), (1, .int p1), (2, .int p2), (3, .int p3), (4, .int v4_3)] → W p l e R s m args below meth c H locs 0 0 Q (F0 m 3 ls []) := by
    intro K_3 kk_3 n
    induction n with
    | zero => intro v4_3 σl_3 H locs ls hg hH hl; rw [gM_reaches_L3] at hg; exact ob_n hg
    | succ n ih_3 =>
      intro v4_3 σl_3 H locs ls hg hH hl
      rw [gM_reaches_L3] at hg
      refine lv_iload hx hb dX4_reaches_3 (lv_at hl 4 rfl) ?_
      refine lv_aload_n hx hb dX4_reaches_5 rfl (lv_at hl 0 rfl) ?_
      refine ng_get hx hb hts hown hK hH 0 (by decide) rfl rfl inlX4 2 (by decide) mw_92 rfl dX4_reaches_6 ?_
      refine lv_icmp_ge (tgt := 36) hx hb dX4_reaches_9 (by decide) (fun c19 => ?_) (fun c19 => ?_)
      · replace hg := ob_t c19 hg
        exact kk_3 σl_3 H locs ls hg hH (lv_sub hl [0, 2, 3] rfl)
      · replace hg := ob_f c19 hg
        refine lv_aload_n hx hb dX4_reaches_12 rfl (lv_at hl 0 rfl) ?_
        refine ng_get hx hb hts hown hK hH 0 (by decide) rfl rfl inlX4 22 (by decide) mw_79 rfl dX4_reaches_13 ?_
        refine lv_iload hx hb dX4_reaches_16 (lv_at hl 4 rfl) ?_
        refine lv_iload hx hb dX4_reaches_18 (lv_at hl 4 rfl) ?_
        refine lv_iload_n hx hb dX4_reaches_20 rfl (lv_at hl 1 rfl) ?_
        refine lv_icmp_ne (tgt := 28) hx hb dX4_reaches_21 (by decide) (fun c20 => ?_) (fun c20 => ?_)
        · replace hg := ob_f c20 hg
          refine lv_iconst (v := (0 : Int32)) hx hb dX4_reaches_28 (by decide) ?_
          obtain ⟨hb21, hg⟩ := ob_i hg
          refine ng_zast hx hb hK hH 13 (by decide) (fun _ => rfl) hb21 dX4_reaches_29 (fun H locs hH => ?_)
          refine lv_iinc (v := (v4_3 + 1)) (lv' := [(4, .int (v4_3 + 1)), (0, .ref (h 0)), (1, .int p1), (2, .int p2), (3, .int p3)]) hx hb dX4_reaches_30 hl (k := 4) rfl rfl (by decide) rfl (fun ls hl => ?_)
          refine lv_goto (tgt := 3) hx hb dX4_reaches_33 (by decide) ?_
          exact ih_3 (v4_3 + 1) (nst σl_3 13 v4_3.toNatClampNeg ((0 : Int32) &&& 1)) H locs ls hg hH (lv_sub hl [1, 2, 3, 4, 0] rfl)
        · replace hg := ob_t c20 hg
          refine lv_iconst (v := (1 : Int32)) hx hb dX4_reaches_24 (by decide) ?_
          refine lv_goto (tgt := 29) hx hb dX4_reaches_25 (by decide) ?_
          obtain ⟨hb22, hg⟩ := ob_i hg
          refine ng_zast hx hb hK hH 13 (by decide) (fun _ => rfl) hb22 dX4_reaches_29 (fun H locs hH => ?_)
          refine lv_iinc (v := (v4_3 + 1)) (lv' := [(4, .int (v4_3 + 1)), (0, .ref (h 0)), (1, .int p1), (2, .int p2), (3, .int p3)]) hx hb dX4_reaches_30 hl (k := 4) rfl rfl (by decide) rfl (fun ls hl => ?_)
          refine lv_goto (tgt := 3) hx hb dX4_reaches_33 (by decide) ?_
          exact ih_3 (v4_3 + 1) (nst σl_3 13 v4_3.toNatClampNeg ((1 : Int32) &&& 1)) H locs ls hg hH (lv_sub hl [1, 2, 3, 4, 0] rfl)
  refine LP_3 _ ?_ _ _ _ _ _ _ hg hH (lv_sub hl [1, 2, 3, 4, 0] rfl)
  intro σe_3 H locs ls hg hH hl
  refine lv_iconst (v := (1 : Int32)) hx hb dX4_reaches_36 (by decide) ?_
  refine lv_istore (lv' := [(4, .int (1 : Int32)), (0, .ref (h 0)), (2, .int p2), (3, .int p3)]) hx hb dX4_reaches_37 hl (by decide) rfl (fun ls hl => ?_)
  have LP_39 : ∀ (K_39 : nS → Option nS) (kk_39 : ∀ (σe_39 : nS) (H : Heap) (locs : List Loc) (ls : Array Slot), K_39 σe_39 = some q → nH D 14 (cfM cI cZ h) h (nAd 14 h sz) s.heap σe_39 H locs → lv_has ls 6 [] → W p l e R s m args below meth c H locs 0 0 Q (F0 m 173 ls [])) (n : Nat) (v4_39 : Int32) (σl_39 : nS) (H : Heap) (locs : List Loc) (ls : Array Slot), gM_reaches_L39 p2 p3 K_39 n v4_39 σl_39 = some q → nH D 14 (cfM cI cZ h) h (nAd 14 h sz) s.heap σl_39 H locs → lv_has ls 6 [(0, .ref (h 0)), (2, .int p2), (3, .int p3), (4, .int v4_39)] → W p l e R s m args below meth c H locs 0 0 Q (F0 m 39 ls []) := by
    intro K_39 kk_39 n
    induction n with
    | zero => intro v4_39 σl_39 H locs ls hg hH hl; rw [gM_reaches_L39] at hg; exact ob_n hg
    | succ n ih_39 =>
      intro v4_39 σl_39 H locs ls hg hH hl
      rw [gM_reaches_L39] at hg
      refine lv_iload hx hb dX4_reaches_39 (lv_at hl 3 rfl) ?_
      refine lv_if_eq (tgt := 173) hx hb dX4_reaches_41 (by decide) (fun c1 => ?_) (fun c1 => ?_)
      · replace hg := ob_t c1 hg
        exact kk_39 σl_39 H locs ls hg hH (lv_sub hl [] rfl)
      · replace hg := ob_f c1 hg
        refine lv_iconst (v := (0 : Int32)) hx hb dX4_reaches_44 (by decide) ?_
        refine lv_istore (lv' := [(4, .int (0 : Int32)), (0, .ref (h 0)), (2, .int p2), (3, .int p3)]) hx hb dX4_reaches_45 hl (by decide) rfl (fun ls hl => ?_)
        refine lv_iconst (v := (0 : Int32)) hx hb dX4_reaches_47 (by decide) ?_
        refine lv_istore (lv' := [(5, .int (0 : Int32)), (4, .int (0 : Int32)), (0, .ref (h 0)), (2, .int p2), (3, .int p3)]) hx hb dX4_reaches_48 hl (by decide) rfl (fun ls hl => ?_)
        have LP_50 : ∀ (K_50 : Int32 → nS → Option nS) (kk_50 : ∀ (w4_50 : Int32) (σe_50 : nS) (H : Heap) (locs : List Loc) (ls : Array Slot), K_50 w4_50 σe_50 = some q → nH D 14 (cfM cI cZ h) h (nAd 14 h sz) s.heap σe_50 H locs → lv_has ls 6 [(0, .ref (h 0)), (2, .int p2), (3, .int p3), (4, .int w4_50)] → W p l e R s m args below meth c H locs 0 0 Q (F0 m 170 ls [])) (n : Nat) (v4_50 v5_50 : Int32) (σl_50 : nS) (H : Heap) (locs : List Loc) (ls : Array Slot), gM_reaches_L50 p2 p3 K_50 n v4_50 v5_50 σl_50 = some q → nH D 14 (cfM cI cZ h) h (nAd 14 h sz) s.heap σl_50 H locs → lv_has ls 6 [(0, .ref (h 0)), (2, .int p2), (3, .int p3), (4, .int v4_50), (5, .int v5_50)] → W p l e R s m args below meth c H locs 0 0 Q (F0 m 50 ls []) := by
          intro K_50 kk_50 n
          induction n with
          | zero => intro v4_50 v5_50 σl_50 H locs ls hg hH hl; rw [gM_reaches_L50] at hg; exact ob_n hg
          | succ n ih_50 =>
            intro v4_50 v5_50 σl_50 H locs ls hg hH hl
            rw [gM_reaches_L50] at hg
            refine lv_iload hx hb dX4_reaches_50 (lv_at hl 4 rfl) ?_
            refine lv_aload_n hx hb dX4_reaches_52 rfl (lv_at hl 0 rfl) ?_
            refine ng_get hx hb hts hown hK hH 0 (by decide) rfl rfl inlX4 8 (by decide) mw_116 rfl dX4_reaches_53 ?_
            refine lv_icmp_ge (tgt := 170) hx hb dX4_reaches_56 (by decide) (fun c2 => ?_) (fun c2 => ?_)
            · replace hg := ob_t c2 hg
              exact kk_50 v4_50 σl_50 H locs ls hg hH (lv_sub hl [0, 1, 2, 3] rfl)
            · replace hg := ob_f c2 hg
              refine lv_aload_n hx hb dX4_reaches_59 rfl (lv_at hl 0 rfl) ?_
              refine ng_get hx hb hts hown hK hH 0 (by decide) rfl rfl inlX4 7 (by decide) mw_73 rfl dX4_reaches_60 ?_
              refine lv_iload hx hb dX4_reaches_63 (lv_at hl 4 rfl) ?_
              obtain ⟨hb3, hg⟩ := ob_i hg
              refine ng_zald hx hb hK hH 7 (by decide) (fun _ => rfl) hb3 dX4_reaches_65 ?_
              refine lv_if_ne (tgt := 164) hx hb dX4_reaches_66 (by decide) (fun c4 => ?_) (fun c4 => ?_)
              · replace hg := ob_f c4 hg
                refine lv_iinc (v := (v5_50 + 1)) (lv' := [(5, .int (v5_50 + 1)), (0, .ref (h 0)), (2, .int p2), (3, .int p3), (4, .int v4_50)]) hx hb dX4_reaches_164 hl (k := 4) rfl rfl (by decide) rfl (fun ls hl => ?_)
                refine lv_goto (tgt := 50) hx hb dX4_reaches_167 (by decide) ?_
                exact ih_50 v4_50 (v5_50 + 1) σl_50 H locs ls hg hH (lv_sub hl [1, 2, 3, 4, 0] rfl)
              · replace hg := ob_t c4 hg
                refine lv_iload hx hb dX4_reaches_69 (lv_at hl 4 rfl) ?_
                refine lv_iload_n hx hb dX4_reaches_71 rfl (lv_at hl 2 rfl) ?_
                refine lv_icmp_eq (tgt := 164) hx hb dX4_reaches_72 (by decide) (fun c5 => ?_) (fun c5 => ?_)
                · replace hg := ob_t c5 hg
                  refine lv_iinc (v := (v5_50 + 1)) (lv' := [(5, .int (v5_50 + 1)), (0, .ref (h 0)), (2, .int p2), (3, .int p3), (4, .int v4_50)]) hx hb dX4_reaches_164 hl (k := 4) rfl rfl (by decide) rfl (fun ls hl => ?_)
                  refine lv_goto (tgt := 50) hx hb dX4_reaches_167 (by decide) ?_
                  exact ih_50 v4_50 (v5_50 + 1) σl_50 H locs ls hg hH (lv_sub hl [1, 2, 3, 4, 0] rfl)
                · replace hg := ob_f c5 hg
                  refine lv_iload_n hx hb dX4_reaches_75 rfl (lv_at hl 1 rfl) ?_
                  refine lv_aload_n hx hb dX4_reaches_76 rfl (lv_at hl 0 rfl) ?_
                  refine ng_get hx hb hts hown hK hH 0 (by decide) rfl rfl inlX4 3 (by decide) mw_69 rfl dX4_reaches_77 ?_
                  refine lv_iload hx hb dX4_reaches_80 (lv_at hl 4 rfl) ?_
                  obtain ⟨hb6, hg⟩ := ob_i hg
                  refine ng_iald hx hb hK hH 3 (by decide) (fun _ => rfl) hb6 dX4_reaches_82 ?_
                  refine lv_ishr hx hb dX4_reaches_83 ?_
                  refine lv_iconst (v := (1 : Int32)) hx hb dX4_reaches_84 (by decide) ?_
                  refine lv_iand hx hb dX4_reaches_85 ?_
                  refine lv_iconst (v := (1 : Int32)) hx hb dX4_reaches_86 (by decide) ?_
                  refine lv_icmp_eq (tgt := 164) hx hb dX4_reaches_87 (by decide) (fun c7 => ?_) (fun c7 => ?_)
                  · replace hg := ob_t c7 hg
                    refine lv_iinc (v := (v5_50 + 1)) (lv' := [(5, .int (v5_50 + 1)), (0, .ref (h 0)), (2, .int p2), (3, .int p3), (4, .int v4_50)]) hx hb dX4_reaches_164 hl (k := 4) rfl rfl (by decide) rfl (fun ls hl => ?_)
                    refine lv_goto (tgt := 50) hx hb dX4_reaches_167 (by decide) ?_
                    exact ih_50 v4_50 (v5_50 + 1) σl_50 H locs ls hg hH (lv_sub hl [1, 2, 3, 4, 0] rfl)
                  · replace hg := ob_f c7 hg
                    refine lv_iload_n hx hb dX4_reaches_90 rfl (lv_at hl 1 rfl) ?_
                    refine lv_aload_n hx hb dX4_reaches_91 rfl (lv_at hl 0 rfl) ?_
                    refine ng_get hx hb hts hown hK hH 0 (by decide) rfl rfl inlX4 4 (by decide) mw_70 rfl dX4_reaches_92 ?_
                    refine lv_iload hx hb dX4_reaches_95 (lv_at hl 4 rfl) ?_
                    obtain ⟨hb8, hg⟩ := ob_i hg
                    refine ng_iald hx hb hK hH 4 (by decide) (fun _ => rfl) hb8 dX4_reaches_97 ?_
                    refine lv_ishr hx hb dX4_reaches_98 ?_
                    refine lv_iconst (v := (1 : Int32)) hx hb dX4_reaches_99 (by decide) ?_
                    refine lv_iand hx hb dX4_reaches_100 ?_
                    refine lv_iconst (v := (1 : Int32)) hx hb dX4_reaches_101 (by decide) ?_
                    refine lv_icmp_eq (tgt := 164) hx hb dX4_reaches_102 (by decide) (fun c9 => ?_) (fun c9 => ?_)
                    · replace hg := ob_t c9 hg
                      refine lv_iinc (v := (v5_50 + 1)) (lv' := [(5, .int (v5_50 + 1)), (0, .ref (h 0)), (2, .int p2), (3, .int p3), (4, .int v4_50)]) hx hb dX4_reaches_164 hl (k := 4) rfl rfl (by decide) rfl (fun ls hl => ?_)
                      refine lv_goto (tgt := 50) hx hb dX4_reaches_167 (by decide) ?_
                      exact ih_50 v4_50 (v5_50 + 1) σl_50 H locs ls hg hH (lv_sub hl [1, 2, 3, 4, 0] rfl)
                    · replace hg := ob_f c9 hg
                      refine lv_aload_n hx hb dX4_reaches_105 rfl (lv_at hl 0 rfl) ?_
                      refine ng_get hx hb hts hown hK hH 0 (by decide) rfl rfl inlX4 22 (by decide) mw_79 rfl dX4_reaches_106 ?_
                      refine lv_aload_n hx hb dX4_reaches_109 rfl (lv_at hl 0 rfl) ?_
                      refine ng_get hx hb hts hown hK hH 0 (by decide) rfl rfl inlX4 3 (by decide) mw_69 rfl dX4_reaches_110 ?_
                      refine lv_iload hx hb dX4_reaches_113 (lv_at hl 4 rfl) ?_
                      obtain ⟨hb10, hg⟩ := ob_i hg
                      refine ng_iald hx hb hK hH 3 (by decide) (fun _ => rfl) hb10 dX4_reaches_115 ?_
                      obtain ⟨hb11, hg⟩ := ob_i hg
                      refine ng_zald hx hb hK hH 13 (by decide) (fun _ => rfl) hb11 dX4_reaches_116 ?_
                      refine lv_aload_n hx hb dX4_reaches_117 rfl (lv_at hl 0 rfl) ?_
                      refine ng_get hx hb hts hown hK hH 0 (by decide) rfl rfl inlX4 22 (by decide) mw_79 rfl dX4_reaches_118 ?_
                      refine lv_aload_n hx hb dX4_reaches_121 rfl (lv_at hl 0 rfl) ?_
                      refine ng_get hx hb hts hown hK hH 0 (by decide) rfl rfl inlX4 4 (by decide) mw_70 rfl dX4_reaches_122 ?_
                      refine lv_iload hx hb dX4_reaches_125 (lv_at hl 4 rfl) ?_
                      obtain ⟨hb12, hg⟩ := ob_i hg
                      refine ng_iald hx hb hK hH 4 (by decide) (fun _ => rfl) hb12 dX4_reaches_127 ?_
                      obtain ⟨hb13, hg⟩ := ob_i hg
                      refine ng_zald hx hb hK hH 13 (by decide) (fun _ => rfl) hb13 dX4_reaches_128 ?_
                      refine lv_icmp_ne (tgt := 135) hx hb dX4_reaches_129 (by decide) (fun c14 => ?_) (fun c14 => ?_)
                      · replace hg := ob_f c14 hg
                        refine lv_aload_n hx hb dX4_reaches_135 rfl (lv_at hl 0 rfl) ?_
                        refine ng_get hx hb hts hown hK hH 0 (by decide) rfl rfl inlX4 22 (by decide) mw_79 rfl dX4_reaches_136 ?_
                        refine lv_aload_n hx hb dX4_reaches_139 rfl (lv_at hl 0 rfl) ?_
                        refine ng_get hx hb hts hown hK hH 0 (by decide) rfl rfl inlX4 3 (by decide) mw_69 rfl dX4_reaches_140 ?_
                        refine lv_iload hx hb dX4_reaches_143 (lv_at hl 4 rfl) ?_
                        obtain ⟨hb15, hg⟩ := ob_i hg
                        refine ng_iald hx hb hK hH 3 (by decide) (fun _ => rfl) hb15 dX4_reaches_145 ?_
                        refine lv_iconst (v := (1 : Int32)) hx hb dX4_reaches_146 (by decide) ?_
                        obtain ⟨hb16, hg⟩ := ob_i hg
                        refine ng_zast hx hb hK hH 13 (by decide) (fun _ => rfl) hb16 dX4_reaches_147 (fun H locs hH => ?_)
                        refine lv_aload_n hx hb dX4_reaches_148 rfl (lv_at hl 0 rfl) ?_
                        refine ng_get hx hb hts hown hK hH 0 (by decide) rfl rfl inlX4 22 (by decide) mw_79 rfl dX4_reaches_149 ?_
                        refine lv_aload_n hx hb dX4_reaches_152 rfl (lv_at hl 0 rfl) ?_
                        refine ng_get hx hb hts hown hK hH 0 (by decide) rfl rfl inlX4 4 (by decide) mw_70 rfl dX4_reaches_153 ?_
                        refine lv_iload hx hb dX4_reaches_156 (lv_at hl 4 rfl) ?_
                        obtain ⟨hb17, hg⟩ := ob_i hg
                        refine ng_iald hx hb hK hH 4 (by decide) (fun _ => rfl) hb17 dX4_reaches_158 ?_
                        refine lv_iconst (v := (1 : Int32)) hx hb dX4_reaches_159 (by decide) ?_
                        obtain ⟨hb18, hg⟩ := ob_i hg
                        refine ng_zast hx hb hK hH 13 (by decide) (fun _ => rfl) hb18 dX4_reaches_160 (fun H locs hH => ?_)
                        refine lv_iconst (v := (1 : Int32)) hx hb dX4_reaches_161 (by decide) ?_
                        refine lv_istore (lv' := [(4, .int (1 : Int32)), (0, .ref (h 0)), (2, .int p2), (3, .int p3), (5, .int v5_50)]) hx hb dX4_reaches_162 hl (by decide) rfl (fun ls hl => ?_)
                        refine lv_iinc (v := (v5_50 + 1)) (lv' := [(5, .int (v5_50 + 1)), (4, .int (1 : Int32)), (0, .ref (h 0)), (2, .int p2), (3, .int p3)]) hx hb dX4_reaches_164 hl (k := 4) rfl rfl (by decide) rfl (fun ls hl => ?_)
                        refine lv_goto (tgt := 50) hx hb dX4_reaches_167 (by decide) ?_
                        exact ih_50 (1 : Int32) (v5_50 + 1) (nst (nst σl_50 13 (σl_50 3 v5_50.toNatClampNeg).toNatClampNeg ((1 : Int32) &&& 1)) 13 ((nst σl_50 13 (σl_50 3 v5_50.toNatClampNeg).toNatClampNeg ((1 : Int32) &&& 1)) 4 v5_50.toNatClampNeg).toNatClampNeg ((1 : Int32) &&& 1)) H locs ls hg hH (lv_sub hl [2, 3, 4, 1, 0] rfl)
                      · replace hg := ob_t c14 hg
                        refine lv_goto (tgt := 164) hx hb dX4_reaches_132 (by decide) ?_
                        refine lv_iinc (v := (v5_50 + 1)) (lv' := [(5, .int (v5_50 + 1)), (0, .ref (h 0)), (2, .int p2), (3, .int p3), (4, .int v4_50)]) hx hb dX4_reaches_164 hl (k := 4) rfl rfl (by decide) rfl (fun ls hl => ?_)
                        refine lv_goto (tgt := 50) hx hb dX4_reaches_167 (by decide) ?_
                        exact ih_50 v4_50 (v5_50 + 1) σl_50 H locs ls hg hH (lv_sub hl [1, 2, 3, 4, 0] rfl)
        refine LP_50 _ ?_ _ _ _ _ _ _ _ hg hH (lv_sub hl [2, 3, 4, 1, 0] rfl)
        intro w4_50 σe_50 H locs ls hg hH hl
        refine lv_goto (tgt := 39) hx hb dX4_reaches_170 (by decide) ?_
        exact ih_39 w4_50 σe_50 H locs ls hg hH (lv_sub hl [0, 1, 2, 3] rfl)
  refine LP_39 _ ?_ _ _ _ _ _ _ hg hH (lv_sub hl [1, 2, 3, 0] rfl)
  intro σe_39 H locs ls hg hH hl
  subst hQ
  exact ng_vret hx hb hr hlk (Option.some.inj hg) hH dX4_reaches_173
