/-! prices of heaps -/
def prS (t : Nt) (x : Int32) : Nat → Nat
  | 0 => 0
  | i + 1 => prS t x i + (if bt x i then tPr t i else 0)
theorem prS_le {t : Nt} (O : NtOK t) (x : Int32) : ∀ i, i ≤ tN t → prS t x i ≤ 99 * i := by
  intro i
  induction i with
  | zero => intro _; simp [prS]
  | succ i ih =>
    intro h
    have h1 := ih (by omega)
    have h2 := O.2.2.2.1 i (by omega)
    rw [prS]
    split <;> omega
theorem p_priceL {t : Nt} (O : NtOK t) {σ : nS} (hC : RC σ t) (x : Int32) (K : Int32 → Option Int32) : ∀ (n i : Nat), i ≤ tN t → tN t < i + n → gN_priceOfHeap_L4 x σ K n (nI (prS t x i)) (nI i) = K (nI (prS t x (tN t))) := by
  have hN := O.1
  intro n
  induction n with
  | zero => intro i h1 h2; omega
  | succ n ih =>
    intro i h1 h2
    by_cases e : i = tN t
    · subst e
      rw [gN_priceOfHeap_L4, hC.1, if_pos (nI_le (Nat.le_refl _) (by omega))]
    · rw [gN_priceOfHeap_L4, hC.1, if_neg (nI_ge (by omega) (by omega)), p_holds _ (by omega), ← ih (i + 1) (by omega) (by omega), nI_1, prS, z_cl (by omega), hC.2.2.2.1 i (by omega)]
      simp only [Option.bind_some]
      cases e : bt x i with
      | false => rw [if_pos (by rfl)]; simp
      | true => rw [if_neg (by decide), if_pos ((z_in (by omega)).mpr (by omega)), nI_add]; simp
theorem p_price {t : Nt} (O : NtOK t) {σ : nS} (hC : RC σ t) (x : Int32) : gN_priceOfHeap x σ = some (nI (prS t x (tN t))) := by
  unfold gN_priceOfHeap
  exact p_priceL O hC x _ nFU 0 (by omega) (by have := O.1; unfold nFU; omega)
theorem p_hpriceL {t : Nt} (O : NtOK t) {τ : nS} (hM : RM τ t) (x : Int32) (K : Int32 → Option Int32) : ∀ (n i : Nat), i ≤ tN t → tN t < i + n → gM_heapPrice_L4 x τ K n (nI (prS t x i)) (nI i) = K (nI (prS t x (tN t))) := by
  have hN := O.1
  intro n
  induction n with
  | zero => intro i h1 h2; omega
  | succ n ih =>
    intro i h1 h2
    by_cases e : i = tN t
    · subst e
      rw [gM_heapPrice_L4, hM.1, if_pos (nI_le (Nat.le_refl _) (by omega))]
    · rw [gM_heapPrice_L4, hM.1, if_neg (nI_ge (by omega) (by omega)), ← ih (i + 1) (by omega) (by omega), nI_1, prS, z_cl (by omega), hM.2.2.2.1 i (by omega)]
      cases e : bt x i with
      | false =>
        rw [if_neg (fun h => by rw [(h_bit1 x (by omega)).mp h] at e; cases e)]
        simp
      | true =>
        rw [if_pos ((h_bit1 x (by omega)).mpr e), if_pos ((z_in (by omega)).mpr (by omega)), nI_add]
        simp
theorem p_hprice {t : Nt} (O : NtOK t) {τ : nS} (hM : RM τ t) (x : Int32) : gM_heapPrice x τ = some (nI (prS t x (tN t))) := by
  unfold gM_heapPrice
  exact p_hpriceL O hM x _ nFU 0 (by omega) (by have := O.1; unfold nFU; omega)
/-! the least heap that bars two -/
theorem z_pow : ∀ n, n < 10 → ((1 : Int32) <<< (nI n &&& 31)) = nI (2 ^ n) := by decide +kernel
/-- the best so far and its price -/
def bOK (t : Nt) (w v : Int32) : Prop := (w = -1 ∧ v = 1000000) ∨ (w ≠ -1 ∧ v = nI (prS t w (tN t)))
theorem p_barL {t : Nt} (O : NtOK t) {σ : nS} (hC : RC σ t) (hJ : ∀ i j, i < tN t → (bt (σ 8 i) j = true ↔ tE t (-1) i j)) {τ0 : nS} (hM : RM τ0 t) {a b : Nat} (ha : a < tN t) (hb : b < tN t) : ∀ (n i : Nat) (w v : Int32) (τ : nS), (∀ c, c ≠ 13 → τ c = τ0 c) → bOK t w v → i ≤ 2 ^ tN t → 2 ^ tN t < i + n →
    ∃ (w' : Int32) (τ' : nS), (∀ K, gN_barringHeap_L34 (nI a) (nI b) (tbit a ||| tbit b) σ K n w v (nI i) = K w') ∧ (∀ K, gM_barOf_L5 (nI a) (nI b) K n w (nI i) τ = K w' τ') ∧ ∀ c, c ≠ 13 → τ' c = τ0 c := by
  have hN := O.1
  have hp : 2 ^ tN t ≤ 512 := Nat.pow_le_pow_right (by decide : 0 < 2) hN
  intro n
  induction n with
  | zero => intro i w v τ _ _ h1 h2; omega
  | succ n ih =>
    intro i w v τ hs hw h1 h2
    have h6 : τ 0 2 = nI (tN t) := by rw [hs 0 (by decide)]; exact hM.1
    by_cases e : i = 2 ^ tN t
    · subst e
      refine ⟨w, τ, fun K => ?_, fun K => ?_, hs⟩
      · rw [gN_barringHeap_L34, hC.1, z_pow _ (by omega), if_pos (nI_le (Nat.le_refl _) (by omega))]
      · rw [gM_barOf_L5, h6, z_pow _ (by omega), if_pos (nI_le (Nat.le_refl _) (by omega))]
    · have hlt : i < 2 ^ tN t := by omega
      have two : ((nI i) &&& (tbit a ||| tbit b)) = 0 ↔ (bt (nI i) a = false ∧ bt (nI i) b = false) := by
        rw [h_z]
        constructor
        · intro h
          have h1 := h a (by omega)
          have h2 := h b (by omega)
          rw [b_and, b_or, tbit_b (by omega), tbit_b (by omega)] at h1 h2
          simp at h1 h2
          exact ⟨h1, h2⟩
        · rintro ⟨g1, g2⟩ j hj
          rw [b_and, b_or, tbit_b (by omega), tbit_b (by omega)]
          by_cases x1 : j = a
          · subst x1; simp [g1]
          · by_cases x2 : j = b
            · subst x2; simp [g2]
            · simp [x1, x2]
      have cstep : ∀ K, gN_barringHeap_L34 (nI a) (nI b) (tbit a ||| tbit b) σ K (n + 1) w v (nI i) = (if ((nI i) &&& (tbit a ||| tbit b)) = 0 then ((gN_priceOfHeap (nI i) σ).bind (fun q8 => (if v ≤ q8 then (gN_barringHeap_L34 (nI a) (nI b) (tbit a ||| tbit b) σ K n w v (nI (i + 1))) else ((gN_reach (nI a) (nI i) σ).bind (fun q11 => ((gC_holds q11 (nI b) σ).bind (fun q13 => (if q13 = 0 then (gN_barringHeap_L34 (nI a) (nI b) (tbit a ||| tbit b) σ K n (nI i) q8 (nI (i + 1))) else (gN_barringHeap_L34 (nI a) (nI b) (tbit a ||| tbit b) σ K n w v (nI (i + 1))))))))))) else (gN_barringHeap_L34 (nI a) (nI b) (tbit a ||| tbit b) σ K n w v (nI (i + 1)))) := fun K => by
        rw [gN_barringHeap_L34, hC.1, z_pow _ (by omega), if_neg (nI_ge hlt (by omega)), nI_1]
      by_cases f1 : bt (nI i) a = true
      · obtain ⟨w', τ', q1, q2, q3⟩ := ih (i + 1) w v τ hs hw (by omega) (by omega)
        refine ⟨w', τ', fun K => ?_, fun K => ?_, q3⟩
        · rw [cstep, if_neg (fun h => by rw [(two.mp h).1] at f1; cases f1)]; exact q1 K
        · rw [gM_barOf_L5, h6, z_pow _ (by omega), if_neg (nI_ge hlt (by omega)), if_pos ((h_bit1 _ (by omega)).mpr f1), nI_1]; exact q2 K
      · by_cases f2 : bt (nI i) b = true
        · obtain ⟨w', τ', q1, q2, q3⟩ := ih (i + 1) w v τ hs hw (by omega) (by omega)
          refine ⟨w', τ', fun K => ?_, fun K => ?_, q3⟩
          · rw [cstep, if_neg (fun h => by rw [(two.mp h).2] at f2; cases f2)]; exact q1 K
          · rw [gM_barOf_L5, h6, z_pow _ (by omega), if_neg (nI_ge hlt (by omega)), if_neg (fun h => f1 ((h_bit1 _ (by omega)).mp h)), if_pos ((h_bit1 _ (by omega)).mpr f2), nI_1]; exact q2 K
        · have g1 : bt (nI i) a = false := by simpa using f1
          have g2 : bt (nI i) b = false := by simpa using f2
          have hMτ : RM τ t := hM.keep (eqM13 hs)
          obtain ⟨τ1, S, s1, s2, s3, s4⟩ := p_reaches O hMτ (-1) (nI i) ha
          have k1 : ∀ c, c ≠ 13 → τ1 c = τ0 c := fun c hc => (s2 c hc).trans (hs c hc)
          have hMτ1 : RM τ1 t := hM.keep (eqM13 k1)
          obtain ⟨r, r1, r2⟩ := p_reach O (s := -1) (g := nI i) hC.1 hJ ha g1
          have hbS : bt r b = S b := by
            have a1 := r2 b
            have a2 := s4 b hb
            cases e1 : bt r b <;> cases e2 : S b <;> simp_all
          have ib : inb (nI b) 9 := (z_in (by omega)).mpr (by omega)
          have cb : (nI b).toNatClampNeg = b := z_cl (by omega)
          have hple := prS_le O (nI i) (tN t) (Nat.le_refl _)
          have mstep : ∀ K, gM_barOf_L5 (nI a) (nI b) K (n + 1) w (nI i) τ = if zb (S b) = 0 then (if w = (-1 : Int32) then gM_barOf_L5 (nI a) (nI b) K n (nI i) (nI (i + 1)) τ1 else if nI (prS t w (tN t)) ≤ nI (prS t (nI i) (tN t)) then gM_barOf_L5 (nI a) (nI b) K n w (nI (i + 1)) τ1 else gM_barOf_L5 (nI a) (nI b) K n (nI i) (nI (i + 1)) τ1) else gM_barOf_L5 (nI a) (nI b) K n w (nI (i + 1)) τ1 := fun K => by
            rw [gM_barOf_L5, h6, z_pow _ (by omega), if_neg (nI_ge hlt (by omega)), if_neg (fun h => f1 ((h_bit1 _ (by omega)).mp h)), if_neg (fun h => f2 ((h_bit1 _ (by omega)).mp h)), s1]
            simp only [Option.bind_some, if_pos ib, cb, s3 b hb, nI_1, p_hprice O hMτ1]
          have cst2 : ∀ K, gN_barringHeap_L34 (nI a) (nI b) (tbit a ||| tbit b) σ K (n + 1) w v (nI i) = if v ≤ nI (prS t (nI i) (tN t)) then gN_barringHeap_L34 (nI a) (nI b) (tbit a ||| tbit b) σ K n w v (nI (i + 1)) else if zb (S b) = 0 then gN_barringHeap_L34 (nI a) (nI b) (tbit a ||| tbit b) σ K n (nI i) (nI (prS t (nI i) (tN t))) (nI (i + 1)) else gN_barringHeap_L34 (nI a) (nI b) (tbit a ||| tbit b) σ K n w v (nI (i + 1)) := fun K => by
            rw [cstep, if_pos (two.mpr ⟨g1, g2⟩), p_price O hC]
            simp only [Option.bind_some, r1]
            rw [p_holds _ (show b < 32 by omega), hbS]
            rfl
          have keep : (∀ K, gN_barringHeap_L34 (nI a) (nI b) (tbit a ||| tbit b) σ K (n + 1) w v (nI i) = gN_barringHeap_L34 (nI a) (nI b) (tbit a ||| tbit b) σ K n w v (nI (i + 1))) → (∀ K, gM_barOf_L5 (nI a) (nI b) K (n + 1) w (nI i) τ = gM_barOf_L5 (nI a) (nI b) K n w (nI (i + 1)) τ1) → ∃ (w' : Int32) (τ' : nS), (∀ K, gN_barringHeap_L34 (nI a) (nI b) (tbit a ||| tbit b) σ K (n + 1) w v (nI i) = K w') ∧ (∀ K, gM_barOf_L5 (nI a) (nI b) K (n + 1) w (nI i) τ = K w' τ') ∧ ∀ c, c ≠ 13 → τ' c = τ0 c := fun e1 e2 => by
            obtain ⟨w', τ', q1, q2, q3⟩ := ih (i + 1) w v τ1 k1 hw (by omega) (by omega)
            exact ⟨w', τ', fun K => (e1 K).trans (q1 K), fun K => (e2 K).trans (q2 K), q3⟩
          have take : (∀ K, gN_barringHeap_L34 (nI a) (nI b) (tbit a ||| tbit b) σ K (n + 1) w v (nI i) = gN_barringHeap_L34 (nI a) (nI b) (tbit a ||| tbit b) σ K n (nI i) (nI (prS t (nI i) (tN t))) (nI (i + 1))) → (∀ K, gM_barOf_L5 (nI a) (nI b) K (n + 1) w (nI i) τ = gM_barOf_L5 (nI a) (nI b) K n (nI i) (nI (i + 1)) τ1) → ∃ (w' : Int32) (τ' : nS), (∀ K, gN_barringHeap_L34 (nI a) (nI b) (tbit a ||| tbit b) σ K (n + 1) w v (nI i) = K w') ∧ (∀ K, gM_barOf_L5 (nI a) (nI b) K (n + 1) w (nI i) τ = K w' τ') ∧ ∀ c, c ≠ 13 → τ' c = τ0 c := fun e1 e2 => by
            obtain ⟨w', τ', q1, q2, q3⟩ := ih (i + 1) (nI i) (nI (prS t (nI i) (tN t))) τ1 k1 (Or.inr ⟨zm_ne (by omega), rfl⟩) (by omega) (by omega)
            exact ⟨w', τ', fun K => (e1 K).trans (q1 K), fun K => (e2 K).trans (q2 K), q3⟩
          cases hSb : S b with
          | true =>
            refine keep (fun K => ?_) (fun K => ?_)
            · rw [cst2, hSb]
              by_cases x9 : v ≤ nI (prS t (nI i) (tN t))
              · rw [if_pos x9]
              · rw [if_neg x9, if_neg (by decide)]
            · rw [mstep, hSb, if_neg (by decide)]
          | false =>
            rcases hw with ⟨x1, x2⟩ | ⟨x1, x2⟩
            · refine take (fun K => ?_) (fun K => ?_)
              · have x9 : ¬ (1000000 : Int32) ≤ nI (prS t (nI i) (tN t)) := nI_ge (a := prS t (nI i) (tN t)) (b := 1000000) (by omega) (by omega)
                rw [cst2, hSb, x2, if_neg x9, if_pos (by rfl)]
              · rw [mstep, hSb, if_pos (by rfl), if_pos x1]
            · by_cases x3 : nI (prS t w (tN t)) ≤ nI (prS t (nI i) (tN t))
              · refine keep (fun K => ?_) (fun K => ?_)
                · rw [cst2, x2, if_pos x3]
                · rw [mstep, hSb, if_pos (by rfl), if_neg x1, if_pos x3]
              · refine take (fun K => ?_) (fun K => ?_)
                · rw [cst2, hSb, x2, if_neg x3, if_pos (by rfl)]
                · rw [mstep, hSb, if_pos (by rfl), if_neg x1, if_neg x3]
theorem p_canTwo {t : Nt} (O : NtOK t) {τ : nS} (hM : RM τ t) (x y : Int32) : (¬ (inb x (tN t) ∧ inb y (tN t) ∧ x ≠ y) ∧ gM_canTwo x y τ = some (0, τ)) ∨ ((inb x (tN t) ∧ inb y (tN t) ∧ x ≠ y) ∧ gM_canTwo x y τ = some (1, nst (nst τ 0 15 x) 0 16 y)) := by
  unfold gM_canTwo
  rw [p_isPost O hM, p_isPost O hM]
  by_cases h1 : inb x (tN t)
  · by_cases h2 : inb y (tN t)
    · by_cases h3 : x = y
      · left
        refine ⟨fun h => h.2.2 h3, ?_⟩
        rw [zb_t h1, zb_t h2]
        simp only [Option.bind_some, if_neg z10, if_pos h3]
      · right
        refine ⟨⟨h1, h2, h3⟩, ?_⟩
        rw [zb_t h1, zb_t h2]
        simp only [Option.bind_some, if_neg z10, if_neg h3]
    · left
      refine ⟨fun h => h2 h.2.1, ?_⟩
      rw [zb_t h1, zb_f h2]
      simp only [Option.bind_some, if_neg z10, if_true]
  · left
    refine ⟨fun h => h1 h.1, ?_⟩
    rw [zb_f h1]
    rfl
theorem eqM0 {τ : nS} {i : Nat} {v : Int32} (hi : 14 ≤ i) : eqM τ (nst τ 0 i v) := ⟨fun c h1 h2 => by rw [n_o (by omega)], fun j hj => by rw [n_n (by omega)]⟩
/-- both find the same heap, whatever stands in the reference's other cells -/
theorem p_barOf {t : Nt} (O : NtOK t) {σ : nS} (hC : RC σ t) (hJ : ∀ i j, i < tN t → (bt (σ 8 i) j = true ↔ tE t (-1) i j)) {τ0 : nS} (hM0 : RM τ0 t) {a b : Nat} (ha : a < tN t) (hb : b < tN t) : ∃ w : Int32, (∀ K, gN_barringHeap_L34 (nI a) (nI b) (tbit a ||| tbit b) σ K nFU (-1) 1000000 0 = K w) ∧ ∀ τ, RM τ t → ∃ τ', gM_barOf (nI a) (nI b) τ = some (w, τ') ∧ eqM τ τ' := by
  have hp : 2 ^ tN t ≤ 512 := Nat.pow_le_pow_right (by decide : 0 < 2) O.1
  have hx : ∀ τ, RM τ t → ∃ (w : Int32) (τ' : nS), (∀ K, gN_barringHeap_L34 (nI a) (nI b) (tbit a ||| tbit b) σ K nFU (-1) 1000000 0 = K w) ∧ gM_barOf (nI a) (nI b) τ = some (w, τ') ∧ eqM τ τ' := fun τ hM => by
    obtain ⟨w, τ', q1, q2, q3⟩ := p_barL O hC hJ hM ha hb nFU 0 (-1) 1000000 τ (fun _ _ => rfl) (Or.inl ⟨rfl, rfl⟩) (Nat.zero_le _) (by unfold nFU; omega)
    refine ⟨w, τ', q1, ?_, eqM13 q3⟩
    unfold gM_barOf
    exact q2 _
  have huse : ∀ τ, RM τ t → ∀ w, (∀ K, gN_barringHeap_L34 (nI a) (nI b) (tbit a ||| tbit b) σ K nFU (-1) 1000000 0 = K w) → ∃ τ', gM_barOf (nI a) (nI b) τ = some (w, τ') ∧ eqM τ τ' := fun τ hM w hw => by
    obtain ⟨w2, τ', q1, q2, q3⟩ := hx τ hM
    have e1 := (hw (fun w => some (w, σ))).symm.trans (q1 (fun w => some (w, σ)))
    have e2 : w = w2 := by simpa using e1
    subst e2
    exact ⟨τ', q2, q3⟩
  obtain ⟨w, τ', q1, q2, q3⟩ := hx τ0 hM0
  exact ⟨w, q1, fun τ hM => huse τ hM w q1⟩
theorem p_barring {t : Nt} (O : NtOK t) {σ : nS} (hC : RC σ t) {τ0 : nS} (hM0 : RM τ0 t) {a b : Nat} (ha : a < tN t) (hb : b < tN t) (hab : a ≠ b) : ∃ (w : Int32) (σ' : nS), gN_barringHeap (nI a) (nI b) σ = some (w, σ') ∧ RC σ' t ∧ ∀ τ, RM τ t → ∃ τ', gM_barOf (nI a) (nI b) τ = some (w, τ') ∧ eqM τ τ' := by
  have hN := O.1
  obtain ⟨σ1, j1, j2, j3⟩ := p_joinPosts O hC (-1)
  have hC1 := hC.of8 j2
  obtain ⟨w, q1, q2⟩ := p_barOf O hC1 j3 hM0 ha hb
  refine ⟨w, σ1, ?_, hC1, q2⟩
  have e0 : inb (nI a) (tN t) ∧ inb (nI b) (tN t) ∧ nI a ≠ nI b := ⟨(z_in (by omega)).mpr ha, (z_in (by omega)).mpr hb, fun h => hab ((z_eq (by omega) (by omega)).mp h)⟩
  unfold gN_barringHeap
  rw [p_hasTwo O hC, zb_t e0, j1]
  simp only [Option.bind_some, if_neg z10]
  exact q1 _
theorem st_bars {σ τ : nS} {t : Nt} (O : NtOK t) (hC : RC σ t) (hM : RM τ t) (x y : Int32) : nStp (gC_bars x y σ) (gM_bars x y τ) := by
  have hN := O.1
  rcases p_canTwo O hM x y with ⟨h, e⟩ | ⟨⟨h1, h2, h3⟩, e⟩
  · refine ⟨-1, σ, τ, t, ?_, ?_, O, hC, hM⟩
    · unfold gC_bars gN_barringHeap
      rw [p_hasTwo O hC, zb_f h]
      rfl
    · unfold gM_bars
      rw [e]
      rfl
  · obtain ⟨a, ha, rfl⟩ := z_of h1 (by omega)
    obtain ⟨b, hb, rfl⟩ := z_of h2 (by omega)
    obtain ⟨w, σ', q1, q2, q3⟩ := p_barring O hC hM ha hb (fun h => h3 (by rw [h]))
    have hM2 : RM (nst (nst τ 0 15 (nI a)) 0 16 (nI b)) t := hM.keep ((eqM0 (by decide)).tr (eqM0 (by decide)))
    obtain ⟨τ', r1, r2⟩ := q3 _ hM2
    refine ⟨w, σ', τ', t, ?_, ?_, O, q2, hM2.keep r2⟩
    · unfold gC_bars
      rw [q1]
      rfl
    · unfold gM_bars
      rw [e]
      simp only [Option.bind_some, if_neg z10, r1]
theorem st_bar {σ τ : nS} {t : Nt} (O : NtOK t) (hC : RC σ t) (hM : RM τ t) (x y : Int32) : nStp (gC_bar x y σ) (gM_bar x y τ) := by
  have hN := O.1
  rcases p_canTwo O hM x y with ⟨h, e⟩ | ⟨⟨h1, h2, h3⟩, e⟩
  · refine ⟨-1, σ, τ, t, ?_, ?_, O, hC, hM⟩
    · unfold gC_bar gN_barringHeap
      rw [p_hasTwo O hC, zb_f h]
      rfl
    · unfold gM_bar
      rw [e]
      rfl
  · obtain ⟨a, ha, rfl⟩ := z_of h1 (by omega)
    obtain ⟨b, hb, rfl⟩ := z_of h2 (by omega)
    obtain ⟨w, σ', q1, q2, q3⟩ := p_barring O hC hM ha hb (fun h => h3 (by rw [h]))
    have hM2 : RM (nst (nst τ 0 15 (nI a)) 0 16 (nI b)) t := hM.keep ((eqM0 (by decide)).tr (eqM0 (by decide)))
    obtain ⟨τ1, r1, r2⟩ := q3 _ hM2
    have hM3 := hM2.keep r2
    obtain ⟨τ2, u1, u2⟩ := q3 _ hM3
    by_cases f : w = -1
    · refine ⟨-1, σ', τ1, t, ?_, ?_, O, q2, hM3⟩
      · unfold gC_bar
        rw [q1]
        simp only [Option.bind_some, if_pos f]
      · unfold gM_bar
        rw [e]
        simp only [Option.bind_some, if_neg z10, r1, if_pos f]
    · refine ⟨nI (prS t w (tN t)), σ', τ2, t, ?_, ?_, O, q2, hM3.keep u2⟩
      · unfold gC_bar
        rw [q1]
        simp only [Option.bind_some, if_neg f, p_price O q2]
      · unfold gM_bar
        rw [e]
        simp only [Option.bind_some, if_neg z10, r1, if_neg f, u1, p_hprice O (hM3.keep u2)]
