/-! terminals -/
theorem p_ftL {t : Nt} (O : NtOK t) {σ0 : nS} (hC : RC σ0 t) : ∀ (m i : Nat) (σ : nS), (∀ c, c ≠ 40 → σ c = σ0 c) → fX σ (tN t) (fun u j => decide (u < i) && tTe t u && tTe t j && !decide (j = u)) (fun _ _ => false) → i ≤ tN t → tN t < i + m → ∃ σ' : nS, (∀ K, gC_findTerminals_L18 K m (nI i) σ = K σ') ∧ (∀ c, c ≠ 40 → σ' c = σ0 c) ∧ fX σ' (tN t) (fun u j => tTe t u && tTe t j && !decide (j = u)) (fun _ _ => false) := by
  have hN := O.1
  intro m
  induction m with
  | zero => intro i σ _ _ h1 h2; omega
  | succ m ih =>
    intro i σ hs hF h1 h2
    have hCσ : RC σ t := hC.keep (fun c hc => hs c (by omega))
    by_cases e : i = tN t
    · subst e
      refine ⟨σ, fun K => ?_, hs, fun u j hu hj => ?_⟩
      · rw [gC_findTerminals_L18, hCσ.1, if_pos (nI_le (Nat.le_refl _) (by omega))]
      · have := hF u j hu hj
        simpa [hu] using this
    · have hi : i < tN t := by omega
      have hbt := hCσ.2.2.2.2.2.2.1
      cases ho : tTe t i with
      | false =>
        obtain ⟨σ', q1, q2, q3⟩ := ih (i + 1) σ hs (fun u j hu hj => by
          have := hF u j hu hj
          by_cases g : u = i
          · subst g; simpa [ho] using this
          · by_cases g2 : u < i
            · simpa [g2, show u < i + 1 by omega] using this
            · simpa [g2, show ¬ u < i + 1 by omega] using this) (by omega) (by omega)
        refine ⟨σ', fun K => ?_, q2, q3⟩
        rw [gC_findTerminals_L18, hCσ.1, if_neg (nI_ge hi (by omega)), p_holds _ (by omega), hbt, ho, Option.bind_some, if_pos (by rfl), nI_1]
        exact q1 K
      | true =>
        obtain ⟨h3, h4⟩ := p_apartFrom hN hF hi ((σ 0 5) &&& (tbit i ^^^ (-1 : Int32)))
        obtain ⟨σ', q1, q2, q3⟩ := ih (i + 1) (nst σ 40 i ((σ 40 i) ||| ((σ 0 5) &&& (tbit i ^^^ (-1 : Int32))))) (fun c hc => by rw [n_o hc]; exact hs c hc) (fun u j hu hj => by
          have := h4 u j hu hj
          dsimp only at this ⊢
          rw [b_and, h_not _ hj, tbit_b (by omega), hbt] at this
          by_cases g : u = i
          · subst g; simpa [ho] using this
          · by_cases g2 : u < i
            · simpa [g, g2, show u < i + 1 by omega] using this
            · simpa [g, g2, show ¬ u < i + 1 by omega] using this) (by omega) (by omega)
        refine ⟨σ', fun K => ?_, q2, q3⟩
        rw [gC_findTerminals_L18, hCσ.1, if_neg (nI_ge hi (by omega)), p_holds _ (by omega), hbt, ho, Option.bind_some, if_neg (by decide), show ((1 : Int32) <<< (nI i &&& 31)) = tbit i from rfl, h3, Option.bind_some, nI_1]
        exact q1 K
theorem b_terminals {t : Nt} (O : NtOK t) {σ : nS} (hC : RC σ t) {τ : nS} (hM : RM τ t) (h1 : 1 ≤ tN t) : ∃ σ2 τ2 : nS, gC_findTerminals σ = some (1, σ2) ∧ gM_goesThrough 1 0 τ = some τ2 ∧ RC σ2 t ∧ RM τ2 t ∧ σ2 9 11 = τ2 0 18 ∧ ∀ j, j < tN t → σ2 44 j = τ2 11 j := by
  have hN := O.1
  obtain ⟨s1, sp, jn, a1, a2, a3, a4, a5⟩ := p_prepareSums O hC
  obtain ⟨s2, b1, b2, b3⟩ := p_ftL O (hC.keep a2.C) nFU 0 s1 (fun _ _ => rfl) (fun u j hu hj => by simpa using a4 u j hu hj) (Nat.zero_le _) (by unfold nFU; omega)
  have hS := a3.fo hN (fun c h1 _ => b2 c h1) b3
  obtain ⟨σ2, τ2, c1, c2, c3, c4, c5, c6⟩ := p_both O (Nat.zero_le 9) hN hS a5 hM 1 (W := w_ends t) (QM_ends O (kM hM _ _ _ _) (k1420 _ _ _ _ _)) (fun x hx => by
    obtain ⟨-, m2, m3, -⟩ := rgL_mem _ _ _ _ _ hx
    rw [Bool.eq_iff_iff, w_C_iff]
    unfold okP w_ends
    rw [decide_eq_true_iff]
    constructor
    · rintro ⟨h, -⟩ p hp q hq ⟨g1, g2, g3⟩
      exact (h p hp q hq).1 (by simp [g1, g2]; omega) g3
    · intro h
      refine ⟨fun i hi j hj => ⟨fun hf z => ?_, fun hf => by cases hf⟩, by omega, by omega⟩
      simp at hf
      exact h i hi j hj ⟨hf.1.1, hf.1.2, z⟩)
  have e1 : eS σ σ2 := (a2.tr (fun c hc => b2 c (by omega))).tr c2
  refine ⟨σ2, τ2, ?_, c3, hC.keep e1.C, hM.keep c4, c5, c6 ?_⟩
  · unfold gC_findTerminals
    rw [hC.1, if_neg (nI_ne0 (by omega) (by omega)), a1, Option.bind_some, z_0, b1, c1]
    rfl
  · obtain ⟨x, h1, h2, -⟩ := ex_alone (tN t) h1
    exact ⟨x, h1, decide_eq_true (fun p hp q hq z => h2 p q hp (by omega) (by omega) z.2.2)⟩
/-! pairs -/
theorem p_ppL {t : Nt} (O : NtOK t) {σ0 : nS} (hC : RC σ0 t) : ∀ (m i : Nat) (σ : nS), (∀ c, c ≠ 40 → σ c = σ0 c) → fX σ (tN t) (fun u j => decide (u < i) && bt (σ0 47 u) j) (fun _ _ => false) → i ≤ tN t → tN t < i + m → ∃ σ' : nS, (∀ K, gC_preparePairs_L6 K m (nI i) σ = K σ') ∧ (∀ c, c ≠ 40 → σ' c = σ0 c) ∧ fX σ' (tN t) (fun u j => bt (σ0 47 u) j) (fun _ _ => false) := by
  have hN := O.1
  intro m
  induction m with
  | zero => intro i σ _ _ h1 h2; omega
  | succ m ih =>
    intro i σ hs hF h1 h2
    have hCσ : RC σ t := hC.keep (fun c hc => hs c (by omega))
    by_cases e : i = tN t
    · subst e
      refine ⟨σ, fun K => ?_, hs, fun u j hu hj => ?_⟩
      · rw [gC_preparePairs_L6, hCσ.1, if_pos (nI_le (Nat.le_refl _) (by omega))]
      · have := hF u j hu hj
        simpa [hu] using this
    · have hi : i < tN t := by omega
      obtain ⟨h3, h4⟩ := p_apartFrom hN hF hi (σ0 47 i)
      obtain ⟨σ', q1, q2, q3⟩ := ih (i + 1) (nst σ 40 i ((σ 40 i) ||| (σ0 47 i))) (fun c hc => by rw [n_o hc]; exact hs c hc) (fun u j hu hj => by
        have := h4 u j hu hj
        dsimp only at this ⊢
        by_cases g : u = i
        · subst g; simpa using this
        · by_cases g2 : u < i
          · simpa [g, g2, show u < i + 1 by omega] using this
          · simpa [g, g2, show ¬ u < i + 1 by omega] using this) (by omega) (by omega)
      refine ⟨σ', fun K => ?_, q2, q3⟩
      rw [gC_preparePairs_L6, hCσ.1, if_neg (nI_ge hi (by omega)), if_pos ((z_in (by omega)).mpr (by omega)), z_cl (by omega), hs 47 (by decide), h3, Option.bind_some, nI_1]
      exact q1 K
theorem p_preparePairs {t : Nt} (O : NtOK t) {σ : nS} (hC : RC σ t) : ∃ (σ' : nS) (sp jn : Nat → Nat → Nat), gC_preparePairs σ = some σ' ∧ eS σ σ' ∧ SC σ' (tN t) sp jn (fun u j => bt (σ 47 u) j) (fun _ _ => false) 0 (tN t) ∧ fX σ' (tN t) (fun u j => bt (σ 47 u) j) (fun _ _ => false) ∧ ∀ f, tot sp jn f (tN t) = tCost t false f := by
  have hN := O.1
  obtain ⟨s1, sp, jn, a1, a2, a3, a4, a5⟩ := p_prepareSums O hC
  obtain ⟨s2, b1, b2, b3⟩ := p_ppL O (hC.keep a2.C) nFU 0 s1 (fun _ _ => rfl) (fun u j hu hj => by simpa using a4 u j hu hj) (Nat.zero_le _) (by unfold nFU; omega)
  rw [a2 47 (by decide)] at b3
  have hS := a3.fo hN (fun c h1 _ => b2 c h1) b3
  refine ⟨s2, sp, jn, ?_, a2.tr (fun c hc => b2 c (by omega)), hS, b3, a5⟩
  unfold gC_preparePairs
  rw [a1, Option.bind_some, z_0, b1]
/-- foes by pairs, as the reference has them -/
theorem ok_pairs {t : Nt} (O : NtOK t) {σ : nS} (hC : RC σ t) {f : Nat → Nat} : (∀ i, i < tN t → ∀ j, j < i → bt (σ 47 i) j = true → ¬ f i = f j) ↔ ∀ s, s < tK t → ¬ f (tX t s) = f (tY t s) := by
  have hN := O.1
  have hp := hC.2.2.2.2.2.2.2
  constructor
  · intro h s hs
    obtain ⟨ox, oy, oxy⟩ := O.2.2.2.2.2.2.1 s hs
    by_cases g : tX t s < tY t s
    · exact fun z => h (tY t s) oy (tX t s) g ((hp _ _ (by omega)).mpr ⟨s, hs, Or.inr ⟨rfl, rfl⟩⟩) z.symm
    · exact h (tX t s) ox (tY t s) (by omega) ((hp _ _ (by omega)).mpr ⟨s, hs, Or.inl ⟨rfl, rfl⟩⟩)
  · intro h i hi j hj hb
    obtain ⟨s, hs, hh⟩ := (hp i j (by omega)).mp hb
    rcases hh with ⟨rfl, rfl⟩ | ⟨rfl, rfl⟩
    · exact h s hs
    · exact fun z => h s hs z.symm
theorem b_apart {t : Nt} (O : NtOK t) {σ : nS} (hC : RC σ t) {τ : nS} (hM : RM τ t) (h1 : 1 ≤ tN t) : ∃ σ2 τ2 : nS, gC_findApart σ = some (1, σ2) ∧ gM_goesThrough 2 0 τ = some τ2 ∧ RC σ2 t ∧ RM τ2 t ∧ σ2 9 11 = τ2 0 18 ∧ ∀ j, j < tN t → σ2 44 j = τ2 11 j := by
  have hN := O.1
  obtain ⟨s1, sp, jn, a1, a2, hS, -, a5⟩ := p_preparePairs O hC
  obtain ⟨σ2, τ2, c1, c2, c3, c4, c5, c6⟩ := p_both O (Nat.zero_le 9) hN hS a5 hM 2 (W := w_apart t) (QM_apart O (kM hM _ _ _ _) (k1420 _ _ _ _ _)) (fun x hx => by
    obtain ⟨-, m2, m3, -⟩ := rgL_mem _ _ _ _ _ hx
    rw [Bool.eq_iff_iff, w_C_iff]
    unfold okP w_apart
    rw [decide_eq_true_iff, ← ok_pairs O hC]
    constructor
    · rintro ⟨h, -⟩ i hi j hj
      exact (h i hi j hj).1
    · intro h
      exact ⟨fun i hi j hj => ⟨h i hi j hj, fun hf => by cases hf⟩, by omega, by omega⟩)
  refine ⟨σ2, τ2, ?_, c3, hC.keep (a2.tr c2).C, hM.keep c4, c5, c6 ?_⟩
  · unfold gC_findApart
    rw [hC.1, if_neg (nI_ne0 (by omega) (by omega)), a1, Option.bind_some, c1]
    rfl
  · obtain ⟨x, h1, h2, -⟩ := ex_alone (tN t) h1
    refine ⟨x, h1, decide_eq_true (fun s hs => ?_)⟩
    obtain ⟨ox, oy, oxy⟩ := O.2.2.2.2.2.2.1 s hs
    exact h2 _ _ ox oy oxy
theorem tot_zero (f : Nat → Nat) : ∀ m, tot (fun _ _ => 0) (fun _ _ => 0) f m = 0 := by
  intro m
  unfold tot
  induction m with
  | zero => rfl
  | succ m ih =>
    rw [sumN, ih]
    have h1 : ∀ k, sumN (fun j => if f j = f m then 0 else 0) k = 0 := by
      intro k
      induction k with
      | zero => rfl
      | succ k ih2 => rw [sumN, ih2]; simp
    simpa [tl] using h1 m
/-! likings -/
theorem b_regret {t : Nt} (O : NtOK t) {σ : nS} (hC : RC σ t) {τ : nS} (hM : RM τ t) (h1 : 1 ≤ tN t) : ∃ σ2 τ2 : nS, gC_findRegret σ = some (1, σ2) ∧ gM_goesThrough 4 0 τ = some τ2 ∧ RC σ2 t ∧ RM τ2 t ∧ σ2 9 11 = τ2 0 18 ∧ ∀ j, j < tN t → σ2 44 j = τ2 11 j := by
  have hN := O.1
  obtain ⟨σ1, b1, b2, b3, b4, b5, b6, b7⟩ := p_begin hN σ
  obtain ⟨s1, sp, jn, q1, q2, q3, q4⟩ := p_rgL O hC nFU 0 σ1 (fun _ _ => 0) (fun _ _ => 0) (fun c hc => b2 c hc) b6 (fun f => by
    rw [show sumN (lc t true f) 0 = 0 from rfl]
    have h := tot_zero f (tN t)
    exact h) (Nat.zero_le _) (by have := O.2.1; unfold nFU; omega)
  have hF : fX s1 (tN t) (fun _ _ => false) (fun _ _ => false) := fun i j hi hj => by rw [q2 40 (by omega), q2 41 (by omega)]; exact b7 i j hi hj
  have hS : SC s1 (tN t) sp jn (fun _ _ => false) (fun _ _ => false) 0 (tN t) := ⟨by rw [q2 9 (by omega)]; exact b3, by rw [q2 9 (by omega)]; exact b4, by rw [q2 9 (by omega)]; exact b5, q3, fun i j hi hj => hF i j hi (by omega)⟩
  obtain ⟨σ2, τ2, c1, c2, c3, c4, c5, c6⟩ := p_both O (Nat.zero_le 9) hN hS q4 hM 4 (W := w_all) (QM_liked O (kM hM _ _ _ _) (k1420 _ _ _ _ _)) (fun x hx => by
    obtain ⟨-, m2, m3, -⟩ := rgL_mem _ _ _ _ _ hx
    show _ = true
    rw [w_C_iff]
    exact ⟨fun i hi j hj => ⟨fun hf => (by cases hf), fun hf => (by cases hf)⟩, by omega, by omega⟩)
  have e1 : eS σ σ2 := (b2.tr (fun c hc => q2 c (by omega))).tr c2
  refine ⟨σ2, τ2, ?_, c3, hC.keep e1.C, hM.keep c4, c5, c6 ?_⟩
  · unfold gC_findRegret
    rw [hC.1, if_neg (nI_ne0 (by omega) (by omega)), b1, Option.bind_some, z_0, q1, c1]
    rfl
  · obtain ⟨x, h1, -⟩ := ex_alone (tN t) h1
    exact ⟨x, h1, rfl⟩
/-! so many pieces -/
theorem b_pieces {t : Nt} (O : NtOK t) {σ : nS} (hC : RC σ t) {τ : nS} (hM : RM τ t) {k : Nat} (h1 : 1 ≤ k) (hk : k ≤ tN t) : ∃ σ2 τ2 : nS, gC_findPieces (nI k) σ = some (1, σ2) ∧ gM_goesThrough 3 0 (nst τ 0 17 (nI k)) = some τ2 ∧ RC σ2 t ∧ RM τ2 t ∧ σ2 9 11 = τ2 0 18 ∧ ∀ j, j < tN t → σ2 44 j = τ2 11 j := by
  have hN := O.1
  obtain ⟨s1, sp, jn, a1, a2, a3, a4, a5⟩ := p_prepareSums O hC
  have hS : SC (nst (nst s1 9 9 (nI k)) 9 10 (nI k)) (tN t) sp jn (fun _ _ => false) (fun _ _ => false) k k := by
    obtain ⟨x1, x2, x3, x4, x5⟩ := a3
    refine ⟨by rw [n_n (by decide), n_n (by decide)]; exact x1, by rw [n_n (by decide), n_s], n_s, fun i j hi hj => ?_, fun i j hi hj => ?_⟩
    · rw [n_o (by omega), n_o (by omega), n_o (by omega), n_o (by omega)]; exact x4 i j hi hj
    · rw [n_o (by decide), n_o (by decide), n_o (by decide), n_o (by decide)]; exact x5 i j hi hj
  have hM1 : RM (nst τ 0 17 (nI k)) t := hM.keep (eqM0 (by decide))
  obtain ⟨σ2, τ2, c1, c2, c3, c4, c5, c6⟩ := p_both O (by omega) (by omega) hS a5 hM1 3 (W := w_pieces k) (QM_pieces O (kM hM1 _ _ _ _) (k1420 _ _ _ _ _) (k0 := k) (by rw [k15 _ _ _ _ _ (by decide), n_s]) (by omega)) (fun x hx => by
    rw [Bool.eq_iff_iff, w_C_iff]
    unfold w_pieces
    rw [decide_eq_true_iff]
    constructor
    · rintro ⟨-, h2, h3⟩; omega
    · intro h
      exact ⟨fun i hi j hj => ⟨fun hf => (by cases hf), fun hf => (by cases hf)⟩, by omega, by omega⟩)
  have e1 : eS σ σ2 := (a2.tr ((eS.st (by omega)).tr (eS.st (by omega)))).tr c2
  refine ⟨σ2, τ2, ?_, c3, hC.keep e1.C, hM1.keep c4, c5, c6 ?_⟩
  · unfold gC_findPieces gS_wantParts
    rw [z_1, if_neg (nI_nlt h1 (by omega)), hC.1, if_pos (nI_le hk (by omega)), a1, Option.bind_some, Option.bind_some, c1]
    rfl
  · obtain ⟨x, g1, g2, g3⟩ := rgL_ex (kk := k) h1 (tN t) 0 0 (fun _ => 0) (by omega)
    exact ⟨x, g1, decide_eq_true (by omega)⟩
theorem st_terminals {σ τ : nS} {t : Nt} (O : NtOK t) (hC : RC σ t) (hM : RM τ t) : nStp (gC_terminals σ) (gM_terminals τ) := by
  have hN := O.1
  by_cases h : tN t = 0
  · refine ⟨-1, σ, τ, t, ?_, ?_, O, hC, hM⟩
    · unfold gC_terminals gC_findTerminals
      rw [hC.1, h, if_pos (by rfl)]
      rfl
    · unfold gM_terminals gM_told
      rw [hM.1, h, if_pos (by rfl)]
      rfl
  · obtain ⟨σ2, τ2, q1, q2, q3, q4, q5, q6⟩ := b_terminals O hC hM (by omega)
    refine ⟨τ2 0 18, σ2, τ2, t, ?_, ?_, O, q3, q4⟩
    · unfold gC_terminals gS_leastCost
      rw [q1]
      simp only [Option.bind_some, if_neg z10, q5]
    · unfold gM_terminals gM_told
      rw [hM.1, if_neg (nI_ne0 (by omega) (by omega)), q2]
      rfl
theorem st_terminalPart {σ τ : nS} {t : Nt} (O : NtOK t) (hC : RC σ t) (hM : RM τ t) (x : Int32) : nStp (gC_terminalPart x σ) (gM_terminalPart x τ) := by
  have hN := O.1
  by_cases g : inb x (tN t)
  · have g0 := g
    obtain ⟨j, hj, rfl⟩ := z_of g (by omega)
    have ij : inb (nI j) 9 := (z_in (by omega)).mpr (by omega)
    obtain ⟨σ2, τ2, q1, q2, q3, q4, q5, q6⟩ := b_terminals O hC hM (by omega)
    refine ⟨τ2 11 j, σ2, τ2, t, ?_, ?_, O, q3, q4⟩
    · unfold gC_terminalPart gS_partOf
      rw [p_hasPost O hC, zb_t g0, q1]
      simp only [Option.bind_some, if_neg z10, if_pos ij, z_cl (show j < 2 ^ 31 by omega), q6 j hj]
    · unfold gM_terminalPart gM_toldPart
      rw [p_isPost O hM, zb_t g0, q2]
      simp only [Option.bind_some, if_neg z10, if_pos ij, z_cl (show j < 2 ^ 31 by omega)]
  · refine ⟨-1, σ, τ, t, ?_, ?_, O, hC, hM⟩
    · unfold gC_terminalPart
      rw [p_hasPost O hC, zb_f g]
      rfl
    · unfold gM_terminalPart gM_toldPart
      rw [p_isPost O hM, zb_f g]
      rfl
theorem st_apart {σ τ : nS} {t : Nt} (O : NtOK t) (hC : RC σ t) (hM : RM τ t) : nStp (gC_apart σ) (gM_apart τ) := by
  have hN := O.1
  by_cases h : tN t = 0
  · refine ⟨-1, σ, τ, t, ?_, ?_, O, hC, hM⟩
    · unfold gC_apart gC_findApart
      rw [hC.1, h, if_pos (by rfl)]
      rfl
    · unfold gM_apart gM_told
      rw [hM.1, h, if_pos (by rfl)]
      rfl
  · obtain ⟨σ2, τ2, q1, q2, q3, q4, q5, q6⟩ := b_apart O hC hM (by omega)
    refine ⟨τ2 0 18, σ2, τ2, t, ?_, ?_, O, q3, q4⟩
    · unfold gC_apart gS_leastCost
      rw [q1]
      simp only [Option.bind_some, if_neg z10, q5]
    · unfold gM_apart gM_told
      rw [hM.1, if_neg (nI_ne0 (by omega) (by omega)), q2]
      rfl
theorem st_apartPart {σ τ : nS} {t : Nt} (O : NtOK t) (hC : RC σ t) (hM : RM τ t) (x : Int32) : nStp (gC_apartPart x σ) (gM_apartPart x τ) := by
  have hN := O.1
  by_cases g : inb x (tN t)
  · have g0 := g
    obtain ⟨j, hj, rfl⟩ := z_of g (by omega)
    have ij : inb (nI j) 9 := (z_in (by omega)).mpr (by omega)
    obtain ⟨σ2, τ2, q1, q2, q3, q4, q5, q6⟩ := b_apart O hC hM (by omega)
    refine ⟨τ2 11 j, σ2, τ2, t, ?_, ?_, O, q3, q4⟩
    · unfold gC_apartPart gS_partOf
      rw [p_hasPost O hC, zb_t g0, q1]
      simp only [Option.bind_some, if_neg z10, if_pos ij, z_cl (show j < 2 ^ 31 by omega), q6 j hj]
    · unfold gM_apartPart gM_toldPart
      rw [p_isPost O hM, zb_t g0, q2]
      simp only [Option.bind_some, if_neg z10, if_pos ij, z_cl (show j < 2 ^ 31 by omega)]
  · refine ⟨-1, σ, τ, t, ?_, ?_, O, hC, hM⟩
    · unfold gC_apartPart
      rw [p_hasPost O hC, zb_f g]
      rfl
    · unfold gM_apartPart gM_toldPart
      rw [p_isPost O hM, zb_f g]
      rfl
theorem st_regret {σ τ : nS} {t : Nt} (O : NtOK t) (hC : RC σ t) (hM : RM τ t) : nStp (gC_regret σ) (gM_regret τ) := by
  have hN := O.1
  by_cases h : tN t = 0
  · refine ⟨-1, σ, τ, t, ?_, ?_, O, hC, hM⟩
    · unfold gC_regret gC_findRegret
      rw [hC.1, h, if_pos (by rfl)]
      rfl
    · unfold gM_regret gM_told
      rw [hM.1, h, if_pos (by rfl)]
      rfl
  · obtain ⟨σ2, τ2, q1, q2, q3, q4, q5, q6⟩ := b_regret O hC hM (by omega)
    refine ⟨τ2 0 18, σ2, τ2, t, ?_, ?_, O, q3, q4⟩
    · unfold gC_regret gS_leastCost
      rw [q1]
      simp only [Option.bind_some, if_neg z10, q5]
    · unfold gM_regret gM_told
      rw [hM.1, if_neg (nI_ne0 (by omega) (by omega)), q2]
      rfl
theorem st_regretPart {σ τ : nS} {t : Nt} (O : NtOK t) (hC : RC σ t) (hM : RM τ t) (x : Int32) : nStp (gC_regretPart x σ) (gM_regretPart x τ) := by
  have hN := O.1
  by_cases g : inb x (tN t)
  · have g0 := g
    obtain ⟨j, hj, rfl⟩ := z_of g (by omega)
    have ij : inb (nI j) 9 := (z_in (by omega)).mpr (by omega)
    obtain ⟨σ2, τ2, q1, q2, q3, q4, q5, q6⟩ := b_regret O hC hM (by omega)
    refine ⟨τ2 11 j, σ2, τ2, t, ?_, ?_, O, q3, q4⟩
    · unfold gC_regretPart gS_partOf
      rw [p_hasPost O hC, zb_t g0, q1]
      simp only [Option.bind_some, if_neg z10, if_pos ij, z_cl (show j < 2 ^ 31 by omega), q6 j hj]
    · unfold gM_regretPart gM_toldPart
      rw [p_isPost O hM, zb_t g0, q2]
      simp only [Option.bind_some, if_neg z10, if_pos ij, z_cl (show j < 2 ^ 31 by omega)]
  · refine ⟨-1, σ, τ, t, ?_, ?_, O, hC, hM⟩
    · unfold gC_regretPart
      rw [p_hasPost O hC, zb_f g]
      rfl
    · unfold gM_regretPart gM_toldPart
      rw [p_isPost O hM, zb_f g]
      rfl
theorem p_inK {t : Nt} (O : NtOK t) {τ : nS} (hM : RM τ t) (x : Int32) : (¬ (∃ k, 1 ≤ k ∧ k ≤ tN t ∧ x = nI k) ∧ gM_in x 1 (τ 0 2) τ = some 0) ∨ ((∃ k, 1 ≤ k ∧ k ≤ tN t ∧ x = nI k) ∧ gM_in x 1 (τ 0 2) τ = some 1) := by
  have hN := O.1
  rw [p_in, hM.1, z_1]
  rcases z_rng x 1 (tN t) (by omega) (by omega) with h | ⟨k, h1, h2, rfl⟩
  · left
    refine ⟨?_, ?_⟩
    · rintro ⟨k, h1, h2, rfl⟩
      rcases h with h | h
      · exact nI_nlt h1 (by omega) h
      · exact nI_nlt h2 (by omega) h
    · rw [zb_f]
      rintro ⟨g1, g2⟩
      rcases h with h | h
      · exact g1 h
      · exact g2 h
  · right
    refine ⟨⟨k, h1, h2, rfl⟩, ?_⟩
    rw [zb_t]
    · rfl
    · exact ⟨nI_nlt h1 (by omega), nI_nlt h2 (by omega)⟩
theorem p_noPieces {t : Nt} (O : NtOK t) {σ : nS} (hC : RC σ t) {x : Int32} (h : ¬ ∃ k, 1 ≤ k ∧ k ≤ tN t ∧ x = nI k) : gC_findPieces x σ = some (0, σ) := by
  have hN := O.1
  unfold gC_findPieces
  rw [hC.1, z_1]
  by_cases g1 : x < nI 1
  · rw [if_pos g1]
  · rw [if_neg g1]
    by_cases g2 : x ≤ nI (tN t)
    · exfalso
      apply h
      rcases z_rng x 1 (tN t) (by omega) (by omega) with h3 | h3
      · rcases h3 with h3 | h3
        · exact absurd h3 g1
        · rw [Int32.lt_iff_toInt_lt] at h3
          rw [Int32.le_iff_toInt_le] at g2
          omega
      · exact h3
    · rw [if_neg g2]
theorem st_pieces {σ τ : nS} {t : Nt} (O : NtOK t) (hC : RC σ t) (hM : RM τ t) (x : Int32) : nStp (gC_pieces x σ) (gM_pieces x τ) := by
  have hN := O.1
  rcases p_inK O hM x with ⟨h, e⟩ | ⟨⟨k, h1, h2, rfl⟩, e⟩
  · refine ⟨-1, σ, τ, t, ?_, ?_, O, hC, hM⟩
    · unfold gC_pieces
      rw [p_noPieces O hC h]
      rfl
    · unfold gM_pieces
      rw [e]
      rfl
  · obtain ⟨σ2, τ2, q1, q2, q3, q4, q5, q6⟩ := b_pieces O hC hM h1 h2
    refine ⟨τ2 0 18, σ2, τ2, t, ?_, ?_, O, q3, q4⟩
    · unfold gC_pieces gS_leastCost
      rw [q1]
      simp only [Option.bind_some, if_neg z10, q5]
    · unfold gM_pieces gM_told
      rw [e, Option.bind_some, if_neg z10, n_n (show (2 : Nat) ≠ 17 by decide), hM.1, if_neg (nI_ne0 (by omega) (by omega)), q2]
      rfl
theorem st_piece {σ τ : nS} {t : Nt} (O : NtOK t) (hC : RC σ t) (hM : RM τ t) (x z : Int32) : nStp (gC_piece x z σ) (gM_piece x z τ) := by
  have hN := O.1
  rcases p_inK O hM x with ⟨h, e⟩ | ⟨⟨k, h1, h2, rfl⟩, e⟩
  · refine ⟨-1, σ, τ, t, ?_, ?_, O, hC, hM⟩
    · unfold gC_piece
      rw [p_hasPost O hC, p_noPieces O hC h]
      by_cases g : inb z (tN t)
      · rw [zb_t g]; rfl
      · rw [zb_f g]; rfl
    · unfold gM_piece
      rw [e]
      rfl
  · have hM1 : RM (nst τ 0 17 (nI k)) t := hM.keep (eqM0 (by decide))
    by_cases g : inb z (tN t)
    · have g0 := g
      obtain ⟨j, hj, rfl⟩ := z_of g (by omega)
      have ij : inb (nI j) 9 := (z_in (by omega)).mpr (by omega)
      obtain ⟨σ2, τ2, q1, q2, q3, q4, q5, q6⟩ := b_pieces O hC hM h1 h2
      refine ⟨τ2 11 j, σ2, τ2, t, ?_, ?_, O, q3, q4⟩
      · unfold gC_piece gS_partOf
        rw [p_hasPost O hC, zb_t g0, q1]
        simp only [Option.bind_some, if_neg z10, if_pos ij, z_cl (show j < 2 ^ 31 by omega), q6 j hj]
      · unfold gM_piece gM_toldPart
        rw [e, Option.bind_some, if_neg z10, p_isPost O hM1, zb_t g0, q2]
        simp only [Option.bind_some, if_neg z10, if_pos ij, z_cl (show j < 2 ^ 31 by omega)]
    · refine ⟨-1, σ, nst τ 0 17 (nI k), t, ?_, ?_, O, hC, hM1⟩
      · unfold gC_piece
        rw [p_hasPost O hC, zb_f g]
        rfl
      · unfold gM_piece gM_toldPart
        rw [e, Option.bind_some, if_neg z10, p_isPost O hM1, zb_f g]
        rfl
