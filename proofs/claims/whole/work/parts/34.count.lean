theorem p_left {t : Nt} (O : NtOK t) {σ τ : nS} (hC : RC σ t) (hM : RM τ t) : ∀ (n l : Nat) (v : Int32), l ≤ tL t → tL t < l + n → ∃ w : Int32, (∀ K, gN_linesLeft_L4 σ K n v (nI l) = K w) ∧ ∀ K, gM_count_L43 τ K n v (nI l) = K w := by
  have hL := O.2.1
  intro n
  induction n with
  | zero => intro l v h1 h2; omega
  | succ n ih =>
    intro l v h1 h2
    by_cases e : l = tL t
    · subst e
      refine ⟨v, fun K => ?_, fun K => ?_⟩
      · rw [gN_linesLeft_L4, hC.2.1, if_pos (nI_le (Nat.le_refl _) (by omega))]
      · rw [gM_count_L43, hM.2.1, if_pos (nI_le (Nat.le_refl _) (by omega))]
    · have hl : l < tL t := by omega
      have i24 : inb (nI l) 24 := (z_in (by omega)).mpr (by omega)
      have cl : (nI l).toNatClampNeg = l := z_cl (by omega)
      have c6 := (hC.2.2.2.2.1 l hl).2.2.2.2
      have m7 := (hM.2.2.2.2.1 l hl).2.2.2.2
      cases ho : tOv t l with
      | false =>
        obtain ⟨w, q1, q2⟩ := ih (l + 1) (v + 1) (by omega) (by omega)
        refine ⟨w, fun K => ?_, fun K => ?_⟩
        · rw [gN_linesLeft_L4, hC.2.1, if_neg (nI_ge hl (by omega)), if_pos i24, cl, c6, ho, if_pos (by rfl), nI_1]; exact q1 K
        · rw [gM_count_L43, hM.2.1, if_neg (nI_ge hl (by omega)), if_pos i24, cl, m7, ho, if_pos (by rfl), nI_1]; exact q2 K
      | true =>
        obtain ⟨w, q1, q2⟩ := ih (l + 1) v (by omega) (by omega)
        refine ⟨w, fun K => ?_, fun K => ?_⟩
        · rw [gN_linesLeft_L4, hC.2.1, if_neg (nI_ge hl (by omega)), if_pos i24, cl, c6, ho, if_neg (by decide), nI_1]; exact q1 K
        · rw [gM_count_L43, hM.2.1, if_neg (nI_ge hl (by omega)), if_pos i24, cl, m7, ho, if_neg (by decide), nI_1, Int32.add_zero]; exact q2 K
theorem p_size9 {x : Int32} {N : Nat} (hx : ∀ i, N ≤ i → bt x i = false) (σ : nS) (K : Int32 → Option Int32) : ∀ (n i : Nat) (v : Int32), N ≤ i → i ≤ 9 → 9 < i + n → gC_sizeOf_L4 x σ K n v (nI i) = K v := by
  intro n
  induction n with
  | zero => intro i v h0 h1 h2; omega
  | succ n ih =>
    intro i v h0 h1 h2
    by_cases e : i = 9
    · subst e
      rw [gC_sizeOf_L4, if_pos (by decide)]
    · rw [gC_sizeOf_L4, z9, if_neg (nI_ge (by omega) (by omega)), p_holds _ (by omega), hx i h0, nI_1]
      exact ih (i + 1) v (by omega) (by omega) (by omega)
theorem p_size {t : Nt} (O : NtOK t) {σ τ : nS} (hC : RC σ t) (hM : RM τ t) : ∀ (n i : Nat) (v : Int32), i ≤ tN t → 9 < i + n → ∃ w : Int32, (∀ K, gC_sizeOf_L4 (σ 0 5) σ K n v (nI i) = K w) ∧ ∀ K, gM_count_L78 τ K n v (nI i) = K w := by
  have hN := O.1
  have hbt := hC.2.2.2.2.2.2.1
  intro n
  induction n with
  | zero => intro i v h1 h2; omega
  | succ n ih =>
    intro i v h1 h2
    by_cases e : i = tN t
    · refine ⟨v, fun K => ?_, fun K => ?_⟩
      · refine p_size9 (N := tN t) (fun j hj => ?_) σ K (n + 1) i v (by omega) (by omega) h2
        rw [hbt]
        cases f : tTe t j with
        | false => rfl
        | true => have := O.2.2.2.2.2.1 j f; omega
      · rw [gM_count_L78, hM.1, e, if_pos (nI_le (Nat.le_refl _) (by omega))]
    · have hi : i < tN t := by omega
      have i9 : inb (nI i) 9 := (z_in (by omega)).mpr (by omega)
      have ci : (nI i).toNatClampNeg = i := z_cl (by omega)
      have m2 := hM.2.2.2.2.2.2.1 i (by omega)
      cases ho : tTe t i with
      | false =>
        obtain ⟨w, q1, q2⟩ := ih (i + 1) v (by omega) (by omega)
        refine ⟨w, fun K => ?_, fun K => ?_⟩
        · rw [gC_sizeOf_L4, z9, if_neg (nI_ge (by omega) (by omega)), p_holds _ (by omega), hbt, ho, nI_1]; exact q1 K
        · rw [gM_count_L78, hM.1, if_neg (nI_ge hi (by omega)), if_pos i9, ci, m2, ho, if_pos (by rfl), nI_1, Int32.add_zero]; exact q2 K
      | true =>
        obtain ⟨w, q1, q2⟩ := ih (i + 1) (v + 1) (by omega) (by omega)
        refine ⟨w, fun K => ?_, fun K => ?_⟩
        · rw [gC_sizeOf_L4, z9, if_neg (nI_ge (by omega) (by omega)), p_holds _ (by omega), hbt, ho, nI_1]; exact q1 K
        · rw [gM_count_L78, hM.1, if_neg (nI_ge hi (by omega)), if_pos i9, ci, m2, ho, if_neg (by decide), nI_1]; exact q2 K
theorem p_first {p : Nat} (hp : p ≤ 9) {τ : nS} {S : Nat → Bool} (hS : ∀ j, j < p → τ 13 j = zb (S j)) (a : Int32) : ∀ (n i : Nat) (b : Bool), i ≤ p → p < i + n → ∃ b' : Bool, (∀ K, gM_count_L139 a (nI p) τ K n (zb b) (nI i) = K (zb b')) ∧ (b' = true ↔ (b = true ∧ ∀ u, i ≤ u → u < p → S u = false)) := by
  intro n
  induction n with
  | zero => intro i b h1 h2; omega
  | succ n ih =>
    intro i b h1 h2
    by_cases e : i = p
    · subst e
      refine ⟨b, fun K => ?_, ⟨fun h => ⟨h, fun u h3 h4 => by omega⟩, fun h => h.1⟩⟩
      rw [gM_count_L139, if_pos (nI_le (Nat.le_refl _) (by omega))]
    · have hi : i < p := by omega
      have i9 : inb (nI i) 9 := (z_in (by omega)).mpr (by omega)
      have ci : (nI i).toNatClampNeg = i := z_cl (by omega)
      cases hb : b with
      | false =>
        obtain ⟨b', q1, q2⟩ := ih (i + 1) false (by omega) (by omega)
        refine ⟨b', fun K => ?_, ?_⟩
        · rw [gM_count_L139, if_neg (nI_ge hi (by omega)), if_pos (by rfl), nI_1]; exact q1 K
        · rw [q2]; simp
      | true =>
        cases hs : S i with
        | false =>
          obtain ⟨b', q1, q2⟩ := ih (i + 1) true (by omega) (by omega)
          refine ⟨b', fun K => ?_, ?_⟩
          · rw [gM_count_L139, if_neg (nI_ge hi (by omega)), if_neg (by decide), if_pos i9, ci, hS i hi, hs, if_pos (by rfl), nI_1]; exact q1 K
          · rw [q2]
            constructor
            · rintro ⟨h3, h4⟩
              refine ⟨rfl, fun u h5 h6 => ?_⟩
              by_cases f : u = i
              · rw [f]; exact hs
              · exact h4 u (by omega) h6
            · rintro ⟨h3, h4⟩
              exact ⟨rfl, fun u h5 h6 => h4 u (by omega) h6⟩
        | true =>
          obtain ⟨b', q1, q2⟩ := ih (i + 1) false (by omega) (by omega)
          refine ⟨b', fun K => ?_, ?_⟩
          · rw [gM_count_L139, if_neg (nI_ge hi (by omega)), if_neg (by decide), if_pos i9, ci, hS i hi, hs, if_neg (by decide), nI_1]; exact q1 K
          · rw [q2]
            constructor
            · rintro ⟨h3, -⟩; cases h3
            · rintro ⟨-, h4⟩
              have := h4 i (Nat.le_refl _) hi
              rw [hs] at this
              cases this
theorem p_hang {t : Nt} (O : NtOK t) {σ : nS} (hs5 : σ 1 5 = nI (tN t)) (hJ : ∀ i j, i < tN t → (bt (σ 8 i) j = true ↔ tE t (-1) i j)) {τ0 : nS} (hM : RM τ0 t) : ∀ (n i : Nat) (v seen : Int32) (τ : nS), (∀ c, c ≠ 13 → τ c = τ0 c) → (∀ j, bt seen j = true ↔ ∃ u, u < i ∧ rr (tEg t (-1) 0) u j) → i ≤ tN t → tN t < i + n →
    ∃ (w : Int32) (τ' : nS), (∀ K, gN_hangingPieces_L11 σ K n v seen (nI i) = K w) ∧ (∀ K, gM_count_L118 K n v (nI i) τ = K w τ') ∧ ∀ c, c ≠ 13 → τ' c = τ0 c := by
  have hN := O.1
  have hsy : ∀ (u v : Nat), tEg t (-1) 0 u v → tEg t (-1) 0 v u := fun u v h => tEg_sy h
  intro n
  induction n with
  | zero => intro i v seen τ _ _ h1 h2; omega
  | succ n ih =>
    intro i v seen τ hs hse h1 h2
    have h6 : τ 0 2 = nI (tN t) := by rw [hs 0 (by decide)]; exact hM.1
    by_cases e : i = tN t
    · subst e
      refine ⟨v, τ, fun K => ?_, fun K => ?_, hs⟩
      · rw [gN_hangingPieces_L11, hs5, if_pos (nI_le (Nat.le_refl _) (by omega))]
      · rw [gM_count_L118, h6, if_pos (nI_le (Nat.le_refl _) (by omega))]
    · have hi : i < tN t := by omega
      have hMτ : RM τ t := hM.keep (eqM13 hs)
      obtain ⟨τ1, S, s1, s2, s3, s4⟩ := p_reaches O hMτ (-1) 0 hi
      have k1 : ∀ c, c ≠ 13 → τ1 c = τ0 c := fun c hc => (s2 c hc).trans (hs c hc)
      obtain ⟨b', f1, f2⟩ := p_first (p := i) (by omega) (τ := τ1) (S := S) (fun j hj => s3 j (by omega)) v nFU 0 true (by omega) (by unfold nFU; omega)
      have mstep : ∀ K, gM_count_L118 K (n + 1) v (nI i) τ = if zb b' = 0 then gM_count_L118 K n v (nI (i + 1)) τ1 else gM_count_L118 K n (v + 1) (nI (i + 1)) τ1 := fun K => by
        rw [gM_count_L118, h6, if_neg (nI_ge hi (by omega)), s1]
        simp only [Option.bind_some, Int32.add_zero, nI_1]
        exact f1 _
      have hbb : bt seen i = !b' := by
        have hiff : bt seen i = true ↔ ¬ b' = true := by
          rw [hse i, f2]
          constructor
          · rintro ⟨u, hu, hr⟩ ⟨-, h4⟩
            have h5 := h4 u (by omega) hu
            rw [(s4 u (by omega)).mpr (rr_sy hsy hr)] at h5
            cases h5
          · intro h
            by_cases g : ∃ u, u < i ∧ rr (tEg t (-1) 0) u i
            · exact g
            · exfalso
              apply h
              refine ⟨rfl, fun u _ hu => ?_⟩
              cases hx : S u with
              | false => rfl
              | true => exact absurd ⟨u, hu, rr_sy hsy ((s4 u (by omega)).mp hx)⟩ g
        cases e1 : bt seen i <;> cases e2 : b' <;> simp_all
      cases hb : b' with
      | true =>
        obtain ⟨r, r1, r2⟩ := p_reach O (s := -1) (g := 0) hs5 hJ hi (b_0 _)
        obtain ⟨w, τ', q1, q2, q3⟩ := ih (i + 1) (v + 1) (seen ||| r) τ1 k1 (fun j => by
          rw [b_or]
          simp only [Bool.or_eq_true]
          rw [hse j, r2 j]
          constructor
          · rintro (⟨u, hu, h⟩ | h)
            · exact ⟨u, by omega, h⟩
            · exact ⟨i, by omega, h⟩
          · rintro ⟨u, hu, h⟩
            by_cases f : u = i
            · subst f; exact Or.inr h
            · exact Or.inl ⟨u, by omega, h⟩) (by omega) (by omega)
        refine ⟨w, τ', fun K => ?_, fun K => ?_, q3⟩
        · rw [gN_hangingPieces_L11, hs5, if_neg (nI_ge hi (by omega)), p_holds _ (by omega), hbb, hb]
          simp only [Option.bind_some]
          rw [if_pos (by rfl), r1]
          simp only [Option.bind_some, nI_1]
          exact q1 K
        · rw [mstep, hb, if_neg (by decide)]; exact q2 K
      | false =>
        have hold : ∃ u, u < i ∧ rr (tEg t (-1) 0) u i := (hse i).mp (by rw [hbb, hb]; rfl)
        obtain ⟨w, τ', q1, q2, q3⟩ := ih (i + 1) v seen τ1 k1 (fun j => by
          rw [hse j]
          constructor
          · rintro ⟨u, hu, h⟩
            exact ⟨u, by omega, h⟩
          · rintro ⟨u, hu, h⟩
            by_cases f : u = i
            · subst f
              obtain ⟨x, hx, h3⟩ := hold
              exact ⟨x, hx, rr_tr h3 h⟩
            · exact ⟨u, by omega, h⟩) (by omega) (by omega)
        refine ⟨w, τ', fun K => ?_, fun K => ?_, q3⟩
        · rw [gN_hangingPieces_L11, hs5, if_neg (nI_ge hi (by omega)), p_holds _ (by omega), hbb, hb]
          simp only [Option.bind_some]
          rw [if_neg (by decide), nI_1]
          exact q1 K
        · rw [mstep, hb, if_pos (by rfl)]; exact q2 K
theorem q_left {t : Nt} (O : NtOK t) {σ τ : nS} (hC : RC σ t) (hM : RM τ t) : ∃ w : Int32, gN_linesLeft σ = some w ∧ gM_count_L43 τ (fun w2 => some (w2, τ)) nFU 0 0 = some (w, τ) := by
  obtain ⟨w, q1, q2⟩ := p_left O hC hM nFU 0 (nI 0) (Nat.zero_le _) (by have := O.2.1; unfold nFU; omega)
  refine ⟨w, ?_, ?_⟩
  · unfold gN_linesLeft
    rw [z_0, q1]
  · rw [z_0, q2]
theorem q_size {t : Nt} (O : NtOK t) {σ τ : nS} (hC : RC σ t) (hM : RM τ t) : ∃ w : Int32, gC_sizeOf (σ 0 5) σ = some w ∧ gM_count_L78 τ (fun w2 => some (w2, τ)) nFU 0 0 = some (w, τ) := by
  obtain ⟨w, q1, q2⟩ := p_size O hC hM nFU 0 (nI 0) (Nat.zero_le _) (by unfold nFU; omega)
  refine ⟨w, ?_, ?_⟩
  · unfold gC_sizeOf
    rw [z_0, q1]
  · rw [z_0, q2]
theorem q_hang {t : Nt} (O : NtOK t) {σ τ : nS} (hC : RC σ t) (hM : RM τ t) : ∃ (w : Int32) (σ' τ' : nS), gN_hangingPieces σ = some (w, σ') ∧ gM_count_L118 (fun w2 σe => some (w2, σe)) nFU 0 0 τ = some (w, τ') ∧ RC σ' t ∧ RM τ' t := by
  obtain ⟨σ1, j1, j2, j3⟩ := p_joinPosts O hC (-1)
  have hC1 := hC.of8 j2
  obtain ⟨w, τ', q1, q2, q3⟩ := p_hang O hC1.1 j3 hM nFU 0 (nI 0) (nI 0) τ (fun _ _ => rfl) (fun j => by
      rw [← z_0, b_0]
      constructor
      · intro h; cases h
      · rintro ⟨u, hu, -⟩; omega) (Nat.zero_le _) (by have := O.1; unfold nFU; omega)
  refine ⟨w, σ1, τ', ?_, ?_, hC1, hM.keep (eqM13 q3)⟩
  · unfold gN_hangingPieces
    rw [j1, Option.bind_some, z_0, q1]
  · rw [z_0, q2]
theorem st_count {σ τ : nS} {t : Nt} (O : NtOK t) (hC : RC σ t) (hM : RM τ t) (x : Int32) : nStp (gC_count x σ) (gM_count x τ) := by
  unfold gC_count gM_count
  by_cases e0 : x = 0
  · rw [if_pos e0, if_pos e0]
    exact ⟨nI (tN t), σ, τ, t, by rw [hC.1], by rw [hM.1], O, hC, hM⟩
  rw [if_neg e0, if_neg e0]
  by_cases e1 : x = 1
  · rw [if_pos e1, if_pos e1]
    obtain ⟨w, q1, q2⟩ := q_left O hC hM
    rw [q1, q2]
    exact ⟨w, σ, τ, t, rfl, rfl, O, hC, hM⟩
  rw [if_neg e1, if_neg e1]
  by_cases e2 : x = 2
  · rw [if_pos e2, if_pos e2]
    obtain ⟨w, q1, q2⟩ := q_size O hC hM
    rw [q1, q2]
    exact ⟨w, σ, τ, t, rfl, rfl, O, hC, hM⟩
  rw [if_neg e2, if_neg e2]
  by_cases e3 : x = 3
  · rw [if_pos e3, if_pos e3]
    exact ⟨nI (tK t), σ, τ, t, by rw [hC.2.2.1], by rw [hM.2.2.1], O, hC, hM⟩
  rw [if_neg e3, if_neg e3]
  by_cases e4 : x = 4
  · rw [if_pos e4, if_pos e4]
    obtain ⟨w, σ', τ', q1, q2, hC', hM'⟩ := q_hang O hC hM
    rw [q1, q2]
    exact ⟨w, σ', τ', t, rfl, rfl, O, hC', hM'⟩
  rw [if_neg e4, if_neg e4]
  exact ⟨-1, σ, τ, t, rfl, rfl, O, hC, hM⟩
