theorem RC.of8 {σ σ' : nS} {t : Nt} (h : RC σ t) (e : ∀ c, c ≠ 8 → σ' c = σ c) : RC σ' t := h.keep (fun c hc => e c (by omega))
theorem eqM13 {τ τ' : nS} (e : ∀ c, c ≠ 13 → τ' c = τ c) : eqM τ τ' := ⟨fun c h1 h2 => e c (by omega), fun i _ => by rw [e 0 (by decide)]⟩
theorem zm_ne {j : Nat} (hj : j < 2 ^ 31) : ¬ nI j = (-1 : Int32) := by
  intro g
  have := congrArg Int32.toInt g
  rw [nI_toInt hj] at this
  have h9 : (-1 : Int32).toInt = -1 := rfl
  omega
/-! a bridge -/
theorem st_bridge {σ τ : nS} {t : Nt} (O : NtOK t) (hC : RC σ t) (hM : RM τ t) (x : Int32) : nStp (gC_bridge x σ) (gM_bridge x τ) := by
  have hL := O.2.1
  have hN := O.1
  by_cases h : inb x (tL t) ∧ tOv t x.toNatClampNeg = false
  · have h0 := h
    obtain ⟨h1, h2⟩ := h
    obtain ⟨l, hl, rfl⟩ := z_of h1 (by omega)
    have i24 : inb (nI l) 24 := (z_in (by omega)).mpr (by omega)
    have cl : (nI l).toNatClampNeg = l := z_cl (by omega)
    obtain ⟨ha, hb, hab, -⟩ := O.2.2.2.2.1 l hl
    obtain ⟨σ1, j1, j2, j3⟩ := p_joinPosts O hC (nI l)
    have hC1 := hC.of8 j2
    obtain ⟨c2, c3, -⟩ := hC1.2.2.2.2.1 l hl
    obtain ⟨r, r1, r2⟩ := p_reach O (g := 0) hC1.1 j3 ha (b_0 _)
    obtain ⟨m3, m4, -⟩ := hM.2.2.2.2.1 l hl
    obtain ⟨τ1, S, s1, s2, s3, s4⟩ := p_reaches O hM (nI l) 0 ha
    have e4 : τ1 4 l = nI (tB t l) := by rw [s2 4 (by decide)]; exact m4
    have ib : inb (nI (tB t l)) 9 := (z_in (by omega)).mpr (by omega)
    have cb : (nI (tB t l)).toNatClampNeg = tB t l := z_cl (by omega)
    have hbit : bt r (tB t l) = S (tB t l) := by
      have a1 := r2 (tB t l)
      have a2 := s4 (tB t l) hb
      cases e1 : bt r (tB t l) <;> cases e2 : S (tB t l) <;> simp_all
    refine ⟨zb (!S (tB t l)), σ1, τ1, t, ?_, ?_, O, hC1, hM.keep (eqM13 s2)⟩
    · unfold gC_bridge gN_isBridge
      rw [p_hasLine O hC, zb_t h0, j1]
      simp only [Option.bind_some, if_neg z10, if_pos i24, cl, c2, c3, r1]
      rw [p_holds _ (show tB t l < 32 by omega), hbit]
      cases S (tB t l) <;> rfl
    · unfold gM_bridge
      rw [p_isLine O hM, zb_t h0]
      simp only [Option.bind_some, if_neg z10, if_pos i24, cl, m3, s1, e4, if_pos ib, cb, s3 _ hb]
      cases S (tB t l) <;> rfl
  · refine ⟨0, σ, τ, t, ?_, ?_, O, hC, hM⟩
    · unfold gC_bridge gN_isBridge
      rw [p_hasLine O hC, zb_f h]
      rfl
    · unfold gM_bridge
      rw [p_isLine O hM, zb_f h]
      rfl
/-! a hinge -/
def tbit (p : Nat) : Int32 := (1 : Int32) <<< (nI p &&& 31)
theorem tbit_b {p i : Nat} (hp : p < 32) : bt (tbit p) i = decide (i = p) := h_sh hp
/-- o hangs together with q, but not without p -/
def tH (t : Nt) (p q o : Nat) : Prop := q ≠ p ∧ o ≠ p ∧ o ≠ q ∧ rr (tEg t (-1) 0) q o ∧ ¬ rr (tEg t (-1) (tbit p)) q o
theorem p_hinge0 {t : Nt} (O : NtOK t) {τ0 : nS} (hM : RM τ0 t) {p q : Nat} (hp : p < tN t) (hq : q < tN t) : ∀ (n i : Nat) (τ : nS), (∀ c, c ≠ 13 → τ c = τ0 c) → i ≤ tN t → tN t < i + n →
    ∃ τ' : nS, (∀ c, c ≠ 13 → τ' c = τ0 c) ∧ (((∃ o, i ≤ o ∧ o < tN t ∧ tH t p q o) ∧ ∀ K, gM_hinge_L22 (nI p) (nI q) K n (nI i) τ = some (1, τ')) ∨ ((¬ ∃ o, i ≤ o ∧ o < tN t ∧ tH t p q o) ∧ ∀ K, gM_hinge_L22 (nI p) (nI q) K n (nI i) τ = K τ')) := by
  have hN := O.1
  intro n
  induction n with
  | zero => intro i τ _ h1 h2; omega
  | succ n ih =>
    intro i τ hs h1 h2
    have h6 : τ 0 2 = nI (tN t) := by rw [hs 0 (by decide)]; exact hM.1
    by_cases e : i = tN t
    · subst e
      refine ⟨τ, hs, Or.inr ⟨by rintro ⟨o, a, b, -⟩; omega, fun K => ?_⟩⟩
      rw [gM_hinge_L22, h6, if_pos (nI_le (Nat.le_refl _) (by omega))]
    · have hi : i < tN t := by omega
      have i9 : inb (nI i) 9 := (z_in (by omega)).mpr (by omega)
      have ci : (nI i).toNatClampNeg = i := z_cl (by omega)
      have skip : ∀ τ1 : nS, (∀ c, c ≠ 13 → τ1 c = τ0 c) → (∀ K, gM_hinge_L22 (nI p) (nI q) K (n + 1) (nI i) τ = gM_hinge_L22 (nI p) (nI q) K n (nI (i + 1)) τ1) → ¬ tH t p q i →
          ∃ τ' : nS, (∀ c, c ≠ 13 → τ' c = τ0 c) ∧ (((∃ o, i ≤ o ∧ o < tN t ∧ tH t p q o) ∧ ∀ K, gM_hinge_L22 (nI p) (nI q) K (n + 1) (nI i) τ = some (1, τ')) ∨ ((¬ ∃ o, i ≤ o ∧ o < tN t ∧ tH t p q o) ∧ ∀ K, gM_hinge_L22 (nI p) (nI q) K (n + 1) (nI i) τ = K τ')) := by
        intro τ1 k1 k2 k3
        obtain ⟨τ', q1, q2⟩ := ih (i + 1) τ1 k1 (by omega) (by omega)
        refine ⟨τ', q1, ?_⟩
        rcases q2 with ⟨⟨o, a, b, c⟩, r⟩ | ⟨a, r⟩
        · exact Or.inl ⟨⟨o, by omega, b, c⟩, fun K => (k2 K).trans (r K)⟩
        · refine Or.inr ⟨?_, fun K => (k2 K).trans (r K)⟩
          rintro ⟨o, b, c, d⟩
          by_cases f : o = i
          · subst f; exact k3 d
          · exact a ⟨o, by omega, c, d⟩
      by_cases f1 : q = p
      · refine skip τ hs (fun K => ?_) (fun h => h.1 f1)
        rw [gM_hinge_L22, h6, if_neg (nI_ge (by omega) (by omega)), if_pos (by rw [f1]), nI_1]
      · have g1 : ¬ nI q = nI p := fun x => f1 ((z_eq (by omega) (by omega)).mp x)
        by_cases f2 : i = p
        · refine skip τ hs (fun K => ?_) (fun h => h.2.1 f2)
          rw [gM_hinge_L22, h6, if_neg (nI_ge (by omega) (by omega)), if_neg g1, if_pos (by rw [f2]), nI_1]
        · have g2 : ¬ nI i = nI p := fun x => f2 ((z_eq (by omega) (by omega)).mp x)
          by_cases f3 : i = q
          · refine skip τ hs (fun K => ?_) (fun h => h.2.2.1 f3)
            rw [gM_hinge_L22, h6, if_neg (nI_ge (by omega) (by omega)), if_neg g1, if_neg g2, if_pos (by rw [f3]), nI_1]
          · have g3 : ¬ nI i = nI q := fun x => f3 ((z_eq (by omega) (by omega)).mp x)
            have hMτ : RM τ t := hM.keep (eqM13 hs)
            obtain ⟨τ1, S, s1, s2, s3, s4⟩ := p_reaches O hMτ (-1) 0 hq
            have k1 : ∀ c, c ≠ 13 → τ1 c = τ0 c := fun c hc => (s2 c hc).trans (hs c hc)
            cases hSi : S i with
            | false =>
              refine skip τ1 k1 (fun K => ?_) (fun h => by rw [(s4 i hi).mpr h.2.2.2.1] at hSi; cases hSi)
              rw [gM_hinge_L22, h6, if_neg (nI_ge (by omega) (by omega)), if_neg g1, if_neg g2, if_neg g3, s1]
              simp only [Option.bind_some, if_pos i9, ci, s3 i hi, hSi, nI_1]
              rw [if_pos (by rfl)]
            | true =>
              have hMτ1 : RM τ1 t := hM.keep (eqM13 k1)
              obtain ⟨τ2, S2, u1, u2, u3, u4⟩ := p_reaches O hMτ1 (-1) (tbit p) hq
              have k2 : ∀ c, c ≠ 13 → τ2 c = τ0 c := fun c hc => (u2 c hc).trans (k1 c hc)
              have hgo : ∀ K, gM_hinge_L22 (nI p) (nI q) K (n + 1) (nI i) τ = if zb (S2 i) = 0 then some (1, τ2) else gM_hinge_L22 (nI p) (nI q) K n (nI (i + 1)) τ2 := fun K => by
                rw [gM_hinge_L22, h6, if_neg (nI_ge (by omega) (by omega)), if_neg g1, if_neg g2, if_neg g3, s1]
                simp only [Option.bind_some, if_pos i9, ci, s3 i hi, hSi, nI_1]
                rw [if_neg (by decide), show ((1 : Int32) <<< (nI p &&& 31)) = tbit p from rfl, u1]
                simp only [Option.bind_some, u3 i hi]
              cases hS2 : S2 i with
              | false =>
                refine ⟨τ2, k2, Or.inl ⟨⟨i, Nat.le_refl _, hi, f1, f2, f3, (s4 i hi).mp hSi, fun h => by rw [(u4 i hi).mpr h] at hS2; cases hS2⟩, fun K => ?_⟩⟩
                rw [hgo K, hS2, if_pos (by rfl)]
              | true =>
                refine skip τ2 k2 (fun K => ?_) (fun h => h.2.2.2.2 ((u4 i hi).mp hS2))
                rw [hgo K, hS2, if_neg (by decide)]
theorem p_hinge1 {t : Nt} (O : NtOK t) {τ0 : nS} (hM : RM τ0 t) {p : Nat} (hp : p < tN t) : ∀ (n i : Nat) (τ : nS), (∀ c, c ≠ 13 → τ c = τ0 c) → i ≤ tN t → tN t < i + n →
    ∃ τ' : nS, (∀ c, c ≠ 13 → τ' c = τ0 c) ∧ (((∃ q o, i ≤ q ∧ q < tN t ∧ o < tN t ∧ tH t p q o) ∧ ∀ K, gM_hinge_L12 (nI p) K n (nI i) τ = some (1, τ')) ∨ ((¬ ∃ q o, i ≤ q ∧ q < tN t ∧ o < tN t ∧ tH t p q o) ∧ ∀ K, gM_hinge_L12 (nI p) K n (nI i) τ = K τ')) := by
  have hN := O.1
  intro n
  induction n with
  | zero => intro i τ _ h1 h2; omega
  | succ n ih =>
    intro i τ hs h1 h2
    have h6 : τ 0 2 = nI (tN t) := by rw [hs 0 (by decide)]; exact hM.1
    by_cases e : i = tN t
    · subst e
      refine ⟨τ, hs, Or.inr ⟨by rintro ⟨q, o, a, b, -⟩; omega, fun K => ?_⟩⟩
      rw [gM_hinge_L12, h6, if_pos (nI_le (Nat.le_refl _) (by omega))]
    · have hi : i < tN t := by omega
      obtain ⟨τ1, k1, k2⟩ := p_hinge0 O hM hp hi nFU 0 τ hs (by omega) (by unfold nFU; omega)
      have hgo : ∀ K, gM_hinge_L12 (nI p) K (n + 1) (nI i) τ = gM_hinge_L22 (nI p) (nI i) (fun σe => gM_hinge_L12 (nI p) K n (nI (i + 1)) σe) nFU (nI 0) τ := fun K => by
        rw [gM_hinge_L12, h6, if_neg (nI_ge (by omega) (by omega)), nI_1]
        rfl
      rcases k2 with ⟨⟨o, -, b, c⟩, r⟩ | ⟨a, r⟩
      · exact ⟨τ1, k1, Or.inl ⟨⟨i, o, Nat.le_refl _, hi, b, c⟩, fun K => by rw [hgo K, r]⟩⟩
      · obtain ⟨τ', q1, q2⟩ := ih (i + 1) τ1 k1 (by omega) (by omega)
        refine ⟨τ', q1, ?_⟩
        rcases q2 with ⟨⟨q, o, x, b, c⟩, r2⟩ | ⟨x, r2⟩
        · exact Or.inl ⟨⟨q, o, by omega, b, c⟩, fun K => by rw [hgo K, r]; exact r2 K⟩
        · refine Or.inr ⟨?_, fun K => by rw [hgo K, r]; exact r2 K⟩
          rintro ⟨q, o, b, c, d, f⟩
          by_cases g : q = i
          · subst g; exact a ⟨o, by omega, d, f⟩
          · exact x ⟨q, o, by omega, c, d, f⟩
theorem rr_g0 {t : Nt} {s g : Int32} {i j : Nat} (h : rr (tEg t s g) i j) : rr (tEg t s 0) i j := rr_mono (fun u v e => ⟨e.1, b_0 _, b_0 _⟩) h
/-- the search for the first other -/
theorem p_hinge2 {t : Nt} (O : NtOK t) {σ : nS} (hs : σ 1 5 = nI (tN t)) (hJ : ∀ i j, i < tN t → (bt (σ 8 i) j = true ↔ tE t (-1) i j)) {p : Nat} (hp : p < tN t) (oth : Int32) (hO : ∀ j, bt oth j = true ↔ (rr (tEg t (-1) 0) p j ∧ j ≠ p)) : ∀ (n i : Nat), (∀ j, j < i → bt oth j = false) → i ≤ tN t → tN t < i + n →
    ∃ r : Bool, gN_isHinge_L33 (tbit p) oth σ (some (0, σ)) n (nI i) = some (zb r, σ) ∧ (r = true ↔ ∃ q o, q < tN t ∧ o < tN t ∧ tH t p q o) := by
  have hN := O.1
  have hsy : ∀ (g : Int32) (u v : Nat), tEg t (-1) g u v → tEg t (-1) g v u := fun g u v h => tEg_sy h
  have through : ∀ q o, tH t p q o → bt oth q = true ∧ bt oth o = true := by
    rintro q o ⟨a, b, c, d, e⟩
    have hpq : rr (tEg t (-1) 0) q p := by
      by_cases x : rr (tEg t (-1) 0) q p
      · exact x
      · exfalso
        apply e
        have : rr (tEg t (-1) 0) q o → (rr (tEg t (-1) (tbit p)) q o ∧ rr (tEg t (-1) 0) q o) := fun h => rr_cl (S := fun v => rr (tEg t (-1) (tbit p)) q v ∧ rr (tEg t (-1) 0) q v) ⟨rr_rf, rr_rf⟩ (fun u v ⟨h1, h2⟩ h3 => by
          have hv := rr_st h2 h3
          have hu : u ≠ p := fun z => x (z ▸ h2)
          have hv2 : v ≠ p := fun z => x (z ▸ hv)
          refine ⟨rr_st h1 ⟨h3.1, ?_, ?_⟩, hv⟩
          · rw [tbit_b (by omega)]; simpa using hu
          · rw [tbit_b (by omega)]; simpa using hv2) h
        exact (this d).1
    exact ⟨(hO q).mpr ⟨rr_sy (hsy 0) hpq, a⟩, (hO o).mpr ⟨rr_tr (rr_sy (hsy 0) hpq) d, b⟩⟩
  intro n
  induction n with
  | zero => intro i _ h1 h2; omega
  | succ n ih =>
    intro i hlo h1 h2
    by_cases e : i = tN t
    · subst e
      refine ⟨false, ?_, ⟨fun h => (by cases h), ?_⟩⟩
      · rw [gN_isHinge_L33, hs, if_pos (nI_le (Nat.le_refl _) (by omega))]; rfl
      · rintro ⟨q, o, a, b, c⟩
        have := (through q o c).1
        rw [hlo q a] at this
        cases this
    · have hi : i < tN t := by omega
      cases hb : bt oth i with
      | false =>
        obtain ⟨r, r1, r2⟩ := ih (i + 1) (fun j hj => by
          by_cases f : j = i
          · rw [f]; exact hb
          · exact hlo j (by omega)) (by omega) (by omega)
        refine ⟨r, ?_, r2⟩
        rw [gN_isHinge_L33, hs, if_neg (nI_ge (by omega) (by omega)), p_holds _ (by omega), hb, nI_1]
        exact r1
      | true =>
        obtain ⟨w1, w2⟩ := (hO i).mp hb
        obtain ⟨r, r1, r2⟩ := p_reach O (s := -1) (g := tbit p) hs hJ hi (by rw [tbit_b (by omega)]; simpa using w2)
        have hval : gN_isHinge_L33 (tbit p) oth σ (some (0, σ)) (n + 1) (nI i) = if r = oth then some (0, σ) else some (1, σ) := by
          rw [gN_isHinge_L33, hs, if_neg (nI_ge (by omega) (by omega)), p_holds _ (by omega), hb]
          simp only [Option.bind_some]
          rw [if_neg (by decide), r1]
          rfl
        have hne : ∀ j, rr (tEg t (-1) (tbit p)) i j → j ≠ p := fun j h => rr_cl (S := fun v => v ≠ p) w2 (fun u v _ h3 => by
          have := h3.2.2
          rw [tbit_b (by omega)] at this
          simpa using this) h
        by_cases f : r = oth
        · refine ⟨false, by rw [hval, if_pos f]; rfl, ⟨fun h => (by cases h), ?_⟩⟩
          rintro ⟨q, o, a, b, c⟩
          obtain ⟨t1, t2⟩ := through q o c
          rw [← f] at t1 t2
          exact absurd (rr_tr (rr_sy (hsy _) ((r2 q).mp t1)) ((r2 o).mp t2)) c.2.2.2.2
        · refine ⟨true, by rw [hval, if_neg f]; rfl, ⟨fun _ => ?_, fun _ => rfl⟩⟩
          have hex : ∃ j, bt oth j = true ∧ bt r j = false := by
            by_cases g : ∃ j, bt oth j = true ∧ bt r j = false
            · exact g
            · exfalso
              apply f
              apply b_ext
              intro j _
              cases e1 : bt r j with
              | true =>
                have h1 := (r2 j).mp e1
                exact ((hO j).mpr ⟨rr_tr w1 (rr_g0 h1), hne j h1⟩).symm
              | false =>
                cases e2 : bt oth j with
                | false => rfl
                | true => exact absurd ⟨j, e2, e1⟩ g
          obtain ⟨j, j1, j2⟩ := hex
          obtain ⟨u1, u2⟩ := (hO j).mp j1
          have hr : ¬ rr (tEg t (-1) (tbit p)) i j := fun h => by rw [(r2 j).mpr h] at j2; cases j2
          exact ⟨i, j, hi, rr_lt O hp u1, w2, u2, fun z => hr (z ▸ rr_rf), rr_tr (rr_sy (hsy 0) w1) u1, hr⟩
theorem st_hinge {σ τ : nS} {t : Nt} (O : NtOK t) (hC : RC σ t) (hM : RM τ t) (x : Int32) : nStp (gC_hinge x σ) (gM_hinge x τ) := by
  have hN := O.1
  by_cases h : inb x (tN t)
  · have h0 := h
    obtain ⟨p, hp, rfl⟩ := z_of h (by omega)
    obtain ⟨σ1, j1, j2, j3⟩ := p_joinPosts O hC (-1)
    have hC1 := hC.of8 j2
    obtain ⟨r, r1, r2⟩ := p_reach O (g := 0) hC1.1 j3 hp (b_0 _)
    obtain ⟨b, b1, b2⟩ := p_hinge2 O hC1.1 j3 hp (r &&& (tbit p ^^^ (-1 : Int32))) (fun j => by
      rw [b_and, ← r2 j]
      by_cases hj : j < 32
      · rw [h_not _ hj, tbit_b (by omega)]
        simp
      · rw [b_big (x := r) (by omega)]
        simp) nFU 0 (fun j hj => by omega) (by omega) (by unfold nFU; omega)
    obtain ⟨τ1, k1, k2⟩ := p_hinge1 O hM hp nFU 0 τ (fun _ _ => rfl) (by omega) (by unfold nFU; omega)
    refine ⟨zb b, σ1, τ1, t, ?_, ?_, O, hC1, hM.keep (eqM13 k1)⟩
    · unfold gC_hinge gN_isHinge
      rw [p_hasPost O hC, zb_t h0, j1]
      simp only [Option.bind_some, if_neg z10, r1]
      have b1' : gN_isHinge_L33 (tbit p) (r &&& (tbit p ^^^ (-1 : Int32))) σ1 (some (0, σ1)) nFU 0 = some (zb b, σ1) := b1
      rw [show ((1 : Int32) <<< (nI p &&& 31)) = tbit p from rfl, b1']
      simp only [Option.bind_some]
      rw [if_pos (zb_z _)]
    · unfold gM_hinge
      rw [p_isPost O hM, zb_t h0]
      simp only [Option.bind_some, if_neg z10]
      rcases k2 with ⟨⟨q, o, -, a, c, d⟩, e⟩ | ⟨a, e⟩
      · rw [z_0, e, b2.mpr ⟨q, o, a, c, d⟩]; rfl
      · have hb : b = false := by
          cases f : b with
          | false => rfl
          | true =>
            obtain ⟨q, o, x1, x2, x3⟩ := b2.mp f
            exact absurd ⟨q, o, by omega, x1, x2, x3⟩ a
        rw [z_0, e, hb]; rfl
  · refine ⟨0, σ, τ, t, ?_, ?_, O, hC, hM⟩
    · unfold gC_hinge gN_isHinge
      rw [p_hasPost O hC, zb_f h]
      rfl
    · unfold gM_hinge
      rw [p_isPost O hM, zb_f h]
      rfl
