/-! the reference: reaches -/
theorem h_bit1 (x : Int32) {k : Nat} (hk : k < 32) : ((x >>> (nI k &&& 31)) &&& (1 : Int32)) = 1 ↔ bt x k = true := by
  have h2 : ∀ y : Int32, (y &&& 1) = 1 ↔ ¬ (y &&& 1) = 0 := by
    intro y
    constructor
    · intro h; rw [h]; decide
    · intro h
      apply b_ext
      intro i hi
      rw [b_and]
      have h3 : bt y 0 = true := by
        cases e : bt y 0 with
        | true => rfl
        | false => exact absurd ((h_b0 y).mpr e) h
      have h4 : ∀ i, i < 32 → bt 1 i = decide (i = 0) := by decide +kernel
      rw [h4 i hi]
      by_cases f : i = 0
      · subst f; simp [h3]
      · simp [f]
  rw [h2, h_bit x hk]
  simp
/-- a line that is used: there, not left out, neither post gone -/
def tG (t : Nt) (s g : Int32) (m : Nat) : Prop := tU t s m ∧ bt g (tA t m) = false ∧ bt g (tB t m) = false
theorem p_rch0 {N : Nat} (hN : N ≤ 9) {a : Nat} (ha : a < N) (g s : Int32) : ∀ (n i : Nat) (τ : nS), τ 0 2 = nI N → i ≤ N → N < i + n → ∃ τ', (∀ K, gM_reaches_L3 (nI a) g s K n (nI i) τ = K τ') ∧ (∀ c, c ≠ 13 → τ' c = τ c) ∧ (∀ u, u < i → τ' 13 u = τ 13 u) ∧ ∀ u, i ≤ u → u < N → τ' 13 u = zb (decide (u = a)) := by
  intro n
  induction n with
  | zero => intro i τ _ h1 h2; omega
  | succ n ih =>
    intro i τ hs h1 h2
    by_cases e : i = N
    · subst e
      refine ⟨τ, fun K => ?_, fun _ _ => rfl, fun _ _ => rfl, fun u a b => by omega⟩
      rw [gM_reaches_L3, hs, if_pos (nI_le (Nat.le_refl _) (by omega))]
    · obtain ⟨τ', q1, q2, q3, q4⟩ := ih (i + 1) (nst τ 13 i (zb (decide (i = a)))) (by rw [n_o (by decide)]; exact hs) (by omega) (by omega)
      refine ⟨τ', fun K => ?_, fun c hc => by rw [q2 c hc, n_o hc], fun u hu => by rw [q3 u (by omega), n_n (by omega)], fun u a b => ?_⟩
      · rw [gM_reaches_L3, hs, if_neg (nI_ge (by omega) (by omega)), nI_1, z_cl (by omega), if_pos ((z_in (by omega)).mpr (by omega)), if_pos ((z_in (by omega)).mpr (by omega)), ← q1 K]
        by_cases f : i = a
        · rw [if_pos (by rw [f]), zb_t f]; rfl
        · rw [if_neg (fun x => f ((z_eq (by omega) (by omega)).mp x)), zb_f f]; rfl
      · by_cases f : u = i
        · rw [q3 u (by omega), f, n_s]
        · exact q4 u (by omega) b
theorem p_rch1 {t : Nt} (O : NtOK t) {τ0 : nS} (hM : RM τ0 t) (s g : Int32) : ∀ (n l : Nat) (v : Int32) (τ : nS) (S : Nat → Bool), (∀ c, c ≠ 13 → τ c = τ0 c) → (∀ j, j < tN t → τ 13 j = zb (S j)) → l ≤ tL t → tL t < l + n →
    ∃ (v' : Int32) (τ' : nS) (S' : Nat → Bool), (∀ K, gM_reaches_L50 g s K n v (nI l) τ = K v' τ') ∧ (∀ c, c ≠ 13 → τ' c = τ0 c) ∧ (∀ j, j < tN t → τ' 13 j = zb (S' j)) ∧ (∀ j, S j = true → S' j = true) ∧ (∀ a, (∀ j, j < tN t → S j = true → rr (tEg t s g) a j) → ∀ j, j < tN t → S' j = true → rr (tEg t s g) a j) ∧ ((v' = v ∧ (∀ j, S' j = S j) ∧ ∀ m, l ≤ m → tG t s g m → S (tA t m) = S (tB t m)) ∨ (v' = 1 ∧ ∃ j, j < tN t ∧ S' j = true ∧ S j = false)) := by
  have hL := O.2.1
  have hN := O.1
  intro n
  induction n with
  | zero => intro l v τ S _ _ h1 h2; omega
  | succ n ih =>
    intro l v τ S hs hS h1 h2
    have h6 : τ 0 8 = nI (tL t) := by rw [hs 0 (by decide)]; exact hM.2.1
    by_cases e : l = tL t
    · subst e
      refine ⟨v, τ, S, fun K => ?_, hs, hS, fun _ h => h, fun _ h => h, Or.inl ⟨rfl, fun _ => rfl, fun m h3 h4 => ?_⟩⟩
      · rw [gM_reaches_L50, h6, if_pos (nI_le (Nat.le_refl _) (by omega))]
      · have := h4.1.1; omega
    · have hl : l < tL t := by omega
      obtain ⟨e2, e3, e4, e5, e6⟩ := hM.2.2.2.2.1 l hl
      rw [← hs 3 (by decide)] at e2
      rw [← hs 4 (by decide)] at e3
      rw [← hs 7 (by decide)] at e6
      obtain ⟨ha, hb, hab, -⟩ := O.2.2.2.2.1 l hl
      have i24 : inb (nI l) 24 := (z_in (by omega)).mpr (by omega)
      have cl : (nI l).toNatClampNeg = l := z_cl (by omega)
      have ia : inb (nI (tA t l)) 9 := (z_in (by omega)).mpr (by omega)
      have ib : inb (nI (tB t l)) 9 := (z_in (by omega)).mpr (by omega)
      have ca : (nI (tA t l)).toNatClampNeg = tA t l := z_cl (by omega)
      have cb : (nI (tB t l)).toNatClampNeg = tB t l := z_cl (by omega)
      have skip : (∀ K, gM_reaches_L50 g s K (n + 1) v (nI l) τ = gM_reaches_L50 g s K n v (nI (l + 1)) τ) → (tG t s g l → S (tA t l) = S (tB t l)) →
          ∃ (v' : Int32) (τ' : nS) (S' : Nat → Bool), (∀ K, gM_reaches_L50 g s K (n + 1) v (nI l) τ = K v' τ') ∧ (∀ c, c ≠ 13 → τ' c = τ0 c) ∧ (∀ j, j < tN t → τ' 13 j = zb (S' j)) ∧ (∀ j, S j = true → S' j = true) ∧ (∀ a, (∀ j, j < tN t → S j = true → rr (tEg t s g) a j) → ∀ j, j < tN t → S' j = true → rr (tEg t s g) a j) ∧ ((v' = v ∧ (∀ j, S' j = S j) ∧ ∀ m, l ≤ m → tG t s g m → S (tA t m) = S (tB t m)) ∨ (v' = 1 ∧ ∃ j, j < tN t ∧ S' j = true ∧ S j = false)) := by
        intro hgo hcl
        obtain ⟨v', τ', S', q1, q2, q3, q4, q5, q6⟩ := ih (l + 1) v τ S hs hS (by omega) (by omega)
        refine ⟨v', τ', S', fun K => (hgo K).trans (q1 K), q2, q3, q4, q5, ?_⟩
        rcases q6 with ⟨r1, r2, r3⟩ | r
        · refine Or.inl ⟨r1, r2, fun m h3 h4 => ?_⟩
          by_cases f : m = l
          · subst f; exact hcl h4
          · exact r3 m (by omega) h4
        · exact Or.inr r
      cases hov : tOv t l with
      | true =>
        refine skip (fun K => ?_) (fun h => by have := h.1.2.1; rw [hov] at this; cases this)
        rw [gM_reaches_L50, h6, if_neg (nI_ge (by omega) (by omega)), if_pos i24, cl, e6, hov, if_neg (by decide), nI_1]
      | false =>
        have e7 : τ 7 l = 0 := by rw [e6, hov]; rfl
        by_cases f1 : nI l = s
        · refine skip (fun K => ?_) (fun h => absurd f1 h.1.2.2)
          rw [gM_reaches_L50, h6, if_neg (nI_ge (by omega) (by omega)), if_pos i24, cl, if_pos e7, if_pos f1, nI_1]
        · by_cases f2 : bt g (tA t l) = true
          · refine skip (fun K => ?_) (fun h => by have := h.2.1; rw [f2] at this; cases this)
            rw [gM_reaches_L50, h6, if_neg (nI_ge (by omega) (by omega))]
            simp only [if_pos i24, cl, if_pos e7, if_neg f1, e2, if_pos ((h_bit1 g (show tA t l < 32 by omega)).mpr f2), nI_1]
          · by_cases f3 : bt g (tB t l) = true
            · refine skip (fun K => ?_) (fun h => by have := h.2.2; rw [f3] at this; cases this)
              rw [gM_reaches_L50, h6, if_neg (nI_ge (by omega) (by omega))]
              simp only [if_pos i24, cl, if_pos e7, if_neg f1, e2, e3, if_neg (fun x => f2 ((h_bit1 g (show tA t l < 32 by omega)).mp x)), if_pos ((h_bit1 g (show tB t l < 32 by omega)).mpr f3), nI_1]
            · by_cases f4 : S (tA t l) = S (tB t l)
              · refine skip (fun K => ?_) (fun _ => f4)
                rw [gM_reaches_L50, h6, if_neg (nI_ge (by omega) (by omega))]
                simp only [if_pos i24, cl, if_pos e7, if_neg f1, e2, e3, if_neg (fun x => f2 ((h_bit1 g (show tA t l < 32 by omega)).mp x)), if_neg (fun x => f3 ((h_bit1 g (show tB t l < 32 by omega)).mp x)), if_pos ia, if_pos ib, ca, cb, hS _ ha, hS _ hb, f4, if_true, nI_1]
              · have f5 : ¬ zb (S (tA t l)) = zb (S (tB t l)) := fun x => f4 ((zb_eq _ _).mp x)
                obtain ⟨v', τ', S', q1, q2, q3, q4, q5, q6⟩ := ih (l + 1) 1 (nst (nst τ 13 (tA t l) 1) 13 (tB t l) 1) (fun j => S j || decide (j = tA t l) || decide (j = tB t l)) (fun c hc => by rw [n_o hc, n_o hc]; exact hs c hc) (fun j hj => by
                    by_cases x1 : j = tB t l
                    · subst x1; rw [n_s]; simp [zb]
                    · rw [n_n x1]
                      by_cases x2 : j = tA t l
                      · subst x2; rw [n_s]; simp [zb]
                      · rw [n_n x2, hS j hj]; simp [x1, x2]) (by omega) (by omega)
                have hA' : S' (tA t l) = true := q4 _ (by simp)
                have hB' : S' (tB t l) = true := q4 _ (by simp)
                refine ⟨v', τ', S', fun K => ?_, q2, q3, fun j h => q4 j (by simp [h]), fun a hh => ?_, Or.inr ⟨?_, ?_⟩⟩
                · rw [gM_reaches_L50, h6, if_neg (nI_ge (by omega) (by omega)), ← q1 K]
                  simp only [if_pos i24, cl, if_pos e7, if_neg f1, e2, e3, if_neg (fun x => f2 ((h_bit1 g (show tA t l < 32 by omega)).mp x)), if_neg (fun x => f3 ((h_bit1 g (show tB t l < 32 by omega)).mp x)), if_pos ia, if_pos ib, ca, cb, hS _ ha, hS _ hb, if_neg f5, n_o (show (4 : Nat) ≠ 13 by decide), nI_1]
                  rfl
                · apply q5 a
                  have hE : tEg t s g (tA t l) (tB t l) := ⟨⟨l, ⟨hl, hov, f1⟩, Or.inl ⟨rfl, rfl⟩⟩, by simpa using f2, by simpa using f3⟩
                  have hboth : rr (tEg t s g) a (tA t l) ∧ rr (tEg t s g) a (tB t l) := by
                    cases x : S (tA t l) with
                    | true => exact ⟨hh _ ha x, rr_st (hh _ ha x) hE⟩
                    | false =>
                      have y : S (tB t l) = true := by
                        cases z : S (tB t l) with
                        | true => rfl
                        | false => exact absurd (x.trans z.symm) f4
                      exact ⟨rr_st (hh _ hb y) (tEg_sy hE), hh _ hb y⟩
                  intro j hj hx
                  simp at hx
                  rcases hx with (hx | hx) | hx
                  · exact hh j hj hx
                  · rw [hx]; exact hboth.1
                  · rw [hx]; exact hboth.2
                · rcases q6 with ⟨r1, -, -⟩ | ⟨r1, -⟩ <;> exact r1
                · cases x : S (tA t l) with
                  | false => exact ⟨_, ha, hA', x⟩
                  | true =>
                    refine ⟨_, hb, hB', ?_⟩
                    cases z : S (tB t l) with
                    | false => rfl
                    | true => exact absurd (x.trans z.symm) f4
theorem p_rch2 {t : Nt} (O : NtOK t) {τ0 : nS} (hM : RM τ0 t) (s g : Int32) {a : Nat} (ha : a < tN t) : ∀ (n : Nat) (τ : nS) (S : Nat → Bool), (∀ c, c ≠ 13 → τ c = τ0 c) → (∀ j, j < tN t → τ 13 j = zb (S j)) → S a = true → (∀ j, j < tN t → S j = true → rr (tEg t s g) a j) → tN t + 2 ≤ n + cB S (tN t) →
    ∃ (τ' : nS) (S' : Nat → Bool), (∀ K, gM_reaches_L39 g s K n 1 τ = K τ') ∧ (∀ c, c ≠ 13 → τ' c = τ0 c) ∧ (∀ j, j < tN t → τ' 13 j = zb (S' j)) ∧ (∀ j, j < tN t → (S' j = true ↔ rr (tEg t s g) a j)) := by
  have hL := O.2.1
  have hN := O.1
  intro n
  induction n with
  | zero => intro τ S _ _ _ _ h; have := cB_le S (tN t); omega
  | succ n ih =>
    intro τ S hs hS hSa hr hn
    obtain ⟨v', τ', S', q1, q2, q3, q4, q5, q6⟩ := p_rch1 O hM s g nFU 0 0 τ S hs hS (by omega) (by unfold nFU; omega)
    have q1' : ∀ K, gM_reaches_L50 g s K nFU 0 0 τ = K v' τ' := q1
    have hgo : ∀ K, gM_reaches_L39 g s K (n + 1) 1 τ = gM_reaches_L39 g s K n v' τ' := fun K => by
      rw [gM_reaches_L39, if_neg (by decide)]
      exact q1' _
    rcases q6 with ⟨r1, r2, r3⟩ | ⟨r1, j, hj, r2, r3⟩
    · have hcl : ∀ u v, (u < tN t ∧ S u = true) → tEg t s g u v → (v < tN t ∧ S v = true) := by
        rintro u v ⟨hu, hSu⟩ ⟨⟨m, hm, hb2⟩, g1, g2⟩
        have hv := (tE_lt O ⟨m, hm, hb2⟩).2
        refine ⟨hv, ?_⟩
        rcases hb2 with ⟨rfl, rfl⟩ | ⟨rfl, rfl⟩
        · rw [← r3 m (by omega) ⟨hm, g1, g2⟩]; exact hSu
        · rw [r3 m (by omega) ⟨hm, g2, g1⟩]; exact hSu
      obtain ⟨n', rfl⟩ : ∃ n', n = n' + 1 := ⟨n - 1, by have := cB_le S (tN t); omega⟩
      refine ⟨τ', S', fun K => ?_, q2, q3, fun j hj => ?_⟩
      · rw [hgo K, r1, gM_reaches_L39, if_pos rfl]
      · rw [r2 j]
        exact ⟨hr j hj, fun h => (rr_cl (S := fun v => v < tN t ∧ S v = true) ⟨ha, hSa⟩ hcl h).2⟩
    · have hlt := cB_lt (f := S) (g := S') (n := tN t) (fun i _ h => q4 i h) hj r3 r2
      obtain ⟨τ2, S2, s1, s2, s3, s4⟩ := ih τ' S' q2 q3 (q4 a hSa) (q5 a hr) (by omega)
      exact ⟨τ2, S2, fun K => by rw [hgo K, r1]; exact s1 K, s2, s3, s4⟩
theorem p_reaches {t : Nt} (O : NtOK t) {τ : nS} (hM : RM τ t) (s g : Int32) {a : Nat} (ha : a < tN t) : ∃ (τ' : nS) (S : Nat → Bool), gM_reaches (nI a) g s τ = some τ' ∧ (∀ c, c ≠ 13 → τ' c = τ c) ∧ (∀ j, j < tN t → τ' 13 j = zb (S j)) ∧ ∀ j, j < tN t → (S j = true ↔ rr (tEg t s g) a j) := by
  have hN := O.1
  obtain ⟨τ1, q1, q2, q3, q4⟩ := p_rch0 hN ha g s nFU 0 τ hM.1 (by omega) (by unfold nFU; omega)
  obtain ⟨τ2, S, r1, r2, r3, r4⟩ := p_rch2 O hM s g ha nFU τ1 (fun u => decide (u = a)) q2 (fun j hj => q4 j (by omega) hj) (by simp) (fun j hj h => by
    have : j = a := by simpa using h
    rw [this]; exact rr_rf) (by unfold nFU; omega)
  refine ⟨τ2, S, ?_, r2, r3, r4⟩
  unfold gM_reaches
  rw [z_0, q1, r1]
