/-! ways, and how many of n -/
def rR (E : Nat → Nat → Prop) : Nat → Nat → Nat → Prop
  | 0, i, j => i = j
  | k + 1, i, j => ∃ u, rR E k i u ∧ (u = j ∨ E u j)
def rr (E : Nat → Nat → Prop) (i j : Nat) : Prop := ∃ k, rR E k i j
theorem rr_rf {E : Nat → Nat → Prop} {i : Nat} : rr E i i := ⟨0, rfl⟩
theorem rr_st {E : Nat → Nat → Prop} {i u v : Nat} (h : rr E i u) (e : E u v) : rr E i v := by
  obtain ⟨k, hk⟩ := h
  exact ⟨k + 1, u, hk, Or.inr e⟩
theorem rr_cl {E : Nat → Nat → Prop} {S : Nat → Prop} {i j : Nat} (h0 : S i) (hs : ∀ u v, S u → E u v → S v) (h : rr E i j) : S j := by
  obtain ⟨k, hk⟩ := h
  induction k generalizing j with
  | zero => have hk : i = j := hk; rw [← hk]; exact h0
  | succ k ih =>
    obtain ⟨u, h1, h2⟩ := hk
    have := ih h1
    rcases h2 with rfl | h2
    · exact this
    · exact hs _ _ this h2
theorem rr_tr {E : Nat → Nat → Prop} {i j k : Nat} (h : rr E i j) (g : rr E j k) : rr E i k := rr_cl (S := fun v => rr E i v) h (fun _ _ a b => rr_st a b) g
theorem rr_sy {E : Nat → Nat → Prop} (hs : ∀ u v, E u v → E v u) {i j : Nat} (h : rr E i j) : rr E j i := rr_cl (S := fun v => rr E v i) rr_rf (fun u v a b => rr_tr (rr_st rr_rf (hs _ _ b)) a) h
theorem rr_mono {E F : Nat → Nat → Prop} (hs : ∀ u v, E u v → F u v) {i j : Nat} (h : rr E i j) : rr F i j := rr_cl (S := fun v => rr F i v) rr_rf (fun u v a b => rr_st a (hs _ _ b)) h
def cB (f : Nat → Bool) : Nat → Nat
  | 0 => 0
  | n + 1 => cB f n + (if f n then 1 else 0)
theorem cB_le (f : Nat → Bool) (n : Nat) : cB f n ≤ n := by
  induction n with
  | zero => exact Nat.le_refl _
  | succ n ih => rw [cB]; split <;> omega
theorem cB_all {f : Nat → Bool} {n : Nat} (h : n ≤ cB f n) : ∀ i, i < n → f i = true := by
  induction n with
  | zero => intro i hi; omega
  | succ n ih =>
    rw [cB] at h
    have := cB_le f n
    intro i hi
    cases e : f n with
    | true =>
      rw [e] at h
      simp at h
      by_cases g : i = n
      · rw [g]; exact e
      · exact ih h i (by omega)
    | false => rw [e] at h; simp at h; omega
theorem cB_mono {f g : Nat → Bool} {n : Nat} (h : ∀ i, i < n → f i = true → g i = true) : cB f n ≤ cB g n := by
  induction n with
  | zero => exact Nat.le_refl _
  | succ n ih =>
    rw [cB, cB]
    have h1 := ih (fun i hi => h i (by omega))
    have h2 := h n (by omega)
    cases e : f n with
    | true => rw [h2 e]; simp; exact h1
    | false => simp; omega
theorem cB_lt {f g : Nat → Bool} {n : Nat} (h : ∀ i, i < n → f i = true → g i = true) {j : Nat} (hj : j < n) (h1 : f j = false) (h2 : g j = true) : cB f n < cB g n := by
  induction n with
  | zero => omega
  | succ n ih =>
    rw [cB, cB]
    by_cases e : j = n
    · subst e
      rw [h1, h2]
      have := cB_mono (f := f) (g := g) (n := j) (fun i hi => h i (by omega))
      simp
      omega
    · have a := ih (fun i hi => h i (by omega)) (by omega)
      have b := h n (by omega)
      cases e2 : f n with
      | true => rw [b e2]; simp; omega
      | false => simp; omega
theorem cB_pos {f : Nat → Bool} {n j : Nat} (hj : j < n) (h : f j = true) : 1 ≤ cB f n := by
  have : cB (fun _ => false) n < cB f n := cB_lt (fun i _ h => by cases h) hj rfl h
  omega
/-! lines as ways -/
/-- line l leads between i and j -/
def tB2 (t : Nt) (l i j : Nat) : Prop := (tA t l = i ∧ tB t l = j) ∨ (tA t l = j ∧ tB t l = i)
/-- line l is there, and isn't the one left out -/
def tU (t : Nt) (s : Int32) (l : Nat) : Prop := l < tL t ∧ tOv t l = false ∧ nI l ≠ s
def tE (t : Nt) (s : Int32) (i j : Nat) : Prop := ∃ l, tU t s l ∧ tB2 t l i j
def tEg (t : Nt) (s g : Int32) (i j : Nat) : Prop := tE t s i j ∧ bt g i = false ∧ bt g j = false
theorem tE_lt {t : Nt} (O : NtOK t) {s : Int32} {i j : Nat} (h : tE t s i j) : i < tN t ∧ j < tN t := by
  obtain ⟨l, h1, h2⟩ := h
  have := O.2.2.2.2.1 l h1.1
  rcases h2 with ⟨rfl, rfl⟩ | ⟨rfl, rfl⟩
  · exact ⟨this.1, this.2.1⟩
  · exact ⟨this.2.1, this.1⟩
theorem tEg_sy {t : Nt} {s g : Int32} {i j : Nat} (h : tEg t s g i j) : tEg t s g j i := by
  obtain ⟨⟨l, h1, h2⟩, h3, h4⟩ := h
  exact ⟨⟨l, h1, Or.symm h2⟩, h4, h3⟩
theorem rr_lt {t : Nt} (O : NtOK t) {s g : Int32} {i j : Nat} (hi : i < tN t) (h : rr (tEg t s g) i j) : j < tN t := rr_cl (S := fun v => v < tN t) hi (fun _ _ _ b => (tE_lt O b.1).2) h
/-! the class: joinPosts -/
theorem p_join0 {N : Nat} (hN : N ≤ 9) (s : Int32) : ∀ (n i : Nat) (σ : nS), σ 1 5 = nI N → i ≤ N → N < i + n → ∃ σ', (∀ K, gN_joinPosts_L2 s K n (nI i) σ = K σ') ∧ (∀ c, c ≠ 8 → σ' c = σ c) ∧ (∀ u, u < i → σ' 8 u = σ 8 u) ∧ ∀ u, i ≤ u → u < N → σ' 8 u = 0 := by
  intro n
  induction n with
  | zero => intro i σ _ h1 h2; omega
  | succ n ih =>
    intro i σ hs h1 h2
    by_cases e : i = N
    · subst e
      refine ⟨σ, fun K => ?_, fun _ _ => rfl, fun _ _ => rfl, fun u a b => by omega⟩
      rw [gN_joinPosts_L2, hs, if_pos (nI_le (Nat.le_refl _) (by omega))]
    · obtain ⟨σ', q1, q2, q3, q4⟩ := ih (i + 1) (nst σ 8 i 0) (by rw [n_o (by decide)]; exact hs) (by omega) (by omega)
      refine ⟨σ', fun K => ?_, fun c hc => by rw [q2 c hc, n_o hc], fun u hu => by rw [q3 u (by omega), n_n (by omega)], fun u a b => ?_⟩
      · rw [gN_joinPosts_L2, hs, if_neg (nI_ge (by omega) (by omega)), if_pos ((z_in (by omega)).mpr (by omega)), nI_1, z_cl (by omega)]
        exact q1 K
      · by_cases f : u = i
        · rw [q3 u (by omega), f, n_s]
        · exact q4 u (by omega) b
theorem p_join1 {t : Nt} (O : NtOK t) {σ0 : nS} (hC : RC σ0 t) (s : Int32) : ∀ (n l : Nat) (σ : nS), (∀ c, c ≠ 8 → σ c = σ0 c) → l ≤ tL t → tL t < l + n → ∃ σ', (∀ K, gN_joinPosts_L25 s K n (nI l) σ = K σ') ∧ (∀ c, c ≠ 8 → σ' c = σ c) ∧ ∀ i j, i < tN t → (bt (σ' 8 i) j = true ↔ (bt (σ 8 i) j = true ∨ ∃ m, l ≤ m ∧ tU t s m ∧ tB2 t m i j)) := by
  have hL := O.2.1
  have hN := O.1
  intro n
  induction n with
  | zero => intro l σ _ h1 h2; omega
  | succ n ih =>
    intro l σ hs h1 h2
    have h6 : σ 1 6 = nI (tL t) := by rw [hs 1 (by decide)]; exact hC.2.1
    by_cases e : l = tL t
    · subst e
      refine ⟨σ, fun K => ?_, fun _ _ => rfl, fun i j hi => ?_⟩
      · rw [gN_joinPosts_L25, h6, if_pos (nI_le (Nat.le_refl _) (by omega))]
      · constructor
        · exact Or.inl
        · rintro (h | ⟨m, h3, h4, -⟩)
          · exact h
          · have := h4.1; omega
    · have hl : l < tL t := by omega
      obtain ⟨e2, e3, e4, e5, e6⟩ := hC.2.2.2.2.1 l hl
      rw [← hs 2 (by decide)] at e2
      rw [← hs 3 (by decide)] at e3
      rw [← hs 6 (by decide)] at e6
      obtain ⟨ha, hb, hab, -⟩ := O.2.2.2.2.1 l hl
      have i24 : inb (nI l) 24 := (z_in (by omega)).mpr (by omega)
      have cl : (nI l).toNatClampNeg = l := z_cl (by omega)
      by_cases hu : tU t s l
      · have hov : σ 6 l = 0 := by rw [e6, hu.2.1]; rfl
        have ia : inb (nI (tA t l)) 9 := (z_in (by omega)).mpr (by omega)
        have ib : inb (nI (tB t l)) 9 := (z_in (by omega)).mpr (by omega)
        have ca : (nI (tA t l)).toNatClampNeg = tA t l := z_cl (by omega)
        have cb : (nI (tB t l)).toNatClampNeg = tB t l := z_cl (by omega)
        obtain ⟨σ', q1, q2, q3⟩ := ih (l + 1) (nst (nst σ 8 (tA t l) ((σ 8 (tA t l)) ||| ((1 : Int32) <<< (nI (tB t l) &&& 31)))) 8 (tB t l) ((σ 8 (tB t l)) ||| ((1 : Int32) <<< (nI (tA t l) &&& 31)))) (fun c hc => by rw [n_o hc, n_o hc]; exact hs c hc) (by omega) (by omega)
        refine ⟨σ', fun K => ?_, fun c hc => by rw [q2 c hc, n_o hc, n_o hc], fun i j hi => ?_⟩
        · rw [gN_joinPosts_L25, h6, if_neg (nI_ge (by omega) (by omega))]
          simp only [if_pos i24, cl, hov, if_true, if_neg hu.2.2, e2, e3, if_pos ia, if_pos ib, ca, cb, n_o (show (3 : Nat) ≠ 8 by decide), n_o (show (2 : Nat) ≠ 8 by decide), nI_1, n_n hab.symm]
          exact q1 K
        · rw [q3 i j hi]
          have hbits : bt (nst (nst σ 8 (tA t l) ((σ 8 (tA t l)) ||| ((1 : Int32) <<< (nI (tB t l) &&& 31)))) 8 (tB t l) ((σ 8 (tB t l)) ||| ((1 : Int32) <<< (nI (tA t l) &&& 31))) 8 i) j = true ↔ (bt (σ 8 i) j = true ∨ tB2 t l i j) := by
            by_cases f1 : i = tB t l
            · subst f1
              rw [n_s, b_or, h_sh (by omega)]
              unfold tB2
              simp only [Bool.or_eq_true, decide_eq_true_eq]
              constructor
              · rintro (h | h)
                · exact Or.inl h
                · exact Or.inr (Or.inr ⟨h.symm, trivial⟩)
              · rintro (h | ⟨h, h2⟩ | ⟨h, h2⟩)
                · exact Or.inl h
                · exact absurd h hab
                · exact Or.inr h.symm
            · rw [n_n f1]
              by_cases f2 : i = tA t l
              · subst f2
                rw [n_s, b_or, h_sh (by omega)]
                unfold tB2
                simp only [Bool.or_eq_true, decide_eq_true_eq]
                constructor
                · rintro (h | h)
                  · exact Or.inl h
                  · exact Or.inr (Or.inl ⟨trivial, h.symm⟩)
                · rintro (h | ⟨h, h2⟩ | ⟨h, h2⟩)
                  · exact Or.inl h
                  · exact Or.inr h2.symm
                  · exact absurd h2.symm hab
              · rw [n_n f2]
                unfold tB2
                constructor
                · exact Or.inl
                · rintro (h | h)
                  · exact h
                  · omega
          rw [hbits]
          constructor
          · rintro ((h | h) | ⟨m, h3, h4⟩)
            · exact Or.inl h
            · exact Or.inr ⟨l, Nat.le_refl _, hu, h⟩
            · exact Or.inr ⟨m, by omega, h4⟩
          · rintro (h | ⟨m, h3, h4⟩)
            · exact Or.inl (Or.inl h)
            · by_cases f : m = l
              · subst f; exact Or.inl (Or.inr h4.2)
              · exact Or.inr ⟨m, by omega, h4⟩
      · obtain ⟨σ', q1, q2, q3⟩ := ih (l + 1) σ hs (by omega) (by omega)
        refine ⟨σ', fun K => ?_, q2, fun i j hi => ?_⟩
        · rw [gN_joinPosts_L25, h6, if_neg (nI_ge (by omega) (by omega)), if_pos i24, cl, e6, nI_1]
          cases hov : tOv t l with
          | true => rw [if_neg (by decide)]; exact q1 K
          | false =>
            have hsx : nI l = s := by
              by_cases f : nI l = s
              · exact f
              · exact absurd ⟨hl, hov, f⟩ hu
            rw [if_pos (by decide), if_pos hsx]; exact q1 K
        · rw [q3 i j hi]
          constructor
          · rintro (h | ⟨m, h3, h4⟩)
            · exact Or.inl h
            · exact Or.inr ⟨m, by omega, h4⟩
          · rintro (h | ⟨m, h3, h4⟩)
            · exact Or.inl h
            · by_cases f : m = l
              · subst f; exact absurd h4.1 hu
              · exact Or.inr ⟨m, by omega, h4⟩
theorem p_joinPosts {t : Nt} (O : NtOK t) {σ : nS} (hC : RC σ t) (s : Int32) : ∃ σ', gN_joinPosts s σ = some σ' ∧ (∀ c, c ≠ 8 → σ' c = σ c) ∧ ∀ i j, i < tN t → (bt (σ' 8 i) j = true ↔ tE t s i j) := by
  obtain ⟨σ1, q1, q2, q3, q4⟩ := p_join0 O.1 s nFU 0 σ hC.1 (by omega) (by have := O.1; unfold nFU; omega)
  obtain ⟨σ2, r1, r2, r3⟩ := p_join1 O hC s nFU 0 σ1 q2 (by omega) (by have := O.2.1; unfold nFU; omega)
  refine ⟨σ2, ?_, fun c hc => by rw [r2 c hc, q2 c hc], fun i j hi => ?_⟩
  · unfold gN_joinPosts
    rw [z_0, q1, r1]
  · rw [r3 i j hi, q4 i (by omega) hi, b_0]
    constructor
    · rintro (h | ⟨m, -, h⟩)
      · cases h
      · exact ⟨m, h⟩
    · rintro ⟨m, h⟩
      exact Or.inr ⟨m, by omega, h⟩
/-! the class: reach -/
theorem p_reach0 {σ : nS} {N : Nat} (hN : N ≤ 9) (hs : σ 1 5 = nI N) (g r st : Int32) : ∀ (n i : Nat) (w : Int32), i ≤ N → N < i + n → ∃ w', (∀ K, gN_reach_L22 g r st σ K n w (nI i) = K w') ∧ ∀ j, j < 32 → (bt w' j = true ↔ (bt w j = true ∨ ∃ u, i ≤ u ∧ u < N ∧ bt r u = true ∧ bt (σ 8 u) j = true ∧ bt g j = false)) := by
  intro n
  induction n with
  | zero => intro i w h1 h2; omega
  | succ n ih =>
    intro i w h1 h2
    by_cases e : i = N
    · subst e
      refine ⟨w, fun K => ?_, fun j hj => ?_⟩
      · rw [gN_reach_L22, hs, if_pos (nI_le (Nat.le_refl _) (by omega))]
      · constructor
        · exact Or.inl
        · rintro (h | ⟨u, h3, h4, -⟩)
          · exact h
          · omega
    · cases hb : bt r i with
      | false =>
        obtain ⟨w', q1, q2⟩ := ih (i + 1) w (by omega) (by omega)
        refine ⟨w', fun K => ?_, fun j hj => ?_⟩
        · rw [gN_reach_L22, hs, if_neg (nI_ge (by omega) (by omega)), p_holds _ (by omega), hb, nI_1]
          exact q1 K
        · rw [q2 j hj]
          constructor
          · rintro (h | ⟨u, h3, h4⟩)
            · exact Or.inl h
            · exact Or.inr ⟨u, by omega, h4⟩
          · rintro (h | ⟨u, h3, h4⟩)
            · exact Or.inl h
            · by_cases f : u = i
              · subst f; rw [hb] at h4; cases h4.2.1
              · exact Or.inr ⟨u, by omega, h4⟩
      | true =>
        obtain ⟨w', q1, q2⟩ := ih (i + 1) (w ||| ((σ 8 i) &&& (g ^^^ (-1 : Int32)))) (by omega) (by omega)
        refine ⟨w', fun K => ?_, fun j hj => ?_⟩
        · rw [gN_reach_L22, hs, if_neg (nI_ge (by omega) (by omega)), p_holds _ (by omega), hb, nI_1, z_cl (by omega)]
          simp only [Option.bind_some]
          rw [if_neg (by decide), if_pos ((z_in (by omega)).mpr (by omega))]
          exact q1 K
        · rw [q2 j hj, b_or, b_and, h_not _ hj]
          constructor
          · rintro (h | ⟨u, h3, h4⟩)
            · simp at h
              rcases h with h | h
              · exact Or.inl h
              · exact Or.inr ⟨i, Nat.le_refl _, by omega, hb, h.1, h.2⟩
            · exact Or.inr ⟨u, by omega, h4⟩
          · rintro (h | ⟨u, h3, h4⟩)
            · left; simp [h]
            · by_cases f : u = i
              · subst f; left; simp [h4.2.2.1, h4.2.2.2]
              · exact Or.inr ⟨u, by omega, h4⟩
theorem p_reach {t : Nt} (O : NtOK t) {σ : nS} {s g : Int32} (hs : σ 1 5 = nI (tN t)) (hJ : ∀ i j, i < tN t → (bt (σ 8 i) j = true ↔ tE t s i j)) {a : Nat} (ha : a < tN t) (hga : bt g a = false) : ∃ r, gN_reach (nI a) g σ = some r ∧ ∀ j, bt r j = true ↔ rr (tEg t s g) a j := by
  have hN := O.1
  have key : ∀ (n st : Nat) (r : Int32), st ≤ tN t → tN t < st + n → st ≤ cB (fun j => bt r j) (tN t) → bt r a = true → (∀ j, bt r j = true → rr (tEg t s g) a j ∧ bt g j = false) → ∃ r', gN_reach_L7 g σ (fun w => some w) n r (nI st) = some r' ∧ ∀ j, bt r' j = true ↔ rr (tEg t s g) a j := by
    intro n
    induction n with
    | zero => intro st r h1 h2; omega
    | succ n ih =>
      intro st r h1 h2 h3 h4 h5
      by_cases e : st = tN t
      · subst e
        refine ⟨r, ?_, fun j => ⟨fun h => (h5 j h).1, fun h => ?_⟩⟩
        · rw [gN_reach_L7, hs, if_pos (nI_le (Nat.le_refl _) (by omega))]
        · exact cB_all h3 j (rr_lt O ha h)
      · obtain ⟨w, q1, q2⟩ := p_reach0 hN hs g r (nI st) nFU 0 r (by omega) (by unfold nFU; omega)
        have hsub : ∀ j, bt r j = true → bt w j = true := fun j h => by
          have hj : j < 32 := by
            by_cases f : j < 32
            · exact f
            · rw [b_big (by omega)] at h; cases h
          exact (q2 j hj).mpr (Or.inl h)
        have hw : ∀ j, bt w j = true → rr (tEg t s g) a j ∧ bt g j = false := fun j h => by
          have hj : j < 32 := by
            by_cases f : j < 32
            · exact f
            · rw [b_big (by omega)] at h; cases h
          rcases (q2 j hj).mp h with h6 | ⟨u, -, hu, h7, h8, h9⟩
          · exact h5 j h6
          · exact ⟨rr_st (h5 u h7).1 ⟨(hJ u j hu).mp h8, (h5 u h7).2, h9⟩, h9⟩
        rw [gN_reach_L7, hs, if_neg (nI_ge (by omega) (by omega)), z_0, q1]
        by_cases f : w = r
        · rw [if_pos f]
          refine ⟨r, rfl, fun j => ⟨fun h => (h5 j h).1, fun h => ?_⟩⟩
          refine rr_cl (S := fun v => bt r v = true) h4 (fun u v hu huv => ?_) h
          have hlt := tE_lt O huv.1
          rw [← f]
          exact (q2 v (by omega)).mpr (Or.inr ⟨u, by omega, hlt.1, hu, (hJ u v hlt.1).mpr huv.1, huv.2.2⟩)
        · rw [if_neg f, nI_1]
          refine ih (st + 1) w (by omega) (by omega) ?_ (hsub a h4) hw
          have hex : ∃ j, j < 32 ∧ bt r j = false ∧ bt w j = true := by
            by_cases g0 : ∃ j, j < 32 ∧ bt r j = false ∧ bt w j = true
            · exact g0
            · exfalso
              apply f
              apply b_ext
              intro j hj
              cases e1 : bt r j with
              | true => exact hsub j e1
              | false =>
                cases e2 : bt w j with
                | false => rfl
                | true => exact absurd ⟨j, hj, e1, e2⟩ g0
          obtain ⟨j, hj, e1, e2⟩ := hex
          have := cB_lt (f := fun j => bt r j) (g := fun j => bt w j) (n := tN t) (fun i _ h => hsub i h) (rr_lt O ha (hw j e2).1) e1 e2
          omega
  unfold gN_reach
  refine key nFU 1 _ (by omega) (by unfold nFU; omega) ?_ ?_ ?_
  · exact cB_pos (j := a) ha (by rw [h_sh (by omega)]; simp)
  · rw [h_sh (by omega)]; simp
  · intro j hj
    rw [h_sh (by omega)] at hj
    have : j = a := by simpa using hj
    rw [this]
    exact ⟨rr_rf, hga⟩
