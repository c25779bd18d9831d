/-! the net: posts, lines, pairs; price of a post; a line's two posts and price; liking, ended; terminals; the pairs' two posts -/
abbrev Nt : Type := (Nat × Nat × Nat) × (Nat → Nat) × (Nat → Nat) × (Nat → Nat) × (Nat → Nat) × (Nat → Bool) × (Nat → Bool) × (Nat → Bool) × (Nat → Nat) × (Nat → Nat)
def tN (t : Nt) : Nat := t.1.1
def tL (t : Nt) : Nat := t.1.2.1
def tK (t : Nt) : Nat := t.1.2.2
def tPr (t : Nt) : Nat → Nat := t.2.1
def tA (t : Nt) : Nat → Nat := t.2.2.1
def tB (t : Nt) : Nat → Nat := t.2.2.2.1
def tC (t : Nt) : Nat → Nat := t.2.2.2.2.1
def tLk (t : Nt) : Nat → Bool := t.2.2.2.2.2.1
def tOv (t : Nt) : Nat → Bool := t.2.2.2.2.2.2.1
def tTe (t : Nt) : Nat → Bool := t.2.2.2.2.2.2.2.1
def tX (t : Nt) : Nat → Nat := t.2.2.2.2.2.2.2.2.1
def tY (t : Nt) : Nat → Nat := t.2.2.2.2.2.2.2.2.2
def mkT (n l k : Nat) (pr a b c : Nat → Nat) (lk ov te : Nat → Bool) (x y : Nat → Nat) : Nt := ((n, l, k), pr, a, b, c, lk, ov, te, x, y)
section MK
variable {n l k : Nat} {pr a b c : Nat → Nat} {lk ov te : Nat → Bool} {x y : Nat → Nat}
theorem m_N : tN (mkT n l k pr a b c lk ov te x y) = n := rfl
theorem m_L : tL (mkT n l k pr a b c lk ov te x y) = l := rfl
theorem m_K : tK (mkT n l k pr a b c lk ov te x y) = k := rfl
theorem m_Pr : tPr (mkT n l k pr a b c lk ov te x y) = pr := rfl
theorem m_A : tA (mkT n l k pr a b c lk ov te x y) = a := rfl
theorem m_B : tB (mkT n l k pr a b c lk ov te x y) = b := rfl
theorem m_C : tC (mkT n l k pr a b c lk ov te x y) = c := rfl
theorem m_Lk : tLk (mkT n l k pr a b c lk ov te x y) = lk := rfl
theorem m_Ov : tOv (mkT n l k pr a b c lk ov te x y) = ov := rfl
theorem m_Te : tTe (mkT n l k pr a b c lk ov te x y) = te := rfl
theorem m_X : tX (mkT n l k pr a b c lk ov te x y) = x := rfl
theorem m_Y : tY (mkT n l k pr a b c lk ov te x y) = y := rfl
end MK
theorem z9 : (9 : Int32) = nI 9 := rfl
theorem z8 : (8 : Int32) = nI 8 := rfl
theorem z24 : (24 : Int32) = nI 24 := rfl
theorem z99 : (99 : Int32) = nI 99 := rfl
theorem zm1 (n : Nat) : nI (n + 1) - (1 : Int32) = nI n := nI_pred n
/-- the s-th pair is i and j -/
def tS (t : Nt) (s i j : Nat) : Prop := (tX t s = i ∧ tY t s = j) ∨ (tX t s = j ∧ tY t s = i)
def tP (t : Nt) (i j : Nat) : Prop := ∃ s, s < tK t ∧ tS t s i j
def NtOK (t : Nt) : Prop := tN t ≤ 9 ∧ tL t ≤ 24 ∧ tK t ≤ 8 ∧ (∀ i, i < tN t → 1 ≤ tPr t i ∧ tPr t i ≤ 99) ∧ (∀ l, l < tL t → tA t l < tN t ∧ tB t l < tN t ∧ tA t l ≠ tB t l ∧ tC t l ≤ 99) ∧ (∀ i, tTe t i = true → i < tN t) ∧ (∀ s, s < tK t → tX t s < tN t ∧ tY t s < tN t ∧ tX t s ≠ tY t s) ∧ (∀ s r, s < tK t → r < tK t → tS t s (tX t r) (tY t r) → s = r)
def RC (σ : nS) (t : Nt) : Prop := σ 1 5 = nI (tN t) ∧ σ 1 6 = nI (tL t) ∧ σ 0 4 = nI (tK t) ∧ (∀ i, i < tN t → σ 7 i = nI (tPr t i)) ∧ (∀ l, l < tL t → σ 2 l = nI (tA t l) ∧ σ 3 l = nI (tB t l) ∧ σ 4 l = nI (tC t l) ∧ σ 5 l = zb (tLk t l) ∧ σ 6 l = zb (tOv t l)) ∧ (∀ l, tL t ≤ l → σ 6 l = 0) ∧ (∀ i, bt (σ 0 5) i = tTe t i) ∧ (∀ i j, i < 9 → (bt (σ 47 i) j = true ↔ tP t i j))
def RM (τ : nS) (t : Nt) : Prop := τ 0 2 = nI (tN t) ∧ τ 0 8 = nI (tL t) ∧ τ 0 11 = nI (tK t) ∧ (∀ i, i < tN t → τ 1 i = nI (tPr t i)) ∧ (∀ l, l < tL t → τ 3 l = nI (tA t l) ∧ τ 4 l = nI (tB t l) ∧ τ 5 l = nI (tC t l) ∧ τ 6 l = zb (tLk t l) ∧ τ 7 l = zb (tOv t l)) ∧ (∀ l, tL t ≤ l → τ 7 l = 0) ∧ (∀ i, i < 9 → τ 2 i = zb (tTe t i)) ∧ (∀ s, s < tK t → τ 8 s = nI (tX t s) ∧ τ 9 s = nI (tY t s))
def eqC (σ σ' : nS) : Prop := ∀ c, (c < 8 ∨ c = 47) → σ' c = σ c
def eqM (τ τ' : nS) : Prop := (∀ c, 1 ≤ c → c < 10 → τ' c = τ c) ∧ ∀ i, i < 14 → τ' 0 i = τ 0 i
theorem RC.keep {σ σ' : nS} {t : Nt} (h : RC σ t) (e : eqC σ σ') : RC σ' t := by
  unfold RC at h ⊢
  rw [e 0 (by omega), e 1 (by omega), e 2 (by omega), e 3 (by omega), e 4 (by omega), e 5 (by omega), e 6 (by omega), e 7 (by omega), e 47 (by omega)]
  exact h
theorem RM.keep {τ τ' : nS} {t : Nt} (h : RM τ t) (e : eqM τ τ') : RM τ' t := by
  unfold RM at h ⊢
  rw [e.1 1 (by omega) (by omega), e.1 2 (by omega) (by omega), e.1 3 (by omega) (by omega), e.1 4 (by omega) (by omega), e.1 5 (by omega) (by omega), e.1 6 (by omega) (by omega), e.1 7 (by omega) (by omega), e.1 8 (by omega) (by omega), e.1 9 (by omega) (by omega), e.2 2 (by omega), e.2 8 (by omega), e.2 11 (by omega)]
  exact h
theorem eqC.rf (σ : nS) : eqC σ σ := fun _ _ => rfl
theorem eqM.rf (τ : nS) : eqM τ τ := ⟨fun _ _ _ => rfl, fun _ _ => rfl⟩
theorem eqC.tr {a b c : nS} (h : eqC a b) (g : eqC b c) : eqC a c := fun k hk => (g k hk).trans (h k hk)
theorem eqM.tr {a b c : nS} (h : eqM a b) (g : eqM b c) : eqM a c := ⟨fun k h1 h2 => (g.1 k h1 h2).trans (h.1 k h1 h2), fun i hi => (g.2 i hi).trans (h.2 i hi)⟩
/-- one call of both -/
def nStp (A B : Option (Int32 × nS)) : Prop := ∃ (r : Int32) (σ τ : nS) (t : Nt), A = some (r, σ) ∧ B = some (r, τ) ∧ NtOK t ∧ RC σ t ∧ RM τ t
theorem z_rng (x : Int32) (lo hi : Nat) (hl : lo < 2 ^ 31) (hh : hi < 2 ^ 31) : (x < nI lo ∨ nI hi < x) ∨ ∃ v : Nat, lo ≤ v ∧ v ≤ hi ∧ x = nI v := by
  by_cases h0 : x < 0
  · left; left
    rw [Int32.lt_iff_toInt_lt] at h0 ⊢
    rw [nI_toInt hl]
    have : (0 : Int32).toInt = 0 := rfl
    omega
  · obtain ⟨j, hj, rfl⟩ := nI_of h0
    by_cases h1 : j < lo
    · exact Or.inl (Or.inl ((z_lt hj hl).mpr h1))
    · by_cases h2 : hi < j
      · exact Or.inl (Or.inr ((z_lt hh hj).mpr h2))
      · exact Or.inr ⟨j, by omega, by omega, rfl⟩
theorem z_not {x : Int32} {m : Nat} (hm : m < 2 ^ 31) (h : x < 0 ∨ nI m ≤ x) : ¬ inb x m := by
  intro g
  obtain ⟨j, hj, rfl⟩ := z_of g hm
  rcases h with h | h
  · exact nI_pos (by omega) h
  · exact nI_ge hj hm h
/-- the two tests of a number 0 .. m - 1 -/
theorem p_rng {α : Type} {x : Int32} {m : Nat} (hm : m < 2 ^ 31) {a b : α} : (if x < 0 then b else (if nI m ≤ x then b else a)) = if inb x m then a else b := by
  rcases z_ix x hm with h | ⟨j, hj, rfl⟩
  · rw [if_neg (z_not hm h)]
    rcases h with h | h
    · rw [if_pos h]
    · rw [if_pos h]; split <;> rfl
  · rw [if_neg (nI_pos (by omega)), if_neg (nI_ge hj hm), if_pos ((z_in (by omega)).mpr hj)]
theorem p_hasPost {σ : nS} {t : Nt} (O : NtOK t) (h : RC σ t) (x : Int32) : gN_hasPost x σ = some (zb (decide (inb x (tN t)))) := by
  unfold gN_hasPost
  rw [h.1, p_rng (by have := O.1; omega)]
  by_cases g : inb x (tN t) <;> simp [g, zb]
theorem p_hasTwo {σ : nS} {t : Nt} (O : NtOK t) (h : RC σ t) (x y : Int32) : gN_hasTwo x y σ = some (zb (decide (inb x (tN t) ∧ inb y (tN t) ∧ x ≠ y))) := by
  unfold gN_hasTwo
  rw [p_hasPost O h, p_hasPost O h]
  by_cases g1 : inb x (tN t) <;> by_cases g2 : inb y (tN t) <;> by_cases g3 : x = y <;> simp [g1, g2, g3, zb]
  all_goals (subst g3; simp_all)
theorem p_in (x lo hi : Int32) (σ : nS) : gM_in x lo hi σ = some (zb (decide (¬ x < lo ∧ ¬ hi < x))) := by
  unfold gM_in
  by_cases g1 : x < lo <;> by_cases g2 : hi < x <;> simp [g1, g2, zb]
theorem p_inN {m : Nat} (hm : m < 2 ^ 31) (x : Int32) (σ : nS) : gM_in x 0 (nI m - 1) σ = some (zb (decide (inb x m))) := by
  rw [p_in]
  congr 2
  apply decide_eq_decide.mpr
  rcases z_ix x hm with h | ⟨j, hj, rfl⟩
  · constructor
    · rintro ⟨g1, g2⟩
      exfalso
      rcases h with h | h
      · exact g1 h
      · obtain ⟨j, hj, rfl⟩ := nI_of g1
        have hmj : m ≤ j := (z_le hm hj).mp h
        apply g2
        cases m with
        | zero =>
          rw [Int32.lt_iff_toInt_lt, nI_toInt hj]
          have : (nI 0 - 1).toInt = -1 := rfl
          omega
        | succ m => rw [nI_pred]; exact (z_lt (by omega) hj).mpr (by omega)
    · intro g; exact absurd g (z_not hm h)
  · constructor
    · intro _; exact (z_in (by omega)).mpr hj
    · intro _
      refine ⟨nI_pos (by omega), ?_⟩
      cases m with
      | zero => omega
      | succ m => rw [nI_pred]; exact nI_nlt (by omega) (by omega)
theorem p_isPost {τ : nS} {t : Nt} (O : NtOK t) (h : RM τ t) (x : Int32) : gM_isPost x τ = some (zb (decide (inb x (tN t)))) := by
  unfold gM_isPost
  rw [h.1, p_inN (by have := O.1; omega)]
  simp only [Option.bind_some]
  rw [if_pos (zb_z _)]
theorem p_hasLine {σ : nS} {t : Nt} (O : NtOK t) (h : RC σ t) (x : Int32) : gN_hasLine x σ = some (zb (decide (inb x (tL t) ∧ tOv t x.toNatClampNeg = false))) := by
  have hL := O.2.1
  unfold gN_hasLine
  rw [h.2.1, p_rng (by omega)]
  by_cases g : inb x (tL t)
  · obtain ⟨j, hj, rfl⟩ := z_of g (by omega)
    rw [if_pos g, if_pos ((z_in (by omega)).mpr (by omega)), z_cl (by omega), (h.2.2.2.2.1 j hj).2.2.2.2]
    cases e : tOv t j <;> simp [g, zb]
  · simp [g, zb]
theorem p_isLine {τ : nS} {t : Nt} (O : NtOK t) (h : RM τ t) (x : Int32) : gM_isLine x τ = some (zb (decide (inb x (tL t) ∧ tOv t x.toNatClampNeg = false))) := by
  have hL := O.2.1
  unfold gM_isLine
  rw [h.2.1, p_inN (by omega)]
  simp only [Option.bind_some]
  by_cases g : inb x (tL t)
  · obtain ⟨j, hj, rfl⟩ := z_of g (by omega)
    rw [if_neg (by simp [g, zb]), if_pos ((z_in (by omega)).mpr (by omega)), z_cl (by omega), (h.2.2.2.2.1 j hj).2.2.2.2]
    cases e : tOv t j <;> simp [g, zb]
  · simp [g, zb]
theorem st_post {σ τ : nS} {t : Nt} (O : NtOK t) (hC : RC σ t) (hM : RM τ t) (x : Int32) : nStp (gC_post x σ) (gM_post x τ) := by
  have hN := O.1
  rcases z_rng x 1 99 (by omega) (by omega) with h | ⟨v, h1, h2, rfl⟩
  · refine ⟨-1, σ, τ, t, ?_, ?_, O, hC, hM⟩
    · unfold gC_post gN_addPost
      rcases h with h | h
      · rw [if_pos (show x < (1 : Int32) from h)]; rfl
      · by_cases g : x < (1 : Int32)
        · rw [if_pos g]; rfl
        · rw [if_neg g, if_pos (show (99 : Int32) < x from h)]; rfl
    · unfold gM_post
      rw [p_in]
      simp only [Option.bind_some]
      rw [if_pos ((zb_0 _).mpr (decide_eq_false (by rintro ⟨g1, g2⟩; rcases h with h | h; exact g1 h; exact g2 h)))]
  · have e1 : ¬ nI v < (1 : Int32) := nI_nlt (a := v) (b := 1) h1 (by omega)
    have e2 : ¬ (99 : Int32) < nI v := nI_nlt (a := 99) (b := v) h2 (by omega)
    by_cases h9 : tN t = 9
    · refine ⟨-1, σ, τ, t, ?_, ?_, O, hC, hM⟩
      · unfold gC_post gN_addPost
        rw [if_neg e1, if_neg e2, hC.1, h9, if_neg (by decide)]; rfl
      · unfold gM_post
        rw [p_in]
        simp only [Option.bind_some]
        rw [if_neg (by simp [zb, e1, e2]), hM.1, h9, if_pos (by rfl)]
    · have hlt : tN t < 9 := by omega
      refine ⟨nI (tN t), nst (nst σ 7 (tN t) (nI v)) 1 5 (nI (tN t + 1)), nst (nst τ 1 (tN t) (nI v)) 0 2 (nI (tN t + 1)), mkT (tN t + 1) (tL t) (tK t) (fun i => if i = tN t then v else tPr t i) (tA t) (tB t) (tC t) (tLk t) (tOv t) (tTe t) (tX t) (tY t), ?_, ?_, ?_, ?_, ?_⟩
      · unfold gC_post gN_addPost
        rw [if_neg e1, if_neg e2, hC.1, z9, if_pos ((z_lt (by omega) (by omega)).mpr hlt), if_pos ((z_in (by omega)).mpr hlt), z_cl (by omega)]
        have e : nst σ 7 (tN t) (nI v) 1 5 = nI (tN t) := by rw [n_o (by decide)]; exact hC.1
        simp only [e, n_s, nI_1, zm1, Option.bind_some]
      · unfold gM_post
        rw [p_in]
        simp only [Option.bind_some]
        rw [if_neg (by simp [zb, e1, e2]), hM.1, z9, if_neg (by intro h; exact h9 ((z_eq (by omega) (by omega)).mp h)), if_pos ((z_in (by omega)).mpr hlt), z_cl (by omega)]
        have e : nst τ 1 (tN t) (nI v) 0 2 = nI (tN t) := by rw [n_o (by decide)]; exact hM.1
        simp only [e, n_s, nI_1, zm1]
      · obtain ⟨o1, o2, o3, o4, o5, o6, o7, o8⟩ := O
        unfold NtOK tS
        simp only [m_N, m_L, m_K, m_Pr, m_A, m_B, m_C, m_Te, m_X, m_Y]
        refine ⟨by omega, o2, o3, ?_, ?_, ?_, ?_, o8⟩
        · intro i hi
          by_cases e : i = tN t
          · simp only [if_pos e]; omega
          · simp only [if_neg e]; exact o4 i (by omega)
        · intro l hl
          have := o5 l hl
          exact ⟨by omega, by omega, this.2.2⟩
        · intro i hi
          exact Nat.lt_succ_of_lt (o6 i hi)
        · intro s hs
          obtain ⟨q1, q2, q3⟩ := o7 s hs
          exact ⟨Nat.lt_succ_of_lt q1, Nat.lt_succ_of_lt q2, q3⟩
      · obtain ⟨c1, c2, c3, c4, c5, c6, c7, c8⟩ := hC
        unfold RC tP tS
        simp only [m_N, m_L, m_K, m_Pr, m_A, m_B, m_C, m_Lk, m_Ov, m_Te, m_X, m_Y]
        refine ⟨n_s, ?_, ?_, ?_, ?_, ?_, ?_, ?_⟩
        · simpa [n_g] using c2
        · simpa [n_g] using c3
        · intro i hi
          by_cases e : i = tN t
          · simp [n_g, e]
          · simp [n_g, e]; exact c4 i (by omega)
        · intro l hl
          simpa [n_g] using c5 l hl
        · intro l hl
          simpa [n_g] using c6 l hl
        · intro i
          simpa [n_g] using c7 i
        · intro i j hi
          simpa [n_g, tP, tS] using c8 i j hi
      · obtain ⟨c1, c2, c3, c4, c5, c6, c7, c8⟩ := hM
        unfold RM
        simp only [m_N, m_L, m_K, m_Pr, m_A, m_B, m_C, m_Lk, m_Ov, m_Te, m_X, m_Y]
        refine ⟨n_s, ?_, ?_, ?_, ?_, ?_, ?_, ?_⟩
        · simpa [n_g] using c2
        · simpa [n_g] using c3
        · intro i hi
          by_cases e : i = tN t
          · simp [n_g, e]
          · simp [n_g, e]; exact c4 i (by omega)
        · intro l hl
          simpa [n_g] using c5 l hl
        · intro l hl
          simpa [n_g] using c6 l hl
        · intro i hi
          simpa [n_g] using c7 i hi
        · intro i hi
          simpa [n_g] using c8 i hi
