/-- the s-th pair of the reference's rows is x and y -/
def mS (τ : nS) (s : Nat) (x y : Int32) : Prop := (τ 8 s = x ∧ τ 9 s = y) ∨ (τ 8 s = y ∧ τ 9 s = x)
theorem p_pairOf_L {τ : nS} {k : Nat} (hk : τ 0 11 = nI k) (h8 : k ≤ 8) (x y : Int32) (K : Option Int32) : ∀ (n i : Nat), i ≤ k → k < i + n →
    (∃ s, i ≤ s ∧ s < k ∧ mS τ s x y ∧ gM_pairOf_L2 x y τ K n (nI i) = some (nI s)) ∨ ((∀ s, i ≤ s → s < k → ¬ mS τ s x y) ∧ gM_pairOf_L2 x y τ K n (nI i) = K) := by
  intro n
  induction n with
  | zero => intro i h1 h2; omega
  | succ n ih =>
    intro i h1 h2
    rw [gM_pairOf_L2, hk]
    by_cases e : i = k
    · subst e
      right
      refine ⟨fun s h3 h4 => by omega, ?_⟩
      rw [if_pos (nI_le (Nat.le_refl _) (by omega))]
    · have hlt : i < k := by omega
      have i8 : inb (nI i) 8 := (z_in (by omega)).mpr (by omega)
      rw [if_neg (nI_ge hlt (by omega)), z_cl (show i < 2 ^ 31 by omega), nI_1]
      simp only [if_pos i8]
      have hi := ih (i + 1) (by omega) (by omega)
      by_cases hs : mS τ i x y
      · left
        refine ⟨i, Nat.le_refl _, hlt, hs, ?_⟩
        rcases hs with ⟨a, b⟩ | ⟨a, b⟩
        · rw [if_pos a, if_pos b]
        · by_cases c : τ 8 i = x
          · by_cases d : τ 9 i = y
            · rw [if_pos c, if_pos d]
            · rw [if_pos c, if_neg d, if_pos a, if_pos b]
          · rw [if_neg c, if_pos a, if_pos b]
      · have hgo : ∀ A : Option Int32, (if τ 8 i = x then if τ 9 i = y then some (nI i) else if τ 8 i = y then if τ 9 i = x then some (nI i) else A else A else if τ 8 i = y then if τ 9 i = x then some (nI i) else A else A) = A := by
          intro A
          by_cases c : τ 8 i = x
          · by_cases d : τ 9 i = y
            · exact absurd (Or.inl ⟨c, d⟩) hs
            · rw [if_pos c, if_neg d]
              by_cases c2 : τ 8 i = y
              · by_cases d2 : τ 9 i = x
                · exact absurd (Or.inr ⟨c2, d2⟩) hs
                · rw [if_pos c2, if_neg d2]
              · rw [if_neg c2]
          · rw [if_neg c]
            by_cases c2 : τ 8 i = y
            · by_cases d2 : τ 9 i = x
              · exact absurd (Or.inr ⟨c2, d2⟩) hs
              · rw [if_pos c2, if_neg d2]
            · rw [if_neg c2]
        rw [hgo]
        rcases hi with ⟨s, a, b, c, d⟩ | ⟨a, b⟩
        · exact Or.inl ⟨s, by omega, b, c, d⟩
        · refine Or.inr ⟨fun s h3 h4 => ?_, b⟩
          by_cases e2 : s = i
          · subst e2; exact hs
          · exact a s (by omega) h4
theorem p_pairOf {τ : nS} {t : Nt} (O : NtOK t) (h : RM τ t) (x y : Int32) :
    (∃ s, s < tK t ∧ mS τ s x y ∧ gM_pairOf x y τ = some (nI s)) ∨ ((∀ s, s < tK t → ¬ mS τ s x y) ∧ gM_pairOf x y τ = some (-1)) := by
  have h8 := O.2.2.1
  unfold gM_pairOf
  rcases p_pairOf_L h.2.2.1 h8 x y (some (-1 : Int32)) nFU 0 (by omega) (by unfold nFU; omega) with ⟨s, -, a, b, c⟩ | ⟨a, b⟩
  · exact Or.inl ⟨s, a, b, c⟩
  · exact Or.inr ⟨fun s hs => a s (by omega) hs, b⟩
theorem mS_tS {τ : nS} {t : Nt} (O : NtOK t) (h : RM τ t) {s i j : Nat} (hs : s < tK t) (hi : i < 2 ^ 31) (hj : j < 2 ^ 31) : mS τ s (nI i) (nI j) ↔ tS t s i j := by
  obtain ⟨e1, e2⟩ := h.2.2.2.2.2.2.2 s hs
  obtain ⟨o1, o2, -⟩ := O.2.2.2.2.2.2.1 s hs
  have hN := O.1
  unfold mS tS
  rw [e1, e2, z_eq (by omega) hi, z_eq (by omega) hj, z_eq (by omega) hj, z_eq (by omega) hi]
theorem mS_in {τ : nS} {t : Nt} (O : NtOK t) (h : RM τ t) {s : Nat} {x y : Int32} (hs : s < tK t) (hm : mS τ s x y) : inb x (tN t) ∧ inb y (tN t) ∧ x ≠ y := by
  obtain ⟨e1, e2⟩ := h.2.2.2.2.2.2.2 s hs
  obtain ⟨o1, o2, o3⟩ := O.2.2.2.2.2.2.1 s hs
  have hN := O.1
  have i1 : inb (nI (tX t s)) (tN t) := (z_in (by omega)).mpr o1
  have i2 : inb (nI (tY t s)) (tN t) := (z_in (by omega)).mpr o2
  have ne : nI (tX t s) ≠ nI (tY t s) := fun g => o3 ((z_eq (by omega) (by omega)).mp g)
  rcases hm with ⟨a, b⟩ | ⟨a, b⟩
  · rw [← a, ← b, e1, e2]; exact ⟨i1, i2, ne⟩
  · rw [← a, ← b, e1, e2]; exact ⟨i2, i1, ne.symm⟩
/-- the pairs of a post, one turned -/
theorem p_turnPair {σ : nS} {i j : Nat} (hi : i < 9) (hj : j < 9) (hne : i ≠ j) : gC_turnPair (nI i) (nI j) σ = some (nst (nst σ 47 i ((σ 47 i) ^^^ ((1 : Int32) <<< (nI j &&& 31)))) 47 j ((σ 47 j) ^^^ ((1 : Int32) <<< (nI i &&& 31)))) := by
  unfold gC_turnPair
  rw [if_pos ((z_in (by omega)).mpr hi), if_pos ((z_in (by omega)).mpr hi), if_pos ((z_in (by omega)).mpr hj), if_pos ((z_in (by omega)).mpr hj), z_cl (by omega), z_cl (by omega), n_n hne.symm]
theorem tS_sym {t : Nt} {s i j : Nat} : tS t s i j ↔ tS t s j i := by unfold tS; exact or_comm
theorem st_pair {σ τ : nS} {t : Nt} (O : NtOK t) (hC : RC σ t) (hM : RM τ t) (x y : Int32) : nStp (gC_pair x y σ) (gM_pair x y τ) := by
  have hN := O.1
  have hK := O.2.2.1
  by_cases hA : inb x (tN t) ∧ inb y (tN t) ∧ x ≠ y
  · have e0 := hA
    obtain ⟨h1, h2, h3⟩ := hA
    obtain ⟨i, hi, rfl⟩ := z_of h1 (by omega)
    obtain ⟨j, hj, rfl⟩ := z_of h2 (by omega)
    have hne : i ≠ j := fun g => h3 (by rw [g])
    have i9 : inb (nI i) 9 := (z_in (by omega)).mpr (by omega)
    have ci : (nI i).toNatClampNeg = i := z_cl (by omega)
    have hbt := hC.2.2.2.2.2.2.2 i j (by omega)
    rcases p_pairOf O hM (nI i) (nI j) with ⟨s, a, b, c⟩ | ⟨a, c⟩
    · have hb : bt (σ 47 i) j = true := hbt.mpr ⟨s, a, (mS_tS O hM a (by omega) (by omega)).mp b⟩
      refine ⟨0, σ, τ, t, ?_, ?_, O, hC, hM⟩
      · unfold gC_pair
        rw [p_hasTwo O hC, zb_t e0, ci, p_holds _ (show j < 32 by omega), hb]
        simp only [Option.bind_some, if_neg z10, if_pos i9]
        rfl
      · unfold gM_pair
        rw [p_isPost O hM, p_isPost O hM, zb_t h1, zb_t h2, c]
        simp only [Option.bind_some, if_neg z10, if_neg h3]
        rw [if_neg (by intro g; have := congrArg Int32.toInt g; rw [nI_toInt (by omega)] at this; have h9 : (-1 : Int32).toInt = -1 := rfl; omega)]
    · have hb : bt (σ 47 i) j = false := by
        cases e : bt (σ 47 i) j with
        | false => rfl
        | true =>
          obtain ⟨s, hs, hh⟩ := hbt.mp e
          exact absurd ((mS_tS O hM hs (by omega) (by omega)).mpr hh) (a s hs)
      by_cases h9 : tK t = 8
      · refine ⟨0, σ, τ, t, ?_, ?_, O, hC, hM⟩
        · unfold gC_pair
          rw [p_hasTwo O hC, zb_t e0, ci, p_holds _ (show j < 32 by omega), hb]
          simp only [Option.bind_some, if_neg z10, if_pos i9]
          rw [if_pos (by rfl), hC.2.2.1, h9, if_neg (by decide)]
        · unfold gM_pair
          rw [p_isPost O hM, p_isPost O hM, zb_t h1, zb_t h2, c]
          simp only [Option.bind_some, if_neg z10, if_neg h3, if_true]
          rw [hM.2.2.1, h9, if_pos (by rfl)]
      · have hlt : tK t < 8 := by omega
        have iK : inb (nI (tK t)) 8 := (z_in (by omega)).mpr hlt
        have cK : (nI (tK t)).toNatClampNeg = tK t := z_cl (by omega)
        refine ⟨1, nst (nst (nst σ 47 i ((σ 47 i) ^^^ ((1 : Int32) <<< (nI j &&& 31)))) 47 j ((σ 47 j) ^^^ ((1 : Int32) <<< (nI i &&& 31)))) 0 4 (nI (tK t + 1)), nst (nst (nst τ 8 (tK t) (nI i)) 9 (tK t) (nI j)) 0 11 (nI (tK t + 1)), mkT (tN t) (tL t) (tK t + 1) (tPr t) (tA t) (tB t) (tC t) (tLk t) (tOv t) (tTe t) (fun s => if s = tK t then i else tX t s) (fun s => if s = tK t then j else tY t s), ?_, ?_, ?_, ?_, ?_⟩
        · unfold gC_pair
          rw [p_hasTwo O hC, zb_t e0, ci, p_holds _ (show j < 32 by omega), hb, p_turnPair (by omega) (by omega) hne]
          simp only [Option.bind_some, if_neg z10, if_pos i9]
          rw [if_pos (by rfl), hC.2.2.1, z8, if_pos ((z_lt (by omega) (by omega)).mpr hlt), n_o (show (0 : Nat) ≠ 47 by decide), n_o (show (0 : Nat) ≠ 47 by decide), hC.2.2.1, nI_1]
        · unfold gM_pair
          rw [p_isPost O hM, p_isPost O hM, zb_t h1, zb_t h2, c]
          simp only [Option.bind_some, if_neg z10, if_neg h3, if_true, n_o (show (0 : Nat) ≠ 8 by decide), n_o (show (0 : Nat) ≠ 9 by decide), hM.2.2.1, cK, if_pos iK, nI_1, z8, if_neg (fun g => h9 ((z_eq (a := tK t) (b := 8) (by omega) (by omega)).mp g))]
        · obtain ⟨o1, o2, o3, o4, o5, o6, o7, o8⟩ := O
          unfold NtOK tS
          simp only [m_N, m_L, m_K, m_Pr, m_A, m_B, m_C, m_Te, m_X, m_Y]
          refine ⟨o1, o2, by omega, o4, o5, o6, ?_, ?_⟩
          · intro s hs
            by_cases e : s = tK t
            · simp only [if_pos e]; exact ⟨hi, hj, hne⟩
            · simp only [if_neg e]; exact o7 s (by omega)
          · have hno : ∀ s, s < tK t → ¬ tS t s i j := fun s hs g => a s hs ((mS_tS ⟨o1, o2, o3, o4, o5, o6, o7, o8⟩ hM hs (by omega) (by omega)).mpr g)
            intro s r hs hr hsr
            by_cases e : s = tK t <;> by_cases f : r = tK t
            · omega
            · simp only [if_pos e, if_neg f] at hsr
              exfalso
              apply hno r (by omega)
              unfold tS
              omega
            · simp only [if_neg e, if_pos f] at hsr
              exfalso
              apply hno s (by omega)
              exact hsr
            · simp only [if_neg e, if_neg f] at hsr
              exact o8 s r (by omega) (by omega) hsr
        · obtain ⟨c1, c2, c3, c4, c5, c6, c7, c8⟩ := hC
          unfold RC
          simp only [m_N, m_L, m_K, m_Pr, m_A, m_B, m_C, m_Lk, m_Ov, m_Te, m_X, m_Y]
          refine ⟨?_, ?_, n_s, ?_, ?_, ?_, ?_, ?_⟩
          · simpa [n_g] using c1
          · simpa [n_g] using c2
          · intro i hi
            simpa [n_g] using c4 i hi
          · intro l hl
            simpa [n_g] using c5 l hl
          · intro l hl
            simpa [n_g] using c6 l hl
          · intro i
            simpa [n_g] using c7 i
          · intro u v hu
            have hno : ¬ tP t i j := fun g => by rw [hbt.mpr g] at hb; cases hb
            have hsym : ∀ a b, tP t a b → tP t b a := fun a b ⟨s, h1, h2⟩ => ⟨s, h1, tS_sym.mp h2⟩
            have hP' : tP (mkT (tN t) (tL t) (tK t + 1) (tPr t) (tA t) (tB t) (tC t) (tLk t) (tOv t) (tTe t) (fun s => if s = tK t then i else tX t s) (fun s => if s = tK t then j else tY t s)) u v ↔ (tP t u v ∨ (u = i ∧ v = j) ∨ (u = j ∧ v = i)) := by
              unfold tP tS
              simp only [m_K, m_X, m_Y]
              constructor
              · rintro ⟨s, hs, hh⟩
                by_cases e : s = tK t
                · simp only [if_pos e] at hh; right; omega
                · simp only [if_neg e] at hh; exact Or.inl ⟨s, by omega, hh⟩
              · rintro (⟨s, hs, hh⟩ | hh)
                · have e : s ≠ tK t := by omega
                  exact ⟨s, by omega, by simp only [if_neg e]; exact hh⟩
                · exact ⟨tK t, by omega, by simp only [if_true]; omega⟩
            rw [hP', n_o (show (47 : Nat) ≠ 0 by decide)]
            by_cases e1 : u = j
            · subst e1
              rw [n_s, b_xor, h_sh (by omega)]
              by_cases e2 : v = i
              · subst e2
                have : bt (σ 47 u) v = false := by
                  cases e : bt (σ 47 u) v with
                  | false => rfl
                  | true => exact absurd (hsym _ _ ((c8 u v hu).mp e)) hno
                simp [this]
              · have := c8 u v hu
                simp [e2]
                rw [this]
                constructor
                · intro h; exact Or.inl h
                · rintro (h | h)
                  · exact h
                  · omega
            · rw [n_n e1]
              by_cases e3 : u = i
              · subst e3
                rw [n_s, b_xor, h_sh (by omega)]
                by_cases e2 : v = j
                · subst e2
                  simp [hb]
                · have := c8 u v hu
                  simp [e2]
                  rw [this]
                  constructor
                  · intro h; exact Or.inl h
                  · rintro (h | h)
                    · exact h
                    · omega
              · rw [n_n e3, c8 u v hu]
                constructor
                · intro h; exact Or.inl h
                · rintro (h | h)
                  · exact h
                  · omega
        · obtain ⟨c1, c2, c3, c4, c5, c6, c7, c8⟩ := hM
          unfold RM
          simp only [m_N, m_L, m_K, m_Pr, m_A, m_B, m_C, m_Lk, m_Ov, m_Te, m_X, m_Y]
          refine ⟨?_, ?_, n_s, ?_, ?_, ?_, ?_, ?_⟩
          · simpa [n_g] using c1
          · simpa [n_g] using c2
          · intro i hi
            simpa [n_g] using c4 i hi
          · intro l hl
            simpa [n_g] using c5 l hl
          · intro l hl
            simpa [n_g] using c6 l hl
          · intro i hi
            simpa [n_g] using c7 i hi
          · intro s hs
            by_cases e : s = tK t
            · simp [n_g, e]
            · simp [n_g, e]; exact c8 s (by omega)
  · refine ⟨0, σ, τ, t, ?_, ?_, O, hC, hM⟩
    · unfold gC_pair
      rw [p_hasTwo O hC, zb_f hA]
      rfl
    · unfold gM_pair
      rw [p_isPost O hM, p_isPost O hM]
      by_cases h1 : inb x (tN t)
      · by_cases h2 : inb y (tN t)
        · have h3 : x = y := by
            by_cases g : x = y
            · exact g
            · exact absurd ⟨h1, h2, g⟩ hA
          rw [zb_t h1, zb_t h2]
          simp only [Option.bind_some, if_neg z10, if_pos h3]
        · rw [zb_t h1, zb_f h2]
          simp only [Option.bind_some, if_neg z10, if_true]
      · rw [zb_f h1]
        rfl
