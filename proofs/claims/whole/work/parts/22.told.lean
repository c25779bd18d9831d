theorem zb_f {P : Prop} [Decidable P] (h : ¬ P) : zb (decide P) = 0 := (zb_0 _).mpr (decide_eq_false h)
theorem zb_t {P : Prop} [Decidable P] (h : P) : zb (decide P) = 1 := (zb_1 _).mpr (decide_eq_true h)
theorem z10 : ¬ (1 : Int32) = 0 := by decide
theorem st_line {σ τ : nS} {t : Nt} (O : NtOK t) (hC : RC σ t) (hM : RM τ t) (x y p : Int32) (q : Bool) : nStp (gC_line x y p (zb q) σ) (gM_line x y p (zb q) τ) := by
  have hN := O.1
  have hL := O.2.1
  by_cases hA : inb x (tN t) ∧ inb y (tN t) ∧ x ≠ y
  · have e0 := hA
    obtain ⟨h1, h2, h3⟩ := hA
    rcases z_rng p 0 99 (by omega) (by omega) with h | ⟨v, -, hv, rfl⟩
    · refine ⟨-1, σ, τ, t, ?_, ?_, O, hC, hM⟩
      · unfold gC_line gN_addLine
        rw [p_hasTwo O hC, zb_t e0]
        simp only [Option.bind_some, if_neg z10]
        rcases h with h | h
        · rw [if_pos (show p < (0 : Int32) from h)]; rfl
        · by_cases g : p < (0 : Int32)
          · rw [if_pos g]; rfl
          · rw [if_neg g, if_pos (show (99 : Int32) < p from h)]; rfl
      · unfold gM_line
        rw [p_isPost O hM, p_isPost O hM, p_in, zb_t h1, zb_t h2]
        simp only [Option.bind_some, if_neg z10, if_neg h3]
        rw [if_pos ((zb_0 _).mpr (decide_eq_false (by rintro ⟨g1, g2⟩; rcases h with h | h; exact g1 h; exact g2 h)))]
    · have e1 : ¬ nI v < (0 : Int32) := nI_pos (by omega)
      have e2 : ¬ (99 : Int32) < nI v := nI_nlt (a := 99) (b := v) hv (by omega)
      by_cases h9 : tL t = 24
      · refine ⟨-1, σ, τ, t, ?_, ?_, O, hC, hM⟩
        · unfold gC_line gN_addLine
          rw [p_hasTwo O hC, zb_t e0]
          simp only [Option.bind_some, if_neg z10]
          rw [if_neg e1, if_neg e2, hC.2.1, h9, if_neg (by decide)]
          rfl
        · unfold gM_line
          rw [p_isPost O hM, p_isPost O hM, p_in, zb_t h1, zb_t h2, zb_t ⟨e1, e2⟩]
          simp only [Option.bind_some, if_neg z10, if_neg h3]
          rw [hM.2.1, h9, if_pos (by rfl)]
      · have hlt : tL t < 24 := by omega
        obtain ⟨a, ha, rfl⟩ := z_of h1 (by omega)
        obtain ⟨b, hb, rfl⟩ := z_of h2 (by omega)
        have iL : inb (nI (tL t)) 24 := (z_in (by omega)).mpr hlt
        have cL : (nI (tL t)).toNatClampNeg = tL t := z_cl (by omega)
        refine ⟨nI (tL t), nst (nst (nst (nst (nst σ 2 (tL t) (nI a)) 3 (tL t) (nI b)) 4 (tL t) (nI v)) 5 (tL t) (zb q)) 1 6 (nI (tL t + 1)), nst (nst (nst (nst (nst τ 3 (tL t) (nI a)) 4 (tL t) (nI b)) 5 (tL t) (nI v)) 6 (tL t) (zb q)) 0 8 (nI (tL t + 1)), mkT (tN t) (tL t + 1) (tK t) (tPr t) (fun i => if i = tL t then a else tA t i) (fun i => if i = tL t then b else tB t i) (fun i => if i = tL t then v else tC t i) (fun i => if i = tL t then q else tLk t i) (fun i => if i = tL t then false else tOv t i) (tTe t) (tX t) (tY t), ?_, ?_, ?_, ?_, ?_⟩
        · unfold gC_line gN_addLine
          rw [p_hasTwo O hC, zb_t e0]
          simp only [Option.bind_some, if_neg z10, if_neg e1, if_neg e2, n_o (show (1 : Nat) ≠ 2 by decide), n_o (show (1 : Nat) ≠ 3 by decide), n_o (show (1 : Nat) ≠ 4 by decide), n_o (show (1 : Nat) ≠ 5 by decide), hC.2.1, cL, if_pos iL, n_s, nI_1, zm1, zb_and, z24, if_pos ((z_lt (a := tL t) (b := 24) (by omega) (by omega)).mpr hlt)]
        · unfold gM_line
          rw [p_isPost O hM, p_isPost O hM, p_in, zb_t h1, zb_t h2, zb_t ⟨e1, e2⟩]
          simp only [Option.bind_some, if_neg z10, if_neg h3, n_o (show (0 : Nat) ≠ 3 by decide), n_o (show (0 : Nat) ≠ 4 by decide), n_o (show (0 : Nat) ≠ 5 by decide), n_o (show (0 : Nat) ≠ 6 by decide), hM.2.1, cL, if_pos iL, n_s, nI_1, zm1, zb_and, z24, if_neg (fun g => h9 ((z_eq (a := tL t) (b := 24) (by omega) (by omega)).mp g))]
        · obtain ⟨o1, o2, o3, o4, o5, o6, o7, o8⟩ := O
          unfold NtOK tS
          simp only [m_N, m_L, m_K, m_Pr, m_A, m_B, m_C, m_Te, m_X, m_Y]
          refine ⟨o1, by omega, o3, o4, ?_, o6, o7, o8⟩
          intro l hl
          by_cases e : l = tL t
          · simp only [if_pos e]
            refine ⟨ha, hb, ?_, hv⟩
            intro g; exact h3 (by rw [g])
          · simp only [if_neg e]; exact o5 l (by omega)
        · obtain ⟨c1, c2, c3, c4, c5, c6, c7, c8⟩ := hC
          unfold RC tP tS
          simp only [m_N, m_L, m_K, m_Pr, m_A, m_B, m_C, m_Lk, m_Ov, m_Te, m_X, m_Y]
          refine ⟨?_, n_s, ?_, ?_, ?_, ?_, ?_, ?_⟩
          · simpa [n_g] using c1
          · simpa [n_g] using c3
          · intro i hi
            simpa [n_g] using c4 i hi
          · intro l hl
            by_cases e : l = tL t
            · subst e
              simp [n_g]
              exact c6 _ (Nat.le_refl _)
            · simp [n_g, e]; exact c5 l (by omega)
          · intro l hl
            simp [n_g]
            exact c6 l (by omega)
          · intro i
            simpa [n_g] using c7 i
          · intro i j hi
            simpa [n_g, tP, tS] using c8 i j hi
        · obtain ⟨c1, c2, c3, c4, c5, c6, c7, c8⟩ := hM
          unfold RM
          simp only [m_N, m_L, m_K, m_Pr, m_A, m_B, m_C, m_Lk, m_Ov, m_Te, m_X, m_Y]
          refine ⟨?_, n_s, ?_, ?_, ?_, ?_, ?_, ?_⟩
          · simpa [n_g] using c1
          · simpa [n_g] using c3
          · intro i hi
            simpa [n_g] using c4 i hi
          · intro l hl
            by_cases e : l = tL t
            · subst e
              simp [n_g]
              exact c6 _ (Nat.le_refl _)
            · simp [n_g, e]; exact c5 l (by omega)
          · intro l hl
            simp [n_g]
            exact c6 l (by omega)
          · intro i hi
            simpa [n_g] using c7 i hi
          · intro i hi
            simpa [n_g] using c8 i hi
  · refine ⟨-1, σ, τ, t, ?_, ?_, O, hC, hM⟩
    · unfold gC_line gN_addLine
      rw [p_hasTwo O hC, zb_f hA]
      rfl
    · unfold gM_line
      rw [p_isPost O hM, p_isPost O hM]
      by_cases h1 : inb x (tN t)
      · by_cases h2 : inb y (tN t)
        · have h3 : x = y := by
            by_cases g : x = y
            · exact g
            · exact absurd ⟨h1, h2, g⟩ hA
          rw [zb_t h1, zb_t h2]
          simp only [Option.bind_some, if_neg z10, if_pos h3]
        · rw [zb_t h1, zb_f h2]
          simp only [Option.bind_some, if_neg z10, if_true]
      · rw [zb_f h1]
        rfl
theorem st_end {σ τ : nS} {t : Nt} (O : NtOK t) (hC : RC σ t) (hM : RM τ t) (x : Int32) : nStp (gC_end x σ) (gM_end x τ) := by
  have hL := O.2.1
  by_cases h : inb x (tL t) ∧ tOv t x.toNatClampNeg = false
  · have h0 := h
    obtain ⟨h1, h2⟩ := h
    obtain ⟨j, hj, rfl⟩ := z_of h1 (by omega)
    have i24 : inb (nI j) 24 := (z_in (by omega)).mpr (by omega)
    have cj : (nI j).toNatClampNeg = j := z_cl (by omega)
    refine ⟨1, nst σ 6 j 1, nst τ 7 j 1, mkT (tN t) (tL t) (tK t) (tPr t) (tA t) (tB t) (tC t) (tLk t) (fun i => if i = j then true else tOv t i) (tTe t) (tX t) (tY t), ?_, ?_, ?_, ?_, ?_⟩
    · unfold gC_end gN_endLine
      rw [p_hasLine O hC, zb_t h0]
      simp only [Option.bind_some, if_neg z10, if_pos i24, cj]
      rfl
    · unfold gM_end
      rw [p_isLine O hM, zb_t h0]
      simp only [Option.bind_some, if_neg z10, if_pos i24, cj]
      rfl
    · exact O
    · obtain ⟨c1, c2, c3, c4, c5, c6, c7, c8⟩ := hC
      unfold RC tP tS
      simp only [m_N, m_L, m_K, m_Pr, m_A, m_B, m_C, m_Lk, m_Ov, m_Te, m_X, m_Y]
      refine ⟨?_, ?_, ?_, ?_, ?_, ?_, ?_, ?_⟩
      · simpa [n_g] using c1
      · simpa [n_g] using c2
      · simpa [n_g] using c3
      · intro i hi
        simpa [n_g] using c4 i hi
      · intro l hl
        have := c5 l hl
        by_cases e : l = j
        · subst e
          simp [n_g, zb]; exact ⟨this.1, this.2.1, this.2.2.1, this.2.2.2.1⟩
        · simp [n_g, e]; exact this
      · intro l hl
        have e : l ≠ j := by omega
        simp [n_g, e]
        exact c6 l (by omega)
      · intro i
        simpa [n_g] using c7 i
      · intro i j hi
        simpa [n_g, tP, tS] using c8 i j hi
    · obtain ⟨c1, c2, c3, c4, c5, c6, c7, c8⟩ := hM
      unfold RM
      simp only [m_N, m_L, m_K, m_Pr, m_A, m_B, m_C, m_Lk, m_Ov, m_Te, m_X, m_Y]
      refine ⟨?_, ?_, ?_, ?_, ?_, ?_, ?_, ?_⟩
      · simpa [n_g] using c1
      · simpa [n_g] using c2
      · simpa [n_g] using c3
      · intro i hi
        simpa [n_g] using c4 i hi
      · intro l hl
        have := c5 l hl
        by_cases e : l = j
        · subst e
          simp [n_g, zb]; exact ⟨this.1, this.2.1, this.2.2.1, this.2.2.2.1⟩
        · simp [n_g, e]; exact this
      · intro l hl
        have e : l ≠ j := by omega
        simp [n_g, e]
        exact c6 l (by omega)
      · intro i hi
        simpa [n_g] using c7 i hi
      · intro i hi
        simpa [n_g] using c8 i hi
  · refine ⟨0, σ, τ, t, ?_, ?_, O, hC, hM⟩
    · unfold gC_end gN_endLine
      rw [p_hasLine O hC, zb_f h]
      rfl
    · unfold gM_end
      rw [p_isLine O hM, zb_f h]
      rfl
theorem st_terminal {σ τ : nS} {t : Nt} (O : NtOK t) (hC : RC σ t) (hM : RM τ t) (x : Int32) (b : Bool) : nStp (gC_terminal x (zb b) σ) (gM_terminal x (zb b) τ) := by
  have hN := O.1
  by_cases h : inb x (tN t)
  · have h0 := h
    obtain ⟨j, hj, rfl⟩ := z_of h (by omega)
    have i9 : inb (nI j) 9 := (z_in (by omega)).mpr (by omega)
    have cj : (nI j).toNatClampNeg = j := z_cl (by omega)
    have hc := hC.2.2.2.2.2.2.1
    have hm := hM.2.2.2.2.2.2.1
    by_cases g : tTe t j = b
    · refine ⟨0, σ, τ, t, ?_, ?_, O, hC, hM⟩
      · unfold gC_terminal
        rw [p_hasPost O hC, zb_t h0, p_holds _ (by omega), hc]
        simp only [Option.bind_some, if_neg z10, g, if_true]
      · unfold gM_terminal
        rw [p_isPost O hM, zb_t h0]
        simp only [Option.bind_some, if_neg z10, if_pos i9, cj, hm j (by omega), g, if_true]
    · have g2 : ¬ zb (tTe t j) = zb b := fun e => g ((zb_eq _ _).mp e)
      refine ⟨1, nst σ 0 5 ((σ 0 5) ^^^ ((1 : Int32) <<< (nI j &&& 31))), nst τ 2 j (zb b), mkT (tN t) (tL t) (tK t) (tPr t) (tA t) (tB t) (tC t) (tLk t) (tOv t) (fun i => if i = j then b else tTe t i) (tX t) (tY t), ?_, ?_, ?_, ?_, ?_⟩
      · unfold gC_terminal
        rw [p_hasPost O hC, zb_t h0, p_holds _ (by omega), hc]
        simp only [Option.bind_some, if_neg z10, if_neg g2]
      · unfold gM_terminal
        rw [p_isPost O hM, zb_t h0]
        simp only [Option.bind_some, if_neg z10, if_pos i9, cj, hm j (by omega), if_neg g2, zb_and]
      · obtain ⟨o1, o2, o3, o4, o5, o6, o7, o8⟩ := O
        unfold NtOK tS
        simp only [m_N, m_L, m_K, m_Pr, m_A, m_B, m_C, m_Te, m_X, m_Y]
        refine ⟨o1, o2, o3, o4, o5, ?_, o7, o8⟩
        intro i hi
        by_cases e : i = j
        · omega
        · rw [if_neg e] at hi; exact o6 i hi
      · obtain ⟨c1, c2, c3, c4, c5, c6, c7, c8⟩ := hC
        unfold RC tP tS
        simp only [m_N, m_L, m_K, m_Pr, m_A, m_B, m_C, m_Lk, m_Ov, m_Te, m_X, m_Y]
        refine ⟨?_, ?_, ?_, ?_, ?_, ?_, ?_, ?_⟩
        · simpa [n_g] using c1
        · simpa [n_g] using c2
        · simpa [n_g] using c3
        · intro i hi
          simpa [n_g] using c4 i hi
        · intro l hl
          simpa [n_g] using c5 l hl
        · intro l hl
          simpa [n_g] using c6 l hl
        · intro i
          rw [n_s, b_xor, h_sh (by omega), c7]
          by_cases e : i = j
          · subst e
            rw [if_pos rfl]
            cases hh : tTe t i <;> cases hb : b <;> simp_all
          · simp [e]
        · intro i j hi
          simpa [n_g, tP, tS] using c8 i j hi
      · obtain ⟨c1, c2, c3, c4, c5, c6, c7, c8⟩ := hM
        unfold RM
        simp only [m_N, m_L, m_K, m_Pr, m_A, m_B, m_C, m_Lk, m_Ov, m_Te, m_X, m_Y]
        refine ⟨?_, ?_, ?_, ?_, ?_, ?_, ?_, ?_⟩
        · simpa [n_g] using c1
        · simpa [n_g] using c2
        · simpa [n_g] using c3
        · intro i hi
          simpa [n_g] using c4 i hi
        · intro l hl
          simpa [n_g] using c5 l hl
        · intro l hl
          simpa [n_g] using c6 l hl
        · intro i hi
          by_cases e : i = j
          · subst e
            simp [n_s]
          · rw [n_n e, if_neg e]; exact c7 i hi
        · intro i hi
          simpa [n_g] using c8 i hi
  · refine ⟨0, σ, τ, t, ?_, ?_, O, hC, hM⟩
    · unfold gC_terminal
      rw [p_hasPost O hC, zb_f h]
      rfl
    · unfold gM_terminal
      rw [p_isPost O hM, zb_f h]
      rfl
