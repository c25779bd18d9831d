theorem st_unpair {σ τ : nS} {t : Nt} (O : NtOK t) (hC : RC σ t) (hM : RM τ t) (x y : Int32) : nStp (gC_unpair x y σ) (gM_unpair x y τ) := by
  have hN := O.1
  have hK := O.2.2.1
  rcases p_pairOf O hM x y with ⟨s, a, b, c⟩ | ⟨a, c⟩
  · have e0 := mS_in O hM a b
    obtain ⟨h1, h2, h3⟩ := id e0
    obtain ⟨i, hi, rfl⟩ := z_of h1 (by omega)
    obtain ⟨j, hj, rfl⟩ := z_of h2 (by omega)
    have hne : i ≠ j := fun g => h3 (by rw [g])
    have i9 : inb (nI i) 9 := (z_in (by omega)).mpr (by omega)
    have ci : (nI i).toNatClampNeg = i := z_cl (by omega)
    have hbt := hC.2.2.2.2.2.2.2 i j (by omega)
    have hS := (mS_tS O hM a (by omega) (by omega)).mp b
    have hb : bt (σ 47 i) j = true := hbt.mpr ⟨s, a, hS⟩
    obtain ⟨k, hk⟩ : ∃ k, tK t = k + 1 := ⟨tK t - 1, by omega⟩
    have ik : inb (nI k) 8 := (z_in (by omega)).mpr (by omega)
    have is : inb (nI s) 8 := (z_in (by omega)).mpr (by omega)
    have ck : (nI k).toNatClampNeg = k := z_cl (by omega)
    have cs : (nI s).toNatClampNeg = s := z_cl (by omega)
    have hM11 : τ 0 11 = nI (k + 1) := by rw [← hk]; exact hM.2.2.1
    have hC4 : σ 0 4 = nI (k + 1) := by rw [← hk]; exact hC.2.2.1
    refine ⟨1, nst (nst (nst σ 47 i ((σ 47 i) ^^^ ((1 : Int32) <<< (nI j &&& 31)))) 47 j ((σ 47 j) ^^^ ((1 : Int32) <<< (nI i &&& 31)))) 0 4 (nI k), nst (nst (nst τ 0 11 (nI k)) 8 s (τ 8 k)) 9 s (τ 9 k), mkT (tN t) (tL t) k (tPr t) (tA t) (tB t) (tC t) (tLk t) (tOv t) (tTe t) (fun r => if r = s then tX t k else tX t r) (fun r => if r = s then tY t k else tY t r), ?_, ?_, ?_, ?_, ?_⟩
    · unfold gC_unpair
      rw [p_hasTwo O hC, zb_t e0, ci, p_holds _ (show j < 32 by omega), hb, p_turnPair (by omega) (by omega) hne]
      simp only [Option.bind_some, if_neg z10, if_pos i9]
      rw [if_neg (by decide), n_o (show (0 : Nat) ≠ 47 by decide), n_o (show (0 : Nat) ≠ 47 by decide), hC4, zm1]
    · unfold gM_unpair
      rw [c]
      simp only [Option.bind_some]
      rw [if_neg (by intro g; have := congrArg Int32.toInt g; rw [nI_toInt (by omega)] at this; have h9 : (-1 : Int32).toInt = -1 := rfl; omega)]
      simp only [hM11, zm1, n_s, n_o (show (0 : Nat) ≠ 8 by decide), n_o (show (8 : Nat) ≠ 0 by decide), n_o (show (9 : Nat) ≠ 8 by decide), n_o (show (9 : Nat) ≠ 0 by decide), if_pos ik, if_pos is, ck, cs]
    · obtain ⟨o1, o2, o3, o4, o5, o6, o7, o8⟩ := O
      unfold NtOK tS
      simp only [m_N, m_L, m_K, m_Pr, m_A, m_B, m_C, m_Te, m_X, m_Y]
      refine ⟨o1, o2, by omega, o4, o5, o6, ?_, ?_⟩
      · intro r hr
        by_cases e : r = s
        · simp only [if_pos e]; exact o7 k (by omega)
        · simp only [if_neg e]; exact o7 r (by omega)
      · intro r u hr hu h
        by_cases e : r = s <;> by_cases f : u = s
        · omega
        · simp only [if_pos e, if_neg f] at h
          have := o8 k u (by omega) (by omega) h
          omega
        · simp only [if_neg e, if_pos f] at h
          have := o8 r k (by omega) (by omega) h
          omega
        · simp only [if_neg e, if_neg f] at h
          exact o8 r u (by omega) (by omega) h
    · obtain ⟨c1, c2, c3, c4, c5, c6, c7, c8⟩ := hC
      unfold RC
      simp only [m_N, m_L, m_K, m_Pr, m_A, m_B, m_C, m_Lk, m_Ov, m_Te, m_X, m_Y]
      refine ⟨?_, ?_, n_s, ?_, ?_, ?_, ?_, ?_⟩
      · simpa [n_g] using c1
      · simpa [n_g] using c2
      · intro i hi
        simpa [n_g] using c4 i hi
      · intro l hl
        simpa [n_g] using c5 l hl
      · intro l hl
        simpa [n_g] using c6 l hl
      · intro i
        simpa [n_g] using c7 i
      · intro u v hu
        have hsym : ∀ a b, tP t a b → tP t b a := fun a b ⟨s, h1, h2⟩ => ⟨s, h1, tS_sym.mp h2⟩
        have huni : ∀ r, r < tK t → tS t r i j → r = s := fun r hr hh => by
          refine O.2.2.2.2.2.2.2 r s hr a ?_
          rcases hS with ⟨g1, g2⟩ | ⟨g1, g2⟩
          · rw [g1, g2]; exact hh
          · rw [g1, g2]; exact tS_sym.mp hh
        have hP' : tP (mkT (tN t) (tL t) k (tPr t) (tA t) (tB t) (tC t) (tLk t) (tOv t) (tTe t) (fun r => if r = s then tX t k else tX t r) (fun r => if r = s then tY t k else tY t r)) u v ↔ (tP t u v ∧ ¬ ((u = i ∧ v = j) ∨ (u = j ∧ v = i))) := by
          have hno : ∀ r, r < tK t → r ≠ s → tS t r u v → ¬ ((u = i ∧ v = j) ∨ (u = j ∧ v = i)) := by
            rintro r hr hrs hh (⟨rfl, rfl⟩ | ⟨rfl, rfl⟩)
            · exact hrs (huni r hr hh)
            · exact hrs (huni r hr (tS_sym.mp hh))
          constructor
          · rintro ⟨r, hr, hh⟩
            have hr : r < k := hr
            unfold tS at hh
            simp only [m_X, m_Y] at hh
            by_cases e : r = s
            · simp only [if_pos e] at hh
              exact ⟨⟨k, by omega, hh⟩, hno k (by omega) (by omega) hh⟩
            · simp only [if_neg e] at hh
              exact ⟨⟨r, by omega, hh⟩, hno r (by omega) e hh⟩
          · rintro ⟨⟨r, hr, hh⟩, hn⟩
            have hrs : r ≠ s := by
              intro e; subst e
              apply hn
              unfold tS at hh hS
              omega
            by_cases e : r = k
            · refine ⟨s, by show s < k; omega, ?_⟩
              unfold tS
              simp only [m_X, m_Y, if_true]
              rw [← e]; exact hh
            · refine ⟨r, by show r < k; omega, ?_⟩
              unfold tS
              simp only [m_X, m_Y, if_neg hrs]
              exact hh
        rw [hP', n_o (show (47 : Nat) ≠ 0 by decide)]
        by_cases e1 : u = j
        · subst e1
          rw [n_s, b_xor, h_sh (by omega)]
          by_cases e2 : v = i
          · subst e2
            have : bt (σ 47 u) v = true := (c8 u v hu).mpr (hsym _ _ (hbt.mp hb))
            simp [this]
          · have := c8 u v hu
            simp [e2]
            rw [this]
            constructor
            · intro h; exact ⟨h, by omega⟩
            · intro h; exact h.1
        · rw [n_n e1]
          by_cases e3 : u = i
          · subst e3
            rw [n_s, b_xor, h_sh (by omega)]
            by_cases e2 : v = j
            · subst e2
              simp [hb]
            · have := c8 u v hu
              simp [e2]
              rw [this]
              constructor
              · intro h; exact ⟨h, by omega⟩
              · intro h; exact h.1
          · rw [n_n e3, c8 u v hu]
            constructor
            · intro h; exact ⟨h, by omega⟩
            · intro h; exact h.1
    · obtain ⟨c1, c2, c3, c4, c5, c6, c7, c8⟩ := hM
      unfold RM
      simp only [m_N, m_L, m_K, m_Pr, m_A, m_B, m_C, m_Lk, m_Ov, m_Te, m_X, m_Y]
      refine ⟨?_, ?_, ?_, ?_, ?_, ?_, ?_, ?_⟩
      · simpa [n_g] using c1
      · simpa [n_g] using c2
      · simp [n_g]
      · intro i hi
        simpa [n_g] using c4 i hi
      · intro l hl
        simpa [n_g] using c5 l hl
      · intro l hl
        simpa [n_g] using c6 l hl
      · intro i hi
        simpa [n_g] using c7 i hi
      · intro r hr
        by_cases e : r = s
        · simp [n_g, e]; exact c8 k (by omega)
        · simp [n_g, e]; exact c8 r (by omega)
  · refine ⟨0, σ, τ, t, ?_, ?_, O, hC, hM⟩
    · unfold gC_unpair
      rw [p_hasTwo O hC]
      by_cases hA : inb x (tN t) ∧ inb y (tN t) ∧ x ≠ y
      · have e0 := hA
        obtain ⟨h1, h2, h3⟩ := hA
        obtain ⟨i, hi, rfl⟩ := z_of h1 (by omega)
        obtain ⟨j, hj, rfl⟩ := z_of h2 (by omega)
        have i9 : inb (nI i) 9 := (z_in (by omega)).mpr (by omega)
        have ci : (nI i).toNatClampNeg = i := z_cl (by omega)
        have hbt := hC.2.2.2.2.2.2.2 i j (by omega)
        have hb : bt (σ 47 i) j = false := by
          cases e : bt (σ 47 i) j with
          | false => rfl
          | true =>
            obtain ⟨s, hs, hh⟩ := hbt.mp e
            exact absurd ((mS_tS O hM hs (by omega) (by omega)).mpr hh) (a s hs)
        rw [zb_t e0, ci, p_holds _ (show j < 32 by omega), hb]
        simp only [Option.bind_some, if_neg z10, if_pos i9]
        rfl
      · rw [zb_f hA]
        rfl
    · unfold gM_unpair
      rw [c]
      rfl
