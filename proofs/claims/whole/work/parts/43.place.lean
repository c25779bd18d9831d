abbrev CA : Type := Nat × (Nat → Int32)
def leafC (n : Nat) (Q : Qn) (x : (Nat → Nat) × Nat) (A : CA) : CA := if Q.1 x.1 x.2 = true ∧ Q.2 x.1 < A.1 then (Q.2 x.1, fun j => if j < n then nI (x.1 j) else A.2 j) else A
theorem foldC_id {n : Nat} {Q : Qn} {A : CA} : ∀ L : List ((Nat → Nat) × Nat), (∀ x, x ∈ L → ¬ (Q.1 x.1 x.2 = true ∧ Q.2 x.1 < A.1)) → L.foldl (fun A x => leafC n Q x A) A = A := by
  intro L
  induction L with
  | nil => intro _; rfl
  | cons x L ih =>
    intro h
    have h1 : leafC n Q x A = A := if_neg (h x List.mem_cons_self)
    show L.foldl (fun A x => leafC n Q x A) (leafC n Q x A) = A
    rw [h1]
    exact ih (fun y hy => h y (List.mem_cons_of_mem _ hy))
/-- what all partings below a start have -/
theorem rgL_mem : ∀ (r p k : Nat) (f : Nat → Nat) (x : (Nat → Nat) × Nat), x ∈ rgL r p k f → (∀ j, j < p → x.1 j = f j) ∧ k ≤ x.2 ∧ x.2 ≤ k + r ∧ (∀ j, p ≤ j → j < p + r → x.1 j < x.2) := by
  intro r
  induction r with
  | zero =>
    intro p k f x hx
    have : x = (f, k) := by simpa [rgL] using hx
    rw [this]
    exact ⟨fun _ _ => rfl, Nat.le_refl _, Nat.le_refl _, fun j h1 h2 => by omega⟩
  | succ r ih =>
    intro p k f x hx
    rw [rgL, List.mem_flatMap] at hx
    obtain ⟨q, hq, hx⟩ := hx
    have hq2 : q ≤ k := by
      rw [List.mem_range'_1] at hq
      omega
    obtain ⟨h1, h2, h3, h4⟩ := ih _ _ _ _ hx
    have hk : k ≤ (if q = k then k + 1 else k) ∧ (if q = k then k + 1 else k) ≤ k + 1 ∧ q < (if q = k then k + 1 else k) := by split <;> omega
    refine ⟨fun j hj => by rw [h1 j (by omega), fu_n (by omega)], by omega, by omega, fun j h5 h6 => ?_⟩
    by_cases e : j = p
    · subst e
      rw [h1 j (by omega), fu_s]
      omega
    · exact h4 j (by omega) (by omega)
theorem rgQ_mem {r p k q : Nat} {f : Nat → Nat} {x : (Nat → Nat) × Nat} (hx : x ∈ rgQ r p k f q) : ∃ u, q ≤ u ∧ u ≤ k ∧ x ∈ rgL r (p + 1) (if u = k then k + 1 else k) (fu f p u) := by
  unfold rgQ at hx
  rw [List.mem_flatMap] at hx
  obtain ⟨u, hu, hx⟩ := hx
  rw [List.mem_range'_1] at hu
  exact ⟨u, hu.1, by omega, hx⟩
/-- foes and friends among the posts before p -/
def okP (fo fr : Nat → Nat → Bool) (f : Nat → Nat) (p : Nat) : Prop := ∀ i, i < p → ∀ j, j < i → (fo i j = true → ¬ f i = f j) ∧ (fr i j = true → f i = f j)
def w_C (n : Nat) (fo fr : Nat → Nat → Bool) (lo hi : Nat) (f : Nat → Nat) (k : Nat) : Bool := decide ((∀ i, i < n → ∀ j, j < i → (fo i j = true → ¬ f i = f j) ∧ (fr i j = true → f i = f j)) ∧ lo ≤ k ∧ k ≤ hi)
theorem w_C_iff {n : Nat} {fo fr : Nat → Nat → Bool} {lo hi : Nat} {f : Nat → Nat} {k : Nat} : w_C n fo fr lo hi f k = true ↔ (okP fo fr f n ∧ lo ≤ k ∧ k ≤ hi) := by unfold w_C okP; exact decide_eq_true_iff
def CAr (n : Nat) (σ : nS) (A : CA) : Prop := σ 9 11 = nI A.1 ∧ ∀ j, j < n → σ 44 j = A.2 j
theorem leafC_lt {n : Nat} {Q : Qn} {x : (Nat → Nat) × Nat} {A : CA} (h : A.1 < 2 ^ 31) : (leafC n Q x A).1 < 2 ^ 31 := by
  unfold leafC
  split
  · rename_i g; show Q.2 x.1 < 2 ^ 31; omega
  · exact h
theorem foldC_lt {n : Nat} {Q : Qn} (L : List ((Nat → Nat) × Nat)) : ∀ {A : CA}, A.1 < 2 ^ 31 → (L.foldl (fun A x => leafC n Q x A) A).1 < 2 ^ 31 := by
  induction L with
  | nil => intro A h; exact h
  | cons x L ih => intro A h; exact ih (leafC_lt h)
theorem tot_le {sp jn : Nat → Nat → Nat} {f : Nat → Nat} {a b : Nat} (h : a ≤ b) : tot sp jn f a ≤ tot sp jn f b := sumN_mono h
theorem p_place {n : Nat} (hn : n ≤ 9) {sp jn : Nat → Nat → Nat} {fo fr : Nat → Nat → Bool} {lo hi : Nat} (hlo : lo ≤ 9) (hhi : hi ≤ 9) (hB : ∀ f, tot sp jn f n < 2 ^ 31) : ∀ (r d p k : Nat) (f : Nat → Nat) (σ : nS) (A : CA), p + r = n → r < d → k ≤ p → k ≤ hi → (∀ j, j < p → f j < k) → okP fo fr f p → SC σ n sp jn fo fr lo hi → (∀ j, j < p → σ 43 j = nI (f j)) → mB n σ p f → A.1 < 2 ^ 31 → CAr n σ A →
    ∃ σ' : nS, gS_place d (nI p) (nI k) (nI (tot sp jn f p)) σ = some σ' ∧ fS σ σ' ∧ (∀ i, i < p → σ' (31 + i) = σ (31 + i)) ∧ (∀ j, j < p → σ' 43 j = σ 43 j) ∧ mB n σ' p f ∧ CAr n σ' ((rgL r p k f).foldl (fun A x => leafC n (w_C n fo fr lo hi, fun f => tot sp jn f n) x A) A) := by
  intro r
  induction r with
  | zero =>
    intro d p k f σ A hp hd hk hkh hf hok hS h43 hm hA1 hA
    have e0 : p = n := by omega
    subst e0
    obtain ⟨d, rfl⟩ : ∃ d', d = d' + 1 := ⟨d - 1, by omega⟩
    have hc := hB f
    rw [gS_place, hA.1]
    by_cases g1 : A.1 ≤ tot sp jn f p
    · rw [if_pos (nI_le g1 hc)]
      refine ⟨σ, rfl, fS.rf σ, fun _ _ => rfl, fun _ _ => rfl, hm, ?_⟩
      rw [foldC_id]
      · exact hA
      · intro x hx
        have : x = (f, k) := by simpa [rgL] using hx
        rw [this]
        rintro ⟨-, h2⟩
        have h2 : tot sp jn f p < A.1 := h2
        omega
    · rw [if_neg (nI_ge (by omega) hA1), hS.1, hS.2.1, nI_add, pk_sub (by omega)]
      by_cases g2 : lo ≤ k
      · rw [if_pos (nI_le (by omega) (by omega)), if_neg (nI_nlt (Nat.le_refl _) (by omega))]
        obtain ⟨σ', q1, q2, q3, q4, q5⟩ := p_keepBest hn hS.1 (nI (tot sp jn f p))
        refine ⟨σ', by rw [q1]; rfl, ⟨fun c hc => q2 c (by omega) (by omega), q3⟩, fun i hi => q2 _ (by omega) (by omega), fun j _ => by rw [q2 43 (by decide) (by decide)], fun q hq j hj => by rw [q2 42 (by decide) (by decide)]; exact hm q hq j hj, ?_⟩
        have hl : (rgL 0 p k f).foldl (fun A x => leafC p (w_C p fo fr lo hi, fun f => tot sp jn f p) x A) A = (tot sp jn f p, fun j => if j < p then nI (f j) else A.2 j) := by
          show leafC p (w_C p fo fr lo hi, fun f => tot sp jn f p) (f, k) A = _
          unfold leafC
          rw [if_pos ⟨w_C_iff.mpr ⟨hok, g2, hkh⟩, by show tot sp jn f p < A.1; omega⟩]
        rw [hl]
        refine ⟨q4, fun j hj => ?_⟩
        rw [q5 j hj, h43 j hj]
        simp [hj]
      · rw [if_neg (nI_ge (by omega) (by omega))]
        refine ⟨σ, rfl, fS.rf σ, fun _ _ => rfl, fun _ _ => rfl, hm, ?_⟩
        rw [foldC_id]
        · exact hA
        · intro x hx
          have : x = (f, k) := by simpa [rgL] using hx
          rw [this]
          rintro ⟨h2, -⟩
          exact g2 (w_C_iff.mp h2).2.1
  | succ r ih =>
    intro d p k f σ A hp hd hk hkh hf hok hS h43 hm hA1 hA
    obtain ⟨d, rfl⟩ : ∃ d', d = d' + 1 := ⟨d - 1, by omega⟩
    have hc : tot sp jn f p < 2 ^ 31 := Nat.lt_of_le_of_lt (tot_le (by omega)) (hB f)
    rw [gS_place, hA.1]
    by_cases g1 : A.1 ≤ tot sp jn f p
    · rw [if_pos (nI_le g1 hc)]
      refine ⟨σ, rfl, fS.rf σ, fun _ _ => rfl, fun _ _ => rfl, hm, ?_⟩
      rw [foldC_id]
      · exact hA
      · intro x hx
        obtain ⟨m1, -⟩ := rgL_mem _ _ _ _ _ hx
        rintro ⟨-, h2⟩
        have h2 : tot sp jn x.1 n < A.1 := h2
        have h3 : tot sp jn x.1 p ≤ tot sp jn x.1 n := tot_le (by omega)
        rw [tot_congr (g := f) m1] at h3
        omega
    · rw [if_neg (nI_ge (by omega) hA1), hS.1, hS.2.1, nI_add, pk_sub (by omega)]
      by_cases g2 : lo ≤ k + n - p
      · rw [if_pos (nI_le g2 (by omega)), if_pos (nI_lt (by omega) (by omega))]
        obtain ⟨σw, w1, w2, w3⟩ := p_weigh hn hS (p := p) (k := k) (by omega) hk hf h43
        rw [w1, Option.bind_some]
        have fw : fS σ σw := ⟨fun c hc => w2 c (by omega), fun i _ => by rw [w2 9 (by omega)]⟩
        have ip : inb (nI p) 9 := (z_in (by omega)).mpr (by omega)
        have cp : (nI p).toNatClampNeg = p := z_cl (by omega)
        have loop : ∀ (m q : Nat) (σ1 : nS) (A : CA), q ≤ k + 1 → k + 1 < q + m → fS σ σ1 → (∀ i, i < p → σ1 (31 + i) = σ (31 + i)) → (∀ u, u ≤ k → σ1 (31 + p) u = nI (tl sp jn p u f)) → (∀ j, j < p → σ1 43 j = nI (f j)) → mB n σ1 p f → A.1 < 2 ^ 31 → CAr n σ1 A →
            ∃ σ' : nS, (∀ K, gS_place_L52 (gS_place d) (nI p) (nI k) (nI (tot sp jn f p)) (tbit p) K m (nI q) σ1 = K σ') ∧ fS σ σ' ∧ (∀ i, i < p → σ' (31 + i) = σ (31 + i)) ∧ (∀ j, j < p → σ' 43 j = nI (f j)) ∧ mB n σ' p f ∧ CAr n σ' ((rgQ r p k f q).foldl (fun A x => leafC n (w_C n fo fr lo hi, fun f => tot sp jn f n) x A) A) := by
          intro m
          induction m with
          | zero => intro q σ1 A h1 h2; omega
          | succ m ihm =>
            intro q σ1 A h1 h2 hfs hrow hto h43 hm hA1 hA
            have hS1 := hS.keep hn hfs
            by_cases e : q = k + 1
            · subst e
              refine ⟨σ1, fun K => ?_, hfs, hrow, h43, hm, by rw [rgQ_e]; exact hA⟩
              rw [gS_place_L52, if_pos (nI_lt (by omega) (by omega))]
            · have hq : q ≤ k := by omega
              by_cases e2 : hi ≤ q
              · refine ⟨σ1, fun K => ?_, hfs, hrow, h43, hm, ?_⟩
                · rw [gS_place_L52, if_neg (nI_nlt (by omega) (by omega)), hS1.2.2.1, if_pos (nI_le e2 (by omega))]
                · rw [foldC_id]
                  · exact hA
                  · intro x hx
                    obtain ⟨u, u1, u2, u3⟩ := rgQ_mem hx
                    obtain ⟨-, m2, -⟩ := rgL_mem _ _ _ _ _ u3
                    rintro ⟨h3, -⟩
                    have := (w_C_iff.mp h3).2.2
                    have hu : u = k := by omega
                    rw [if_pos hu] at m2
                    omega
              · obtain ⟨b, b1, b2⟩ := p_allows hn hS1 (p := p) (q := q) (by omega) (by omega) hm
                have iq : inb (nI q) 9 := (z_in (by omega)).mpr (by omega)
                have cq : (nI q).toNatClampNeg = q := z_cl (by omega)
                have k2 : (if nI k < nI (q + 1) then nI (q + 1) else nI k) = nI (if q = k then k + 1 else k) := by
                  by_cases g : q = k
                  · rw [if_pos g, if_pos (nI_lt (by omega) (by omega)), g]
                  · rw [if_neg g, if_neg (nI_nlt (by omega) (by omega))]
                cases hb : b with
                | false =>
                  obtain ⟨σ', r1, r2, r3, r4, r5, r6⟩ := ihm (q + 1) σ1 A (by omega) (by omega) hfs hrow hto h43 hm hA1 hA
                  refine ⟨σ', fun K => ?_, r2, r3, r4, r5, ?_⟩
                  · rw [gS_place_L52, if_neg (nI_nlt (by omega) (by omega)), hS1.2.2.1, if_neg (nI_ge (by omega) (by omega)), b1, hb, Option.bind_some, if_pos (by rfl), nI_1]
                    exact r1 K
                  · have hid : (rgL r (p + 1) (if q = k then k + 1 else k) (fu f p q)).foldl (fun A x => leafC n (w_C n fo fr lo hi, fun f => tot sp jn f n) x A) A = A := by
                      apply foldC_id
                      intro x hx
                      obtain ⟨m1, -⟩ := rgL_mem _ _ _ _ _ hx
                      rintro ⟨h3, -⟩
                      have h4 := (w_C_iff.mp h3).1 p (by omega)
                      have h5 : b = true := b2.mpr (fun j hj => by
                        have := h4 j hj
                        rw [m1 p (by omega), fu_s, m1 j (by omega), fu_n (by omega)] at this
                        exact this)
                      rw [hb] at h5
                      cases h5
                    rw [rgQ_s hq, List.foldl_append, hid]
                    exact r6
                | true =>
                  have hal := b2.mp hb
                  have hS2 : fS σ1 (nst (nst σ1 43 p (nI q)) 42 q ((σ1 42 q) ||| tbit p)) := (fS.st (by omega)).tr (fS.st (by omega))
                  have hto2 : (nst (nst σ1 43 p (nI q)) 42 q ((σ1 42 q) ||| tbit p)) (31 + p) q = nI (tl sp jn p q f) := by rw [n_o (by omega), n_o (by omega)]; exact hto q hq
                  have hm2 : mB n (nst (nst σ1 43 p (nI q)) 42 q ((σ1 42 q) ||| tbit p)) (p + 1) (fu f p q) := by
                    intro u hu j hj
                    by_cases x1 : u = q
                    · subst x1
                      rw [n_s, b_or, tbit_b (by omega)]
                      by_cases x2 : j = p
                      · subst x2; simp [fu_s]
                      · have := hm u hu j hj
                        simp only [x2, decide_false, Bool.or_false]
                        rw [this, fu_n x2]
                        constructor
                        · rintro ⟨a, b⟩; exact ⟨by omega, b⟩
                        · rintro ⟨a, b⟩; exact ⟨by omega, b⟩
                    · rw [n_n x1, n_o (by decide), hm u hu j hj]
                      by_cases x2 : j = p
                      · subst x2
                        rw [fu_s]
                        constructor
                        · rintro ⟨a, b⟩; omega
                        · rintro ⟨a, b⟩; exact absurd b.symm x1
                      · rw [fu_n x2]
                        constructor
                        · rintro ⟨a, b⟩; exact ⟨by omega, b⟩
                        · rintro ⟨a, b⟩; exact ⟨by omega, b⟩
                  obtain ⟨σ2, s1, s2, s3, s4, s5, s6⟩ := ih d (p + 1) (if q = k then k + 1 else k) (fu f p q) (nst (nst σ1 43 p (nI q)) 42 q ((σ1 42 q) ||| tbit p)) A (by omega) (by omega) (by split <;> omega) (by split <;> omega) (fun j hj => by
                    by_cases x2 : j = p
                    · rw [x2, fu_s]; split <;> omega
                    · rw [fu_n x2]; have := hf j (by omega); split <;> omega) (fun i hi' j hj => by
                    by_cases x2 : i = p
                    · subst x2
                      rw [fu_s, fu_n (by omega)]
                      exact hal j hj
                    · rw [fu_n x2, fu_n (by omega)]
                      exact hok i (by omega) j hj) (hS1.keep hn hS2) (fun j hj => by
                    rw [n_o (by decide)]
                    by_cases x2 : j = p
                    · rw [x2, n_s, fu_s]
                    · rw [n_n x2, fu_n x2]; exact h43 j (by omega)) hm2 hA1 ⟨by rw [n_o (by decide), n_o (by decide)]; exact hA.1, fun j hj => by rw [n_o (by decide), n_o (by decide)]; exact hA.2 j hj⟩
                  rw [tot_fu] at s1
                  have hfs3 : fS σ (nst σ2 42 q ((σ2 42 q) &&& (tbit p ^^^ (-1 : Int32)))) := ((hfs.tr hS2).tr s2).tr (fS.st (by omega))
                  obtain ⟨σ', r1, r2, r3, r4, r5, r6⟩ := ihm (q + 1) (nst σ2 42 q ((σ2 42 q) &&& (tbit p ^^^ (-1 : Int32)))) _ (by omega) (by omega) hfs3 (fun i hi' => by rw [n_o (by omega), s3 i (by omega), n_o (by omega), n_o (by omega)]; exact hrow i hi') (fun u hu => by rw [n_o (by omega), s3 p (by omega), n_o (by omega), n_o (by omega)]; exact hto u hu) (fun j hj => by rw [n_o (by decide), s4 j (by omega), n_o (by decide), n_n (by omega)]; exact h43 j hj) (by
                    intro u hu j hj
                    by_cases x1 : u = q
                    · subst x1
                      rw [n_s, b_and, h_not _ hj, tbit_b (by omega)]
                      have h5 := s5 u hu j hj
                      by_cases x2 : j = p
                      · subst x2; simp
                      · rw [fu_n x2] at h5
                        simp only [x2, decide_false, Bool.not_false, Bool.and_true]
                        rw [h5]
                        constructor
                        · rintro ⟨a, b⟩; exact ⟨by omega, b⟩
                        · rintro ⟨a, b⟩; exact ⟨by omega, b⟩
                    · rw [n_n x1]
                      have h5 := s5 u hu j hj
                      rw [h5]
                      by_cases x2 : j = p
                      · subst x2
                        rw [fu_s]
                        constructor
                        · rintro ⟨a, b⟩; exact absurd b.symm x1
                        · rintro ⟨a, b⟩; omega
                      · rw [fu_n x2]
                        constructor
                        · rintro ⟨a, b⟩; exact ⟨by omega, b⟩
                        · rintro ⟨a, b⟩; exact ⟨by omega, b⟩) (foldC_lt _ hA1) ⟨by rw [n_o (by decide)]; exact s6.1, fun j hj => by rw [n_o (by decide)]; exact s6.2 j hj⟩
                  refine ⟨σ', fun K => ?_, r2, r3, r4, r5, by rw [rgQ_s hq, List.foldl_append]; exact r6⟩
                  rw [gS_place_L52, if_neg (nI_nlt (by omega) (by omega)), hS1.2.2.1, if_neg (nI_ge (by omega) (by omega)), b1, hb, Option.bind_some, if_neg (by decide)]
                  simp only [if_pos ip, if_pos iq, cp, cq, n_o (show (42 : Nat) ≠ 43 by decide), k2, hto2, nI_add, nI_1]
                  rw [s1, Option.bind_some]
                  exact r1 K
        obtain ⟨σ', r1, r2, r3, r4, r5, r6⟩ := loop nFU 0 σw A (by omega) (by unfold nFU; omega) fw (fun i hi' => w2 _ (by omega)) w3 (fun j hj => by rw [w2 43 (by omega)]; exact h43 j hj) (fun q hq j hj => by rw [w2 42 (by omega)]; exact hm q hq j hj) hA1 ⟨by rw [w2 9 (by omega)]; exact hA.1, fun j hj => by rw [w2 44 (by omega)]; exact hA.2 j hj⟩
        refine ⟨σ', ?_, r2, r3, fun j hj => by rw [r4 j hj, h43 j hj], r5, r6⟩
        have r1' := r1 (fun σe_52 => some σe_52)
        rw [show ((1 : Int32) <<< (nI p &&& 31)) = tbit p from rfl, z_0, r1']
      · rw [if_neg (nI_ge (by omega) (by omega))]
        refine ⟨σ, rfl, fS.rf σ, fun _ _ => rfl, fun _ _ => rfl, hm, ?_⟩
        rw [foldC_id]
        · exact hA
        · intro x hx
          obtain ⟨-, -, m3, -⟩ := rgL_mem _ _ _ _ _ hx
          rintro ⟨h2, -⟩
          have := (w_C_iff.mp h2).2.1
          omega
