/-! how many partings -/
def blen : Nat → Nat → Nat
  | 0, _ => 1
  | r + 1, k => k * blen r k + blen r (k + 1)
theorem rgL_len : ∀ (r p k : Nat) (f : Nat → Nat), (rgL r p k f).length = blen r k := by
  intro r
  induction r with
  | zero => intro p k f; rfl
  | succ r ih =>
    intro p k f
    have h : ∀ d q, q + d = k → (rgQ r p k f q).length = d * blen r k + blen r (k + 1) := by
      intro d
      induction d with
      | zero =>
        intro q hq
        rw [rgQ_s (by omega), List.length_append, ih, if_pos (by omega), show q + 1 = k + 1 by omega, rgQ_e]
        simp
      | succ d ihd =>
        intro q hq
        rw [rgQ_s (by omega), List.length_append, ih, if_neg (by omega), ihd (q + 1) (by omega), Nat.succ_mul]
        omega
    rw [rgQ_0, h k 0 (by omega), blen]
theorem blen_le : ∀ n, n < 10 → blen n 0 ≤ 21147 := by decide +kernel
/-- there is a parting in just kk parts -/
theorem rgL_ex {kk : Nat} (hkk : 1 ≤ kk) : ∀ (r p k : Nat) (f : Nat → Nat), k = min p kk → ∃ x, x ∈ rgL r p k f ∧ (∀ j, p ≤ j → j < p + r → x.1 j = min j (kk - 1)) ∧ x.2 = min (p + r) kk := by
  intro r
  induction r with
  | zero =>
    intro p k f hk
    exact ⟨(f, k), by simp [rgL], fun j h1 h2 => by omega, hk⟩
  | succ r ih =>
    intro p k f hk
    obtain ⟨x, h1, h2, h3⟩ := ih (p + 1) (if min p (kk - 1) = k then k + 1 else k) (fu f p (min p (kk - 1))) (by split <;> omega)
    refine ⟨x, ?_, fun j h4 h5 => ?_, by rw [h3]; omega⟩
    · rw [rgL, List.mem_flatMap]
      exact ⟨min p (kk - 1), by rw [List.mem_range'_1]; omega, h1⟩
    · by_cases e : j = p
      · subst e
        rw [(rgL_mem _ _ _ _ _ h1).1 j (by omega), fu_s]
      · exact h2 j (by omega) (by omega)
theorem foldC_le {n : Nat} {Q : Qn} : ∀ (L : List ((Nat → Nat) × Nat)) (A : CA), (L.foldl (fun A x => leafC n Q x A) A).1 ≤ A.1 ∧ ∀ x, x ∈ L → Q.1 x.1 x.2 = true → (L.foldl (fun A x => leafC n Q x A) A).1 ≤ Q.2 x.1 := by
  intro L
  induction L with
  | nil => intro A; exact ⟨Nat.le_refl _, fun x hx => by simp at hx⟩
  | cons y L ih =>
    intro A
    obtain ⟨h1, h2⟩ := ih (leafC n Q y A)
    have h3 : (leafC n Q y A).1 ≤ A.1 ∧ (Q.1 y.1 y.2 = true → (leafC n Q y A).1 ≤ Q.2 y.1) := by
      unfold leafC
      by_cases g : Q.1 y.1 y.2 = true ∧ Q.2 y.1 < A.1
      · rw [if_pos g]; exact ⟨by show Q.2 y.1 ≤ A.1; omega, fun _ => Nat.le_refl _⟩
      · rw [if_neg g]; exact ⟨Nat.le_refl _, fun hw => by have : ¬ Q.2 y.1 < A.1 := fun z => g ⟨hw, z⟩; omega⟩
    refine ⟨Nat.le_trans h1 h3.1, fun x hx hw => ?_⟩
    rcases List.mem_cons.mp hx with rfl | hx
    · exact Nat.le_trans h1 (h3.2 hw)
    · exact h2 x hx hw
theorem nI_z {m : Nat} (h : m < 2 ^ 32) (e : nI m = 0) : m = 0 := by
  have := congrArg (fun x => x.toBitVec.toNat) e
  simp only [pk_tn h] at this
  exact this
/-- the class's gathering beside the reference's -/
def simR (n : Nat) (A : MA) (C : CA) : Prop := A.1 = C.1 ∧ (A.2.1 = 0 ↔ A.1 = 1000000) ∧ (A.2.1 ≠ 0 → ∀ j, j < n → A.2.2.1 j = C.2 j)
theorem sim_fold {t : Nt} {Q QC : Qn} : ∀ (L : List ((Nat → Nat) × Nat)), (∀ x, x ∈ L → QC.1 x.1 x.2 = Q.1 x.1 x.2 ∧ QC.2 x.1 = Q.2 x.1 ∧ Q.2 x.1 < 1000000) → ∀ (A : MA) (C : CA), A.2.1 + L.length < 2 ^ 32 → simR (tN t) A C → simR (tN t) (L.foldl (fun A x => leafM t Q 0 x A) A) (L.foldl (fun A x => leafC (tN t) QC x A) C) := by
  intro L
  induction L with
  | nil => intro _ A C _ h; exact h
  | cons x L ih =>
    intro hL A C hlen hR
    obtain ⟨e1, e2, e3⟩ := hL x List.mem_cons_self
    obtain ⟨r1, r2, r3⟩ := hR
    have hlen2 : A.2.1 + (L.length + 1) < 2 ^ 32 := hlen
    have step : simR (tN t) (leafM t Q 0 x A) (leafC (tN t) QC x C) ∧ (leafM t Q 0 x A).2.1 ≤ A.2.1 + 1 := by
      unfold leafM leafC
      rw [e1, e2, ← r1]
      cases hW : Q.1 x.1 x.2 with
      | false =>
        rw [if_pos rfl, if_neg (fun z => by cases z.1)]
        exact ⟨⟨r1, r2, r3⟩, by omega⟩
      | true =>
        rw [if_neg (by decide)]
        by_cases g1 : A.1 < Q.2 x.1
        · rw [if_pos g1, if_neg (fun z => by omega)]
          exact ⟨⟨r1, r2, r3⟩, by omega⟩
        · rw [if_neg g1]
          by_cases g2 : Q.2 x.1 < A.1
          · have hcc : (true = true ∧ Q.2 x.1 < A.1) := ⟨rfl, g2⟩
            rw [if_pos hcc]
            simp only [if_pos g2]
            refine ⟨⟨rfl, ?_, fun _ j hj => ?_⟩, by omega⟩
            · show 0 + 1 = 0 ↔ Q.2 x.1 = 1000000
              omega
            · have hz : nI 0 = (0 : Int32) := rfl
              simp only [if_pos hz, if_pos hj]
          · have hcn : ¬ (true = true ∧ Q.2 x.1 < A.1) := fun z => g2 z.2
            rw [if_neg hcn]
            simp only [if_neg g2]
            have hne : A.2.1 ≠ 0 := fun z => by have := r2.mp z; omega
            refine ⟨⟨r1, ?_, fun _ j hj => ?_⟩, Nat.le_refl _⟩
            · show A.2.1 + 1 = 0 ↔ A.1 = 1000000
              constructor
              · intro z; omega
              · intro z; exact absurd (r2.mpr z) hne
            · have hz : ¬ nI A.2.1 = (0 : Int32) := fun z => hne (nI_z (by omega) z)
              simp only [if_neg hz]
              exact r3 hne j hj
    exact ih (fun y hy => hL y (List.mem_cons_of_mem _ hy)) _ _ (by have := step.2; show (leafM t Q 0 x A).2.1 + L.length < 2 ^ 32; omega) step.1
/-- both searches of one question -/
theorem p_both {t : Nt} (O : NtOK t) {σ1 : nS} {sp jn : Nat → Nat → Nat} {fo fr : Nat → Nat → Bool} {lo hi : Nat} (hlo : lo ≤ 9) (hhi : hi ≤ 9) (hS : SC σ1 (tN t) sp jn fo fr lo hi) {b : Bool} (hT : ∀ f, tot sp jn f (tN t) = tCost t b f) {τ1 : nS} (hM : RM τ1 t) (what : Int32) {W : (Nat → Nat) → Nat → Bool} (hQ : QM t (nst (nst (nst (nst τ1 0 14 what) 0 20 0) 0 18 1000000) 0 19 0) (W, tCost t b)) (hW : ∀ x, x ∈ rgL (tN t) 0 0 (fun _ => 0) → w_C (tN t) fo fr lo hi x.1 x.2 = W x.1 x.2) :
    ∃ σ2 τ2 : nS, gS_run σ1 = some σ2 ∧ eS σ1 σ2 ∧ gM_goesThrough what 0 τ1 = some τ2 ∧ eqM τ1 τ2 ∧ σ2 9 11 = τ2 0 18 ∧ ((∃ x, x ∈ rgL (tN t) 0 0 (fun _ => 0) ∧ W x.1 x.2 = true) → ∀ j, j < tN t → σ2 44 j = τ2 11 j) := by
  have hN := O.1
  obtain ⟨σ2, c1, c2, c3⟩ := p_run hN hlo hhi (fun f => by rw [hT f]; have := tCost_le O (b := b) (f := f); omega) hS
  obtain ⟨τ2, m1, m2, m3⟩ := p_goes O hM what 0 hQ
  have hlen : (rgL (tN t) 0 0 (fun _ => 0)).length ≤ 21147 := by rw [rgL_len]; exact blen_le _ (by omega)
  have hsim := sim_fold (t := t) (Q := (W, tCost t b)) (QC := (w_C (tN t) fo fr lo hi, fun f => tot sp jn f (tN t))) (rgL (tN t) 0 0 (fun _ => 0)) (fun x hx => ⟨hW x hx, hT x.1, by have := tCost_le O (b := b) (f := x.1); show tCost t b x.1 < 1000000; omega⟩) (1000000, 0, τ1 11, τ1 12) (1000000, σ1 44) (by show 0 + _ < 2 ^ 32; omega) ⟨rfl, ⟨fun _ => rfl, fun _ => rfl⟩, fun h => absurd rfl h⟩
  refine ⟨σ2, τ2, c1, c2, m1, m2, by rw [c3.1, m3.1, hsim.1], ?_⟩
  rintro ⟨x, hx, hw⟩ j hj
  rw [c3.2 j hj, m3.2.2.1 j hj]
  refine (hsim.2.2 (fun z => ?_) j hj).symm
  have h1 := hsim.2.1.mp z
  have h2 := (foldC_le (n := tN t) (Q := (w_C (tN t) fo fr lo hi, fun f => tot sp jn f (tN t))) (rgL (tN t) 0 0 (fun _ => 0)) (1000000, σ1 44)).2 x hx (by show w_C (tN t) fo fr lo hi x.1 x.2 = true; rw [hW x hx]; exact hw)
  rw [← hsim.1, h1] at h2
  have h3 : (1000000 : Nat) ≤ tCost t b x.1 := by rw [← hT]; exact h2
  have := tCost_le O (b := b) (f := x.1)
  omega
/-- the parting that lays each post alone -/
theorem ex_alone (n : Nat) (hn : 1 ≤ n) : ∃ x, x ∈ rgL n 0 0 (fun _ => 0) ∧ (∀ i j, i < n → j < n → i ≠ j → ¬ x.1 i = x.1 j) ∧ x.2 = n := by
  obtain ⟨x, h1, h2, h3⟩ := rgL_ex (kk := n) hn n 0 0 (fun _ => 0) (by omega)
  refine ⟨x, h1, fun i j hi hj hij => ?_, by omega⟩
  rw [h2 i (by omega) (by omega), h2 j (by omega) (by omega)]
  omega
theorem SC.fo {σ σ' : nS} {n : Nat} {sp jn : Nat → Nat → Nat} {fo fr fo' fr' : Nat → Nat → Bool} {lo hi : Nat} (hn : n ≤ 9) (h : SC σ n sp jn fo fr lo hi) (e : ∀ c, c ≠ 40 → c ≠ 41 → σ' c = σ c) (hF : fX σ' n fo' fr') : SC σ' n sp jn fo' fr' lo hi := by
  obtain ⟨a, b, c, d, g⟩ := h
  refine ⟨by rw [e 9 (by decide) (by decide)]; exact a, by rw [e 9 (by decide) (by decide)]; exact b, by rw [e 9 (by decide) (by decide)]; exact c, fun i j hi hj => ?_, fun i j hi hj => hF i j hi (by omega)⟩
  rw [e (11 + i) (by omega) (by omega), e (21 + i) (by omega) (by omega)]
  exact d i j hi hj
theorem k1420 (τ : nS) (a b c d : Int32) : (nst (nst (nst (nst τ 0 14 a) 0 20 b) 0 18 c) 0 19 d) 0 14 = a := by rw [n_n (by decide), n_n (by decide), n_n (by decide), n_s]
theorem k15 (τ : nS) (a b c d : Int32) {i : Nat} (hi : i ≠ 14 ∧ i ≠ 18 ∧ i ≠ 19 ∧ i ≠ 20) : (nst (nst (nst (nst τ 0 14 a) 0 20 b) 0 18 c) 0 19 d) 0 i = τ 0 i := by rw [n_n hi.2.2.1, n_n hi.2.1, n_n hi.2.2.2, n_n hi.1]
theorem kM {τ : nS} {t : Nt} (h : RM τ t) (a b c d : Int32) : RM (nst (nst (nst (nst τ 0 14 a) 0 20 b) 0 18 c) 0 19 d) t := h.keep ((((eqM0 (by decide)).tr (eqM0 (by decide))).tr (eqM0 (by decide))).tr (eqM0 (by decide)))
/-! two posts -/
theorem b_cut {t : Nt} (O : NtOK t) {σ : nS} (hC : RC σ t) {τ : nS} (hM : RM τ t) {a b : Nat} (ha : a < tN t) (hb : b < tN t) (hab : a ≠ b) : ∃ σ2 τ2 : nS, gC_findCut (nI a) (nI b) σ = some (1, σ2) ∧ gM_goesThrough 0 0 (nst (nst τ 0 15 (nI a)) 0 16 (nI b)) = some τ2 ∧ RC σ2 t ∧ RM τ2 t ∧ σ2 9 11 = τ2 0 18 ∧ ∀ j, j < tN t → σ2 44 j = τ2 11 j := by
  have hN := O.1
  obtain ⟨s1, sp, jn, a1, a2, a3, a4, a5⟩ := p_prepareSums O hC
  obtain ⟨s2, b1, b2, b3⟩ := p_keepApart hN a4 ha hb
  have hS := a3.fo hN (fun c h1 _ => b2 c h1) b3
  have hM1 : RM (nst (nst τ 0 15 (nI a)) 0 16 (nI b)) t := hM.keep ((eqM0 (by decide)).tr (eqM0 (by decide)))
  obtain ⟨σ2, τ2, c1, c2, c3, c4, c5, c6⟩ := p_both O (Nat.zero_le 9) hN hS a5 hM1 0 (W := w_two a b) (QM_two O (kM hM1 _ _ _ _) (k1420 _ _ _ _ _) (x := a) (y := b) (by rw [k15 _ _ _ _ _ (by decide), n_n (by decide), n_s]) (by rw [k15 _ _ _ _ _ (by decide), n_s]) ha hb) (fun x hx => by
    obtain ⟨-, m2, m3, -⟩ := rgL_mem _ _ _ _ _ hx
    rw [Bool.eq_iff_iff, w_C_iff]
    unfold okP w_two
    rw [decide_eq_true_iff]
    constructor
    · rintro ⟨h, -⟩
      by_cases g : a < b
      · have := (h b hb a g).1 (by simp)
        exact fun z => this z.symm
      · exact (h a ha b (by omega)).1 (by simp)
    · intro h
      refine ⟨fun i hi j hj => ⟨fun hf => ?_, fun hf => by cases hf⟩, by omega, by omega⟩
      have h5 : (i = a ∧ j = b) ∨ (i = b ∧ j = a) := by simpa using hf
      rcases h5 with ⟨rfl, rfl⟩ | ⟨rfl, rfl⟩
      · exact h
      · exact fun z => h z.symm)
  have e1 : eS σ σ2 := (a2.tr (fun c hc => b2 c (by omega))).tr c2
  refine ⟨σ2, τ2, ?_, c3, hC.keep e1.C, hM1.keep c4, c5, c6 ?_⟩
  · unfold gC_findCut
    have e0 : inb (nI a) (tN t) ∧ inb (nI b) (tN t) ∧ nI a ≠ nI b := ⟨(z_in (by omega)).mpr ha, (z_in (by omega)).mpr hb, fun h => hab ((z_eq (by omega) (by omega)).mp h)⟩
    rw [p_hasTwo O hC, zb_t e0, Option.bind_some, if_neg z10, a1, Option.bind_some, b1, Option.bind_some, c1]
    rfl
  · obtain ⟨x, h1, h2, -⟩ := ex_alone (tN t) (by omega)
    exact ⟨x, h1, decide_eq_true (h2 a b ha hb hab)⟩
theorem st_cut {σ τ : nS} {t : Nt} (O : NtOK t) (hC : RC σ t) (hM : RM τ t) (x y : Int32) : nStp (gC_cut x y σ) (gM_cut x y τ) := by
  have hN := O.1
  rcases p_canTwo O hM x y with ⟨h, e⟩ | ⟨⟨h1, h2, h3⟩, e⟩
  · refine ⟨-1, σ, τ, t, ?_, ?_, O, hC, hM⟩
    · unfold gC_cut gC_findCut
      rw [p_hasTwo O hC, zb_f h]
      rfl
    · unfold gM_cut
      rw [e]
      rfl
  · obtain ⟨a, ha, rfl⟩ := z_of h1 (by omega)
    obtain ⟨b, hb, rfl⟩ := z_of h2 (by omega)
    obtain ⟨σ2, τ2, q1, q2, q3, q4, q5, q6⟩ := b_cut O hC hM ha hb (fun h => h3 (by rw [h]))
    refine ⟨τ2 0 18, σ2, τ2, t, ?_, ?_, O, q3, q4⟩
    · unfold gC_cut gS_leastCost
      rw [q1]
      simp only [Option.bind_some, if_neg z10, q5]
    · unfold gM_cut
      rw [e]
      simp only [Option.bind_some, if_neg z10, q2]
theorem st_cutPart {σ τ : nS} {t : Nt} (O : NtOK t) (hC : RC σ t) (hM : RM τ t) (x y z : Int32) : nStp (gC_cutPart x y z σ) (gM_cutPart x y z τ) := by
  have hN := O.1
  rcases p_canTwo O hM x y with ⟨h, e⟩ | ⟨⟨h1, h2, h3⟩, e⟩
  · refine ⟨-1, σ, τ, t, ?_, ?_, O, hC, hM⟩
    · unfold gC_cutPart gC_findCut
      rw [p_hasPost O hC, p_hasTwo O hC, zb_f h]
      by_cases g : inb z (tN t)
      · rw [zb_t g]; rfl
      · rw [zb_f g]; rfl
    · unfold gM_cutPart
      rw [e]
      rfl
  · obtain ⟨a, ha, rfl⟩ := z_of h1 (by omega)
    obtain ⟨b, hb, rfl⟩ := z_of h2 (by omega)
    have hM1 : RM (nst (nst τ 0 15 (nI a)) 0 16 (nI b)) t := hM.keep ((eqM0 (by decide)).tr (eqM0 (by decide)))
    by_cases g : inb z (tN t)
    · have g0 := g
      obtain ⟨j, hj, rfl⟩ := z_of g (by omega)
      obtain ⟨σ2, τ2, q1, q2, q3, q4, q5, q6⟩ := b_cut O hC hM ha hb (fun h => h3 (by rw [h]))
      have ij : inb (nI j) 9 := (z_in (by omega)).mpr (by omega)
      refine ⟨τ2 11 j, σ2, τ2, t, ?_, ?_, O, q3, q4⟩
      · unfold gC_cutPart gS_partOf
        rw [p_hasPost O hC, zb_t g0, q1]
        simp only [Option.bind_some, if_neg z10, if_pos ij, z_cl (show j < 2 ^ 31 by omega), q6 j hj]
      · unfold gM_cutPart
        rw [e]
        simp only [Option.bind_some, if_neg z10, p_isPost O hM1, zb_t g0, q2, if_pos ij, z_cl (show j < 2 ^ 31 by omega)]
    · refine ⟨-1, σ, _, t, ?_, ?_, O, hC, hM1⟩
      · unfold gC_cutPart
        rw [p_hasPost O hC, zb_f g]
        rfl
      · unfold gM_cutPart
        rw [e]
        simp only [Option.bind_some, if_neg z10, p_isPost O hM1, zb_f g, if_true]
