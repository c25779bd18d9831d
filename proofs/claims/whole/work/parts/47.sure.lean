/-- the least cost of those that V takes -/
def mn (V : (Nat → Nat) → Nat → Bool) (cost : (Nat → Nat) → Nat) (L : List ((Nat → Nat) × Nat)) (u : Nat) : Nat := L.foldl (fun u x => if V x.1 x.2 = true ∧ cost x.1 < u then cost x.1 else u) u
theorem mn_cons {V : (Nat → Nat) → Nat → Bool} {c : (Nat → Nat) → Nat} {x : (Nat → Nat) × Nat} {L : List ((Nat → Nat) × Nat)} {u : Nat} : mn V c (x :: L) u = mn V c L (if V x.1 x.2 = true ∧ c x.1 < u then c x.1 else u) := rfl
theorem mn_C {n : Nat} {Q : Qn} : ∀ (L : List ((Nat → Nat) × Nat)) (A : CA), (L.foldl (fun A x => leafC n Q x A) A).1 = mn Q.1 Q.2 L A.1 := by
  intro L
  induction L with
  | nil => intro A; rfl
  | cons x L ih =>
    intro A
    rw [List.foldl_cons, ih, mn_cons]
    congr 1
    unfold leafC
    by_cases g : Q.1 x.1 x.2 = true ∧ Q.2 x.1 < A.1
    · rw [if_pos g, if_pos g]
    · rw [if_neg g, if_neg g]
theorem mn_congr {V V' : (Nat → Nat) → Nat → Bool} {c c' : (Nat → Nat) → Nat} : ∀ (L : List ((Nat → Nat) × Nat)) (u : Nat), (∀ x, x ∈ L → V x.1 x.2 = V' x.1 x.2 ∧ c x.1 = c' x.1) → mn V c L u = mn V' c' L u := by
  intro L
  induction L with
  | nil => intro u _; rfl
  | cons x L ih =>
    intro u h
    obtain ⟨h1, h2⟩ := h x List.mem_cons_self
    rw [mn_cons, mn_cons, h1, h2]
    exact ih _ (fun y hy => h y (List.mem_cons_of_mem _ hy))
theorem mn_le {V : (Nat → Nat) → Nat → Bool} {cost : (Nat → Nat) → Nat} : ∀ (L : List ((Nat → Nat) × Nat)) (u : Nat), mn V cost L u ≤ u ∧ ∀ x, x ∈ L → V x.1 x.2 = true → mn V cost L u ≤ cost x.1 := by
  intro L
  induction L with
  | nil => intro u; exact ⟨Nat.le_refl _, fun x hx => by simp at hx⟩
  | cons y L ih =>
    intro u
    obtain ⟨h1, h2⟩ := ih (if V y.1 y.2 = true ∧ cost y.1 < u then cost y.1 else u)
    have h3 : (if V y.1 y.2 = true ∧ cost y.1 < u then cost y.1 else u) ≤ u ∧ (V y.1 y.2 = true → (if V y.1 y.2 = true ∧ cost y.1 < u then cost y.1 else u) ≤ cost y.1) := by
      by_cases g : V y.1 y.2 = true ∧ cost y.1 < u
      · rw [if_pos g]; exact ⟨by omega, fun _ => Nat.le_refl _⟩
      · rw [if_neg g]; exact ⟨Nat.le_refl _, fun hw => by have : ¬ cost y.1 < u := fun z => g ⟨hw, z⟩; omega⟩
    refine ⟨Nat.le_trans h1 h3.1, fun x hx hw => ?_⟩
    rcases List.mem_cons.mp hx with rfl | hx
    · exact Nat.le_trans h1 (h3.2 hw)
    · exact h2 x hx hw
/-- line l, seen by the reference and by two least costs: uncut, cut -/
def suR (A : MA) (l U C : Nat) : Prop := ∃ c : Nat, (A.1 ≤ U ∧ A.1 ≤ C ∧ (A.1 = U ∨ A.1 = C)) ∧ U ≤ 1000000 ∧ C ≤ 1000000 ∧ (A.2.1 = 0 ↔ A.1 = 1000000) ∧ (A.2.1 ≠ 0 → A.2.2.2 l = nI c) ∧ (A.2.1 ≠ 0 → (c ≤ A.2.1 ∧ (0 < c ↔ C = A.1) ∧ (c < A.2.1 ↔ U = A.1)))
theorem su_fold {t : Nt} {Q : Qn} {wi : Int32} {l : Nat} : ∀ (L : List ((Nat → Nat) × Nat)), (∀ x, x ∈ L → Q.2 x.1 < 1000000) → ∀ (A : MA) (U C : Nat), suR A l U C → suR (L.foldl (fun A x => leafM t Q wi x A) A) l (mn (fun f k => Q.1 f k && decide (f (tA t l) = f (tB t l))) Q.2 L U) (mn (fun f k => Q.1 f k && !decide (f (tA t l) = f (tB t l))) Q.2 L C) := by
  intro L
  induction L with
  | nil => intro _ A U C h; exact h
  | cons x L ih =>
    intro hL A U C hR
    have e3 := hL x List.mem_cons_self
    rw [List.foldl_cons, mn_cons, mn_cons]
    refine ih (fun y hy => hL y (List.mem_cons_of_mem _ hy)) _ _ _ ?_
    clear ih hL
    show suR (leafM t Q wi x A) l (if (Q.1 x.1 x.2 && decide (x.1 (tA t l) = x.1 (tB t l))) = true ∧ Q.2 x.1 < U then Q.2 x.1 else U) (if (Q.1 x.1 x.2 && !decide (x.1 (tA t l) = x.1 (tB t l))) = true ∧ Q.2 x.1 < C then Q.2 x.1 else C)
    obtain ⟨c, r1, r2, r3, r4, r5, r6⟩ := hR
    unfold leafM
    cases hW : Q.1 x.1 x.2 with
    | false =>
      simp only [if_true, Bool.false_and, false_and, if_false, Bool.false_eq_true]
      exact ⟨c, r1, r2, r3, r4, r5, r6⟩
    | true =>
      rw [if_neg (show ¬ (true = false) by decide)]
      simp only [Bool.true_and]
      by_cases gP : x.1 (tA t l) = x.1 (tB t l)
      · have p1 : (decide (x.1 (tA t l) = x.1 (tB t l)) = true) := decide_eq_true gP
        simp only [p1, Bool.not_true, Bool.false_eq_true, false_and, if_false, true_and]
        by_cases g1 : A.1 < Q.2 x.1
        · rw [if_pos g1]
          refine ⟨c, ?_, ?_, r3, r4, r5, fun h => ?_⟩
          · split <;> omega
          · split <;> omega
          · have := r6 h
            refine ⟨this.1, this.2.1, ?_⟩
            rw [this.2.2]
            split <;> omega
        · rw [if_neg g1]
          by_cases g2 : Q.2 x.1 < A.1
          · simp only [if_pos g2]
            rw [if_pos (show Q.2 x.1 < U by omega)]
            refine ⟨0, ?_, by omega, r3, ?_, fun _ => ?_, fun _ => ⟨?_, ?_, ?_⟩⟩
            · show Q.2 x.1 ≤ Q.2 x.1 ∧ Q.2 x.1 ≤ C ∧ (Q.2 x.1 = Q.2 x.1 ∨ Q.2 x.1 = C); omega
            · show 0 + 1 = 0 ↔ Q.2 x.1 = 1000000; omega
            · show (0 : Int32) + (if x.1 (tA t l) = x.1 (tB t l) then 0 else 1) = nI 0
              rw [if_pos gP]; rfl
            · show 0 ≤ 0 + 1; omega
            · show 0 < 0 ↔ C = Q.2 x.1; omega
            · show 0 < 0 + 1 ↔ Q.2 x.1 = Q.2 x.1; omega
          · simp only [if_neg g2]
            have hne : A.2.1 ≠ 0 := fun z => by have := r4.mp z; omega
            obtain ⟨c2, c3, c4⟩ := r6 hne
            have hU : (if Q.2 x.1 < U then Q.2 x.1 else U) = A.1 := by split <;> omega
            rw [hU]
            refine ⟨c, ?_, by omega, r3, ?_, fun _ => ?_, fun _ => ⟨?_, c3, ?_⟩⟩
            · show A.1 ≤ A.1 ∧ A.1 ≤ C ∧ (A.1 = A.1 ∨ A.1 = C); omega
            · show A.2.1 + 1 = 0 ↔ A.1 = 1000000
              constructor
              · intro z; omega
              · intro z; exact absurd (r4.mpr z) hne
            · show A.2.2.2 l + (if x.1 (tA t l) = x.1 (tB t l) then 0 else 1) = nI c
              rw [if_pos gP, r5 hne]; exact Int32.add_zero _
            · show c ≤ A.2.1 + 1; omega
            · show c < A.2.1 + 1 ↔ A.1 = A.1
              constructor
              · intro _; rfl
              · intro _; omega
      · have p1 : (decide (x.1 (tA t l) = x.1 (tB t l)) = false) := decide_eq_false gP
        simp only [p1, Bool.not_false, Bool.false_eq_true, false_and, if_false, true_and]
        by_cases g1 : A.1 < Q.2 x.1
        · rw [if_pos g1]
          refine ⟨c, ?_, r2, ?_, r4, r5, fun h => ?_⟩
          · split <;> omega
          · split <;> omega
          · have := r6 h
            refine ⟨this.1, ?_, this.2.2⟩
            rw [this.2.1]
            split <;> omega
        · rw [if_neg g1]
          by_cases g2 : Q.2 x.1 < A.1
          · simp only [if_pos g2]
            rw [if_pos (show Q.2 x.1 < C by omega)]
            refine ⟨1, ?_, r2, by omega, ?_, fun _ => ?_, fun _ => ⟨?_, ?_, ?_⟩⟩
            · show Q.2 x.1 ≤ U ∧ Q.2 x.1 ≤ Q.2 x.1 ∧ (Q.2 x.1 = U ∨ Q.2 x.1 = Q.2 x.1); omega
            · show 0 + 1 = 0 ↔ Q.2 x.1 = 1000000; omega
            · show (0 : Int32) + (if x.1 (tA t l) = x.1 (tB t l) then 0 else 1) = nI 1
              rw [if_neg gP]; rfl
            · show 1 ≤ 0 + 1; omega
            · show 0 < 1 ↔ Q.2 x.1 = Q.2 x.1; omega
            · show 1 < 0 + 1 ↔ U = Q.2 x.1; omega
          · simp only [if_neg g2]
            have hne : A.2.1 ≠ 0 := fun z => by have := r4.mp z; omega
            obtain ⟨c2, c3, c4⟩ := r6 hne
            have hC : (if Q.2 x.1 < C then Q.2 x.1 else C) = A.1 := by split <;> omega
            rw [hC]
            refine ⟨c + 1, ?_, r2, by omega, ?_, fun _ => ?_, fun _ => ⟨?_, ?_, ?_⟩⟩
            · show A.1 ≤ U ∧ A.1 ≤ A.1 ∧ (A.1 = U ∨ A.1 = A.1); omega
            · show A.2.1 + 1 = 0 ↔ A.1 = 1000000
              constructor
              · intro z; omega
              · intro z; exact absurd (r4.mpr z) hne
            · show A.2.2.2 l + (if x.1 (tA t l) = x.1 (tB t l) then 0 else 1) = nI (c + 1)
              rw [if_neg gP, r5 hne]; exact nI_1 _
            · show c + 1 ≤ A.2.1 + 1; omega
            · show 0 < c + 1 ↔ A.1 = A.1
              constructor
              · intro _; rfl
              · intro _; omega
            · show c + 1 < A.2.1 + 1 ↔ U = A.1
              rw [← c4]; omega
theorem many_le {t : Nt} {Q : Qn} {wi : Int32} : ∀ (L : List ((Nat → Nat) × Nat)) (A : MA), (L.foldl (fun A x => leafM t Q wi x A) A).2.1 ≤ A.2.1 + L.length := by
  intro L
  induction L with
  | nil => intro A; exact Nat.le_refl _
  | cons x L ih =>
    intro A
    have h1 := ih (leafM t Q wi x A)
    have h2 : (leafM t Q wi x A).2.1 ≤ A.2.1 + 1 := by
      unfold leafM
      split
      · omega
      · split
        · omega
        · by_cases g : Q.2 x.1 < A.1
          · simp only [if_pos g]; omega
          · simp only [if_neg g]; omega
    show (L.foldl (fun A x => leafM t Q wi x A) (leafM t Q wi x A)).2.1 ≤ A.2.1 + (L.length + 1)
    omega
theorem b_line {t : Nt} (O : NtOK t) {σ : nS} (hC : RC σ t) {l : Nat} (hl : l < tL t) : ∃ σ1 σ2 σ3 : nS, (∃ s1 s2, gC_preparePairs σ = some s1 ∧ gS_keepTogether (nI (tA t l)) (nI (tB t l)) s1 = some s2 ∧ gS_run s2 = some σ1) ∧ σ1 9 11 = nI (mn (fun f k => w_apart t f k && decide (f (tA t l) = f (tB t l))) (tCost t false) (rgL (tN t) 0 0 (fun _ => 0)) 1000000) ∧ (∃ s1 s2, gC_preparePairs σ1 = some s1 ∧ gS_keepApart (nI (tA t l)) (nI (tB t l)) s1 = some s2 ∧ gS_run s2 = some σ3) ∧ σ3 9 11 = nI (mn (fun f k => w_apart t f k && !decide (f (tA t l) = f (tB t l))) (tCost t false) (rgL (tN t) 0 0 (fun _ => 0)) 1000000) ∧ RC σ3 t := by
  have hN := O.1
  obtain ⟨ha, hb, hab, -⟩ := O.2.2.2.2.1 l hl
  have hBd : ∀ {sp jn : Nat → Nat → Nat}, (∀ f, tot sp jn f (tN t) = tCost t false f) → ∀ f, tot sp jn f (tN t) < 2 ^ 31 := fun h f => by rw [h f]; have := tCost_le O (b := false) (f := f); omega
  obtain ⟨s1, sp, jn, a1, a2, a3, a4, a5⟩ := p_preparePairs O hC
  obtain ⟨s2, b1, b2, b3⟩ := p_keepTogether hN a4 ha hb hab
  have hS := a3.fo hN (fun c _ h1 => b2 c h1) b3
  obtain ⟨σ1, c1, c2, c3⟩ := p_run hN (Nat.zero_le 9) hN (hBd a5) hS
  have hC1 : RC σ1 t := hC.keep ((a2.tr (fun c hc => b2 c (by omega))).tr c2).C
  obtain ⟨s3, sp3, jn3, d1, d2, d3, d4, d5⟩ := p_preparePairs O hC1
  obtain ⟨s4, e1, e2, e3⟩ := p_keepApart hN d4 ha hb
  have hS3 := d3.fo hN (fun c h1 _ => e2 c h1) e3
  obtain ⟨σ3, f1, f2, f3⟩ := p_run hN (Nat.zero_le 9) hN (hBd d5) hS3
  refine ⟨σ1, σ1, σ3, ⟨s1, s2, a1, b1, c1⟩, ?_, ⟨s3, s4, d1, e1, f1⟩, ?_, hC1.keep ((d2.tr (fun c hc => e2 c (by omega))).tr f2).C⟩
  · rw [c3.1, mn_C]
    congr 1
    apply mn_congr
    intro x hx
    refine ⟨?_, a5 x.1⟩
    obtain ⟨-, m2, m3, -⟩ := rgL_mem _ _ _ _ _ hx
    show w_C _ _ _ _ _ x.1 x.2 = _
    rw [Bool.eq_iff_iff, w_C_iff, Bool.and_eq_true]
    unfold okP w_apart
    rw [decide_eq_true_iff, decide_eq_true_iff, ← ok_pairs O hC]
    constructor
    · rintro ⟨h, -⟩
      refine ⟨fun i hi j hj => (h i hi j hj).1, ?_⟩
      by_cases g : tA t l < tB t l
      · exact ((h _ hb _ g).2 (by simp)).symm
      · exact (h _ ha _ (by omega)).2 (by simp)
    · rintro ⟨h1, h2⟩
      refine ⟨fun i hi j hj => ⟨h1 i hi j hj, fun hf => ?_⟩, by omega, by omega⟩
      have h5 : (i = tA t l ∧ j = tB t l) ∨ (i = tB t l ∧ j = tA t l) := by simpa using hf
      rcases h5 with ⟨rfl, rfl⟩ | ⟨rfl, rfl⟩
      · exact h2
      · exact h2.symm
  · rw [f3.1, mn_C]
    congr 1
    apply mn_congr
    intro x hx
    refine ⟨?_, d5 x.1⟩
    obtain ⟨-, m2, m3, -⟩ := rgL_mem _ _ _ _ _ hx
    show w_C _ _ _ _ _ x.1 x.2 = _
    rw [Bool.eq_iff_iff, w_C_iff, Bool.and_eq_true]
    unfold okP w_apart
    rw [decide_eq_true_iff, ← ok_pairs O hC1]
    constructor
    · rintro ⟨h, -⟩
      refine ⟨fun i hi j hj hb => (h i hi j hj).1 (by simp [hb]), ?_⟩
      have h6 : ¬ x.1 (tA t l) = x.1 (tB t l) := by
        by_cases g : tA t l < tB t l
        · exact fun z => (h _ hb _ g).1 (by simp) z.symm
        · exact (h _ ha _ (by omega)).1 (by simp)
      simpa using h6
    · rintro ⟨h1, h2⟩
      have h6 : ¬ x.1 (tA t l) = x.1 (tB t l) := by simpa using h2
      refine ⟨fun i hi j hj => ⟨fun hf => ?_, fun hf => (by cases hf)⟩, by omega, by omega⟩
      have h5 : (bt (σ1 47 i) j = true ∨ (i = tA t l ∧ j = tB t l)) ∨ (i = tB t l ∧ j = tA t l) := by simpa using hf
      rcases h5 with (h5 | ⟨rfl, rfl⟩) | ⟨rfl, rfl⟩
      · exact h1 i hi j hj h5
      · exact h6
      · exact fun z => h6 z.symm
theorem st_sure {σ τ : nS} {t : Nt} (O : NtOK t) (hC : RC σ t) (hM : RM τ t) (x : Int32) : nStp (gC_sure x σ) (gM_sure x τ) := by
  have hN := O.1
  have hL := O.2.1
  by_cases h : inb x (tL t) ∧ tOv t x.toNatClampNeg = false
  · have h0 := h
    obtain ⟨h1, h2⟩ := h
    obtain ⟨l, hl, rfl⟩ := z_of h1 (by omega)
    obtain ⟨ha, hb, hab, -⟩ := O.2.2.2.2.1 l hl
    have i24 : inb (nI l) 24 := (z_in (by omega)).mpr (by omega)
    have cl : (nI l).toNatClampNeg = l := z_cl (by omega)
    obtain ⟨e2, e3, -⟩ := hC.2.2.2.2.1 l hl
    obtain ⟨σ1, -, σ3, ⟨s1, s2, a1, a2, a3⟩, a4, ⟨s3, s4, a5, a6, a7⟩, a8, hC3⟩ := b_line O hC hl
    obtain ⟨τ2, m1, m2, m3⟩ := p_goes O hM 2 0 (Q := (w_apart t, tCost t false)) (QM_apart O (kM hM _ _ _ _) (k1420 _ _ _ _ _))
    have hlen : (rgL (tN t) 0 0 (fun _ => 0)).length ≤ 21147 := by rw [rgL_len]; exact blen_le _ (by omega)
    have hsu := su_fold (t := t) (Q := (w_apart t, tCost t false)) (wi := 0) (l := l) (rgL (tN t) 0 0 (fun _ => 0)) (fun y _ => by have := tCost_le O (b := false) (f := y.1); show tCost t false y.1 < 1000000; omega) (1000000, 0, τ 11, τ 12) 1000000 1000000 ⟨0, ⟨Nat.le_refl _, Nat.le_refl _, Or.inl rfl⟩, Nat.le_refl _, Nat.le_refl _, ⟨fun _ => rfl, fun _ => rfl⟩, fun h => absurd rfl h, fun h => absurd rfl h⟩
    have hmany := many_le (t := t) (Q := (w_apart t, tCost t false)) (wi := 0) (rgL (tN t) 0 0 (fun _ => 0)) (1000000, 0, τ 11, τ 12)
    have hcut : mn (fun f k => w_apart t f k && !decide (f (tA t l) = f (tB t l))) (tCost t false) (rgL (tN t) 0 0 (fun _ => 0)) 1000000 ≤ 2376 := by
      obtain ⟨y, y1, y2, -⟩ := ex_alone (tN t) (by omega)
      have hw : (w_apart t y.1 y.2 && !decide (y.1 (tA t l) = y.1 (tB t l))) = true := by
        rw [Bool.and_eq_true]
        refine ⟨decide_eq_true (fun s hs => ?_), ?_⟩
        · obtain ⟨ox, oy, oxy⟩ := O.2.2.2.2.2.2.1 s hs
          exact y2 _ _ ox oy oxy
        · simpa using y2 _ _ ha hb hab
      have := (mn_le (V := fun f k => w_apart t f k && !decide (f (tA t l) = f (tB t l))) (cost := tCost t false) (rgL (tN t) 0 0 (fun _ => 0)) 1000000).2 y y1 hw
      have h9 := tCost_le O (b := false) (f := y.1)
      omega
    generalize hU : mn (fun f k => w_apart t f k && decide (f (tA t l) = f (tB t l))) (tCost t false) (rgL (tN t) 0 0 (fun _ => 0)) 1000000 = U at a4 hsu
    generalize hCC : mn (fun f k => w_apart t f k && !decide (f (tA t l) = f (tB t l))) (tCost t false) (rgL (tN t) 0 0 (fun _ => 0)) 1000000 = C at a8 hsu hcut
    generalize hA : (rgL (tN t) 0 0 (fun _ => 0)).foldl (fun A x => leafM t (w_apart t, tCost t false) 0 x A) (1000000, 0, τ 11, τ 12) = A at m3 hsu hmany
    obtain ⟨c, u1, u2, u3, u4, u5, u6⟩ := hsu
    have hne : A.2.1 ≠ 0 := fun z => by have := u4.mp z; omega
    have c1 := u5 hne
    obtain ⟨c2, c3, c4⟩ := u6 hne
    have hmany2 : A.2.1 ≤ 21147 := by
      have : A.2.1 ≤ 0 + (rgL (tN t) 0 0 (fun _ => 0)).length := hmany
      omega
    have hval : ∃ r : Int32, gC_sure (nI l) σ = some (r, σ3) ∧ gM_sure (nI l) τ = some (r, τ2) := by
      refine ⟨if nI U ≤ nI C then (if nI C = nI U then 1 else 0) else 2, ?_, ?_⟩
      · unfold gC_sure gS_leastCost
        rw [p_hasLine O hC, zb_t h0]
        simp only [Option.bind_some, if_neg z10, if_pos i24, cl, e2, e3, a1, a2, a3, a4, a5, a6, a7, a8]
        by_cases g1 : nI U ≤ nI C
        · rw [if_pos g1, if_pos g1]
          by_cases g2 : nI C = nI U
          · rw [if_pos g2, if_pos g2]
          · rw [if_neg g2, if_neg g2]
        · rw [if_neg g1, if_neg g1]
      · unfold gM_sure
        rw [p_isLine O hM, zb_t h0, Option.bind_some, if_neg z10, m1, Option.bind_some, if_pos i24, cl, m3.2.2.2 l hl, m3.2.1, c1]
        by_cases g1 : c = A.2.1
        · rw [if_pos (by rw [g1]), if_neg (nI_ge (by omega) (by omega))]
        · rw [if_neg (fun z => g1 ((z_eq (by omega) (by omega)).mp z)), if_pos i24]
          have hUA : U = A.1 := c4.mp (by omega)
          rw [if_pos (nI_le (by omega) (by omega))]
          by_cases g2 : c = 0
          · rw [g2, if_pos (by decide), if_neg (fun z => by
              have := (z_eq (by omega) (by omega)).mp z
              have h7 : 0 < c := c3.mpr (by omega)
              omega)]
          · rw [if_neg (nI_nle (by omega) (by omega)), if_pos (by rw [c3.mp (by omega), hUA])]
    obtain ⟨r, v1, v2⟩ := hval
    exact ⟨r, σ3, τ2, t, v1, v2, O, hC3, hM.keep m2⟩
  · refine ⟨-1, σ, τ, t, ?_, ?_, O, hC, hM⟩
    · unfold gC_sure
      rw [p_hasLine O hC, zb_f h]
      rfl
    · unfold gM_sure
      rw [p_isLine O hM, zb_f h]
      rfl
