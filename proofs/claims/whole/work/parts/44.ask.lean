/-- what the search's questions leave alone -/
def eS (σ σ' : nS) : Prop := ∀ c, (c < 9 ∨ 45 ≤ c) → σ' c = σ c
theorem eS.tr {a b c : nS} (h : eS a b) (g : eS b c) : eS a c := fun k hk => (g k hk).trans (h k hk)
theorem eS.rf (σ : nS) : eS σ σ := fun _ _ => rfl
theorem eS.st {σ : nS} {c i : Nat} {v : Int32} (h : 9 ≤ c ∧ c < 45) : eS σ (nst σ c i v) := fun d hd => n_o (by omega)
theorem fS.eS {σ σ' : nS} (h : fS σ σ') : eS σ σ' := fun c hc => h.1 c (by omega)
theorem eS.C {σ σ' : nS} (h : eS σ σ') : eqC σ σ' := fun c hc => h c (by omega)
/-- nothing costs, nobody is a foe or a friend, among the first i posts -/
def zS (σ : nS) (i : Nat) : Prop := ∀ a, a < i → (∀ b, b < a → σ (11 + a) b = 0 ∧ σ (21 + a) b = 0) ∧ σ 40 a = 0 ∧ σ 41 a = 0
theorem p_bg49 {i : Nat} (hi : i < 9) : ∀ (m j : Nat) (σ : nS), j ≤ i → i < j + m → ∃ σ' : nS, (∀ K, gS_begin_L49 (nI i) K m (nI j) σ = K σ') ∧ (∀ c, c ≠ 11 + i → c ≠ 21 + i → σ' c = σ c) ∧ (∀ u, u < j → σ' (11 + i) u = σ (11 + i) u ∧ σ' (21 + i) u = σ (21 + i) u) ∧ ∀ u, j ≤ u → u < i → σ' (11 + i) u = 0 ∧ σ' (21 + i) u = 0 := by
  intro m
  induction m with
  | zero => intro j σ h1 h2; omega
  | succ m ih =>
    intro j σ h1 h2
    by_cases e : j = i
    · subst e
      refine ⟨σ, fun K => ?_, fun _ _ _ => rfl, fun _ _ => ⟨rfl, rfl⟩, fun u a b => by omega⟩
      rw [gS_begin_L49, if_pos (nI_le (Nat.le_refl _) (by omega))]
    · obtain ⟨σ', q1, q2, q3, q4⟩ := ih (j + 1) (nst (nst σ (11 + i) j 0) (21 + i) j 0) (by omega) (by omega)
      have ii : inb (nI i) 9 := (z_in (by omega)).mpr (by omega)
      have ij : inb (nI j) 9 := (z_in (by omega)).mpr (by omega)
      refine ⟨σ', fun K => ?_, fun c a b => by rw [q2 c a b, n_o b, n_o a], fun u hu => ?_, fun u a b => ?_⟩
      · rw [gS_begin_L49, if_neg (nI_ge (by omega) (by omega)), if_pos ii, if_pos ij, if_pos ii, if_pos ij, z_cl (by omega), z_cl (by omega), nI_1]
        exact q1 K
      · obtain ⟨x, y⟩ := q3 u (by omega)
        rw [x, y, n_o (by omega), n_n (by omega), n_n (by omega), n_o (by omega)]
        exact ⟨rfl, rfl⟩
      · by_cases f : u = j
        · subst f
          obtain ⟨x, y⟩ := q3 u (by omega)
          rw [x, y, n_o (by omega), n_s, n_s]
          exact ⟨rfl, rfl⟩
        · exact q4 u (by omega) b
theorem p_bg25 {n : Nat} (hn : n ≤ 9) : ∀ (m i : Nat) (σ : nS), σ 9 8 = nI n → zS σ i → i ≤ n → n < i + m → ∃ σ' : nS, (∀ K, gS_begin_L25 K m (nI i) σ = K σ') ∧ (∀ c, (c < 11 ∨ (30 ≤ c ∧ c ≠ 40 ∧ c ≠ 41)) → σ' c = σ c) ∧ zS σ' n := by
  intro m
  induction m with
  | zero => intro i σ _ _ h1 h2; omega
  | succ m ih =>
    intro i σ h8 hz h1 h2
    by_cases e : i = n
    · subst e
      refine ⟨σ, fun K => ?_, fun _ _ => rfl, hz⟩
      rw [gS_begin_L25, h8, if_pos (nI_le (Nat.le_refl _) (by omega))]
    · obtain ⟨σ1, q1, q2, q3, q4⟩ := p_bg49 (i := i) (by omega) nFU 0 (nst (nst σ 40 i 0) 41 i 0) (Nat.zero_le _) (by unfold nFU; omega)
      obtain ⟨σ', r1, r2, r3⟩ := ih (i + 1) σ1 (by rw [q2 9 (by omega) (by omega), n_o (by decide), n_o (by decide)]; exact h8) (fun a ha => by
        by_cases f : a = i
        · subst f
          refine ⟨fun b hb => q4 b (by omega) hb, ?_, ?_⟩
          · rw [q2 40 (by omega) (by omega), n_o (by decide), n_s]
          · rw [q2 41 (by omega) (by omega), n_s]
        · obtain ⟨x, y, z⟩ := hz a (by omega)
          refine ⟨fun b hb => ?_, ?_, ?_⟩
          · rw [q2 (11 + a) (by omega) (by omega), q2 (21 + a) (by omega) (by omega), n_o (by omega), n_o (by omega), n_o (by omega), n_o (by omega)]
            exact x b hb
          · rw [q2 40 (by omega) (by omega), n_o (by decide), n_n f]; exact y
          · rw [q2 41 (by omega) (by omega), n_n f, n_o (by decide)]; exact z) (by omega) (by omega)
      have ii : inb (nI i) 9 := (z_in (by omega)).mpr (by omega)
      refine ⟨σ', fun K => ?_, fun c hc => by rw [r2 c hc, q2 c (by omega) (by omega), n_o (by omega), n_o (by omega)], r3⟩
      rw [gS_begin_L25, h8, if_neg (nI_ge (by omega) (by omega)), if_pos ii, if_pos ii, z_cl (by omega), nI_1, z_0, ← z_0, ← r1 K]
      exact q1 _
/-- costs as a table -/
def mX (σ : nS) (n : Nat) (sp jn : Nat → Nat → Nat) : Prop := ∀ i j, i < n → j < i → σ (11 + i) j = nI (sp i j) ∧ σ (21 + i) j = nI (jn i j)
def fX (σ : nS) (n : Nat) (fo fr : Nat → Nat → Bool) : Prop := ∀ i j, i < n → j < 32 → bt (σ 40 i) j = fo i j ∧ bt (σ 41 i) j = fr i j
theorem p_begin {n : Nat} (hn : n ≤ 9) (σ : nS) : ∃ σ' : nS, gS_begin (nI n) σ = some σ' ∧ eS σ σ' ∧ σ' 9 8 = nI n ∧ σ' 9 9 = nI 0 ∧ σ' 9 10 = nI n ∧ mX σ' n (fun _ _ => 0) (fun _ _ => 0) ∧ fX σ' n (fun _ _ => false) (fun _ _ => false) := by
  have hmin : (if (9 : Int32) < nI n then (9 : Int32) else nI n) = nI n := if_neg (nI_nlt (a := 9) (b := n) hn (by omega))
  obtain ⟨σ', q1, q2, q3⟩ := p_bg25 hn nFU 0 (nst (nst (nst σ 9 8 (nI n)) 9 9 (nI 0)) 9 10 (nI n)) (by rw [n_n (by decide), n_n (by decide), n_s]) (fun a ha => by omega) (Nat.zero_le _) (by unfold nFU; omega)
  refine ⟨σ', ?_, fun c hc => by rw [q2 c (by omega), n_o (by omega), n_o (by omega), n_o (by omega)], by rw [q2 9 (by omega), n_n (by decide), n_n (by decide), n_s], by rw [q2 9 (by omega), n_n (by decide), n_s], by rw [q2 9 (by omega), n_s], fun i j hi hj => (q3 i hi).1 j hj, fun i j hi hj => by rw [(q3 i hi).2.1, (q3 i hi).2.2, b_0]; exact ⟨rfl, rfl⟩⟩
  unfold gS_begin
  rw [hmin, n_n (show (8 : Nat) ≠ 9 by decide), n_s, z_0, q1]
/-- one pair of posts costs more -/
def up2 (g : Nat → Nat → Nat) (a b d : Nat) : Nat → Nat → Nat := fun i j => if i = a ∧ j = b then g i j + d else g i j
theorem sumN_add {g h : Nat → Nat} {i d : Nat} (n : Nat) (hi : i < n) (e : h i = g i + d) (eo : ∀ j, j ≠ i → h j = g j) : sumN h n = sumN g n + d := by
  have := sumN_upd (g := h) (h := g) (i := i) n hi eo
  omega
theorem tot_up {sp jn : Nat → Nat → Nat} {a b s d n : Nat} (ha : a < n) (hb : b < a) (f : Nat → Nat) : tot (up2 sp a b s) (up2 jn a b d) f n = tot sp jn f n + (if f b = f a then d else s) := by
  unfold tot
  refine sumN_add (i := a) n ha ?_ (fun j hj => ?_)
  · unfold tl
    refine sumN_add (i := b) a hb ?_ (fun j hj => ?_)
    · unfold up2
      simp only [and_self, if_true]
      split <;> rfl
    · unfold up2
      simp only [hj, and_false, if_false]
  · unfold tl
    refine sumN_congr j (fun u hu => ?_)
    unfold up2
    simp only [hj, false_and, if_false]
theorem p_addCost {n : Nat} (hn : n ≤ 9) {σ : nS} {sp jn : Nat → Nat → Nat} (hX : mX σ n sp jn) {x y s d : Nat} (hx : x < n) (hy : y < n) (hxy : x ≠ y) : ∃ (σ' : nS) (sp' jn' : Nat → Nat → Nat), gS_addCost (nI x) (nI y) (nI s) (nI d) σ = some σ' ∧ (∀ c, (c < 11 ∨ 30 ≤ c) → σ' c = σ c) ∧ mX σ' n sp' jn' ∧ ∀ f, tot sp' jn' f n = tot sp jn f n + (if f x = f y then d else s) := by
  have key : ∀ a b : Nat, a < n → b < a → (if nI x < nI y then nI y else nI x) = nI a → (if nI y < nI x then nI y else nI x) = nI b → (∀ f : Nat → Nat, (f b = f a ↔ f x = f y)) → ∃ (σ' : nS) (sp' jn' : Nat → Nat → Nat), gS_addCost (nI x) (nI y) (nI s) (nI d) σ = some σ' ∧ (∀ c, (c < 11 ∨ 30 ≤ c) → σ' c = σ c) ∧ mX σ' n sp' jn' ∧ ∀ f, tot sp' jn' f n = tot sp jn f n + (if f x = f y then d else s) := by
    intro a b ha hb e1 e2 e3
    have ia : inb (nI a) 9 := (z_in (by omega)).mpr (by omega)
    have ib : inb (nI b) 9 := (z_in (by omega)).mpr (by omega)
    have ca : (nI a).toNatClampNeg = a := z_cl (by omega)
    have cb : (nI b).toNatClampNeg = b := z_cl (by omega)
    obtain ⟨x1, x2⟩ := hX a b ha hb
    refine ⟨nst (nst σ (11 + a) b (nI (sp a b + s))) (21 + a) b (nI (jn a b + d)), up2 sp a b s, up2 jn a b d, ?_, fun c hc => by rw [n_o (by omega), n_o (by omega)], fun i j hi hj => ?_, fun f => ?_⟩
    · unfold gS_addCost
      simp only [e1, e2, if_pos ia, if_pos ib, ca, cb, n_o (show 21 + a ≠ 11 + a by omega), x1, x2, nI_add]
    · obtain ⟨y1, y2⟩ := hX i j hi hj
      unfold up2
      by_cases g : i = a ∧ j = b
      · obtain ⟨rfl, rfl⟩ := g
        rw [n_o (by omega), n_s, n_s]
        simp
      · rw [if_neg g, if_neg g]
        by_cases g2 : i = a
        · subst g2
          have g3 : j ≠ b := fun z => g ⟨rfl, z⟩
          rw [n_o (by omega), n_n g3, n_n g3, n_o (by omega)]
          exact ⟨y1, y2⟩
        · by_cases g4 : 11 + i = 21 + a
          · omega
          · rw [n_o g4, n_o (by omega), n_o (by omega)]
            by_cases g5 : 21 + i = 11 + a
            · omega
            · rw [n_o g5]; exact ⟨y1, y2⟩
    · rw [tot_up ha hb f]
      by_cases g : f x = f y
      · rw [if_pos ((e3 f).mpr g), if_pos g]
      · rw [if_neg (fun z => g ((e3 f).mp z)), if_neg g]
  by_cases g : x < y
  · exact key y x hy g (if_pos (nI_lt g (by omega))) (if_neg (nI_nlt (by omega) (by omega))) (fun f => Iff.rfl)
  · exact key x y hx (by omega) (if_neg (nI_nlt (by omega) (by omega))) (if_pos (nI_lt (by omega) (by omega))) (fun f => eq_comm)
theorem p_psL {t : Nt} (O : NtOK t) {σ0 : nS} (hC : RC σ0 t) : ∀ (m l : Nat) (σ : nS) (sp jn : Nat → Nat → Nat), (∀ c, (c < 9 ∨ 45 ≤ c) → σ c = σ0 c) → mX σ (tN t) sp jn → (∀ f, tot sp jn f (tN t) = sumN (lc t false f) l) → l ≤ tL t → tL t < l + m →
    ∃ (σ' : nS) (sp' jn' : Nat → Nat → Nat), (∀ K, gC_prepareSums_L16 K m (nI l) σ = K σ') ∧ (∀ c, (c < 11 ∨ 30 ≤ c) → σ' c = σ c) ∧ mX σ' (tN t) sp' jn' ∧ ∀ f, tot sp' jn' f (tN t) = tCost t false f := by
  have hL := O.2.1
  have hN := O.1
  intro m
  induction m with
  | zero => intro l σ sp jn _ _ _ h1 h2; omega
  | succ m ih =>
    intro l σ sp jn hs hX hT h1 h2
    have hCσ : RC σ t := hC.keep (fun c hc => hs c (by omega))
    by_cases e : l = tL t
    · subst e
      refine ⟨σ, sp, jn, fun K => ?_, fun _ _ => rfl, hX, hT⟩
      rw [gC_prepareSums_L16, hCσ.2.1, if_pos (nI_le (Nat.le_refl _) (by omega))]
    · have hl : l < tL t := by omega
      obtain ⟨e2, e3, e4, e5, e6⟩ := hCσ.2.2.2.2.1 l hl
      obtain ⟨ha, hb, hab, -⟩ := O.2.2.2.2.1 l hl
      have i24 : inb (nI l) 24 := (z_in (by omega)).mpr (by omega)
      have cl : (nI l).toNatClampNeg = l := z_cl (by omega)
      cases ho : tOv t l with
      | true =>
        obtain ⟨σ', sp', jn', q1, q2, q3, q4⟩ := ih (l + 1) σ sp jn hs hX (fun f => by rw [hT f, sumN]; simp [lc, ho]) (by omega) (by omega)
        refine ⟨σ', sp', jn', fun K => ?_, q2, q3, q4⟩
        rw [gC_prepareSums_L16, hCσ.2.1, if_neg (nI_ge hl (by omega)), if_pos i24, cl, e6, ho, if_neg (by decide), nI_1]
        exact q1 K
      | false =>
        obtain ⟨σ1, sp1, jn1, a1, a2, a3, a4⟩ := p_addCost hN hX (s := tC t l) (d := 0) ha hb hab
        obtain ⟨σ', sp', jn', q1, q2, q3, q4⟩ := ih (l + 1) σ1 sp1 jn1 (fun c hc => by rw [a2 c (by omega)]; exact hs c hc) a3 (fun f => by
          rw [a4 f, hT f, sumN]
          by_cases g : f (tA t l) = f (tB t l) <;> simp [lc, ho, g]) (by omega) (by omega)
        refine ⟨σ', sp', jn', fun K => ?_, fun c hc => by rw [q2 c hc, a2 c hc], q3, q4⟩
        have a1' : gS_addCost (nI (tA t l)) (nI (tB t l)) (nI (tC t l)) 0 σ = some σ1 := a1
        rw [gC_prepareSums_L16, hCσ.2.1, if_neg (nI_ge hl (by omega))]
        simp only [if_pos i24, cl, e6, ho, e2, e3, e4, a1', Option.bind_some, nI_1]
        rw [if_pos (by rfl)]
        exact q1 K
theorem p_prepareSums {t : Nt} (O : NtOK t) {σ : nS} (hC : RC σ t) : ∃ (σ' : nS) (sp jn : Nat → Nat → Nat), gC_prepareSums σ = some σ' ∧ eS σ σ' ∧ SC σ' (tN t) sp jn (fun _ _ => false) (fun _ _ => false) 0 (tN t) ∧ fX σ' (tN t) (fun _ _ => false) (fun _ _ => false) ∧ ∀ f, tot sp jn f (tN t) = tCost t false f := by
  have hN := O.1
  obtain ⟨σ1, b1, b2, b3, b4, b5, b6, b7⟩ := p_begin hN σ
  obtain ⟨σ', sp', jn', q1, q2, q3, q4⟩ := p_psL O hC nFU 0 σ1 (fun _ _ => 0) (fun _ _ => 0) (fun c hc => b2 c hc) b6 (fun f => by
    rw [show sumN (lc t false f) 0 = 0 from rfl]
    unfold tot
    have h0 : ∀ m, sumN (fun i => tl (fun _ _ => 0) (fun _ _ => 0) i (f i) f) m = 0 := by
      intro m
      induction m with
      | zero => rfl
      | succ m ih =>
        rw [sumN, ih]
        have h1 : ∀ k, sumN (fun j => if f j = f m then 0 else 0) k = 0 := by
          intro k
          induction k with
          | zero => rfl
          | succ k ih2 => rw [sumN, ih2]; simp
        exact (by simpa [tl] using h1 m)
    exact h0 _) (Nat.zero_le _) (by have := O.2.1; unfold nFU; omega)
  have hF : fX σ' (tN t) (fun _ _ => false) (fun _ _ => false) := fun i j hi hj => by rw [q2 40 (by omega), q2 41 (by omega)]; exact b7 i j hi hj
  refine ⟨σ', sp', jn', ?_, fun c hc => by rw [q2 c (by omega)]; exact b2 c hc, ⟨by rw [q2 9 (by omega)]; exact b3, by rw [q2 9 (by omega)]; exact b4, by rw [q2 9 (by omega)]; exact b5, q3, fun i j hi hj => hF i j hi (by omega)⟩, hF, q4⟩
  unfold gC_prepareSums
  rw [hC.1, b1, Option.bind_some, z_0, q1]
theorem p_rgL {t : Nt} (O : NtOK t) {σ0 : nS} (hC : RC σ0 t) : ∀ (m l : Nat) (σ : nS) (sp jn : Nat → Nat → Nat), (∀ c, (c < 9 ∨ 45 ≤ c) → σ c = σ0 c) → mX σ (tN t) sp jn → (∀ f, tot sp jn f (tN t) = sumN (lc t true f) l) → l ≤ tL t → tL t < l + m →
    ∃ (σ' : nS) (sp' jn' : Nat → Nat → Nat), (∀ K, gC_findRegret_L28 K m (nI l) σ = K σ') ∧ (∀ c, (c < 11 ∨ 30 ≤ c) → σ' c = σ c) ∧ mX σ' (tN t) sp' jn' ∧ ∀ f, tot sp' jn' f (tN t) = tCost t true f := by
  have hL := O.2.1
  have hN := O.1
  intro m
  induction m with
  | zero => intro l σ sp jn _ _ _ h1 h2; omega
  | succ m ih =>
    intro l σ sp jn hs hX hT h1 h2
    have hCσ : RC σ t := hC.keep (fun c hc => hs c (by omega))
    by_cases e : l = tL t
    · subst e
      refine ⟨σ, sp, jn, fun K => ?_, fun _ _ => rfl, hX, hT⟩
      rw [gC_findRegret_L28, hCσ.2.1, if_pos (nI_le (Nat.le_refl _) (by omega))]
    · have hl : l < tL t := by omega
      obtain ⟨e2, e3, e4, e5, e6⟩ := hCσ.2.2.2.2.1 l hl
      obtain ⟨ha, hb, hab, -⟩ := O.2.2.2.2.1 l hl
      have i24 : inb (nI l) 24 := (z_in (by omega)).mpr (by omega)
      have cl : (nI l).toNatClampNeg = l := z_cl (by omega)
      cases ho : tOv t l with
      | true =>
        obtain ⟨σ', sp', jn', q1, q2, q3, q4⟩ := ih (l + 1) σ sp jn hs hX (fun f => by rw [hT f, sumN]; simp [lc, ho]) (by omega) (by omega)
        refine ⟨σ', sp', jn', fun K => ?_, q2, q3, q4⟩
        rw [gC_findRegret_L28, hCσ.2.1, if_neg (nI_ge hl (by omega)), if_pos i24, cl, e6, ho, if_neg (by decide), nI_1]
        exact q1 K
      | false =>
        obtain ⟨σ1, sp1, jn1, a1, a2, a3, a4⟩ := p_addCost hN hX (s := if tLk t l then tC t l else 0) (d := if tLk t l then 0 else tC t l) ha hb hab
        obtain ⟨σ', sp', jn', q1, q2, q3, q4⟩ := ih (l + 1) σ1 sp1 jn1 (fun c hc => by rw [a2 c (by omega)]; exact hs c hc) a3 (fun f => by
          rw [a4 f, hT f, sumN]
          by_cases g : f (tA t l) = f (tB t l) <;> cases hk : tLk t l <;> simp [lc, ho, g, hk]) (by omega) (by omega)
        refine ⟨σ', sp', jn', fun K => ?_, fun c hc => by rw [q2 c hc, a2 c hc], q3, q4⟩
        rw [gC_findRegret_L28, hCσ.2.1, if_neg (nI_ge hl (by omega)), ← q1 K]
        simp only [if_pos i24, cl, e6, ho, e2, e3, e4, e5, nI_1]
        rw [if_pos (by rfl)]
        cases hk : tLk t l with
        | true =>
          rw [hk] at a1
          have a1' : gS_addCost (nI (tA t l)) (nI (tB t l)) (nI (tC t l)) 0 σ = some σ1 := a1
          rw [if_neg (by decide), if_neg (by decide), a1', Option.bind_some]
        | false =>
          rw [hk] at a1
          have a1' : gS_addCost (nI (tA t l)) (nI (tB t l)) 0 (nI (tC t l)) σ = some σ1 := a1
          rw [if_pos (by rfl), if_pos (by rfl), a1', Option.bind_some]
/-! foes and friends -/
theorem p_apartFrom {n : Nat} (hn : n ≤ 9) {σ : nS} {fo fr : Nat → Nat → Bool} (hF : fX σ n fo fr) {p : Nat} (hp : p < n) (x : Int32) : gS_keepApartFrom (nI p) x σ = some (nst σ 40 p ((σ 40 p) ||| x)) ∧ fX (nst σ 40 p ((σ 40 p) ||| x)) n (fun i j => fo i j || (decide (i = p) && bt x j)) fr := by
  have ip : inb (nI p) 9 := (z_in (by omega)).mpr (by omega)
  refine ⟨?_, fun i j hi hj => ?_⟩
  · unfold gS_keepApartFrom
    rw [if_pos ip, if_pos ip, z_cl (by omega)]
  · obtain ⟨h1, h2⟩ := hF i j hi hj
    rw [n_o (show (41 : Nat) ≠ 40 by decide)]
    refine ⟨?_, h2⟩
    by_cases g : i = p
    · subst g; rw [n_s, b_or, h1]; simp
    · rw [n_n g, h1]; simp [g]
theorem p_keepApart {n : Nat} (hn : n ≤ 9) {σ : nS} {fo fr : Nat → Nat → Bool} (hF : fX σ n fo fr) {a b : Nat} (ha : a < n) (hb : b < n) : ∃ σ' : nS, gS_keepApart (nI a) (nI b) σ = some σ' ∧ (∀ c, c ≠ 40 → σ' c = σ c) ∧ fX σ' n (fun i j => fo i j || (decide (i = a) && decide (j = b)) || (decide (i = b) && decide (j = a))) fr := by
  obtain ⟨h1, h2⟩ := p_apartFrom hn hF ha (tbit b)
  obtain ⟨h3, h4⟩ := p_apartFrom hn h2 hb (tbit a)
  refine ⟨nst (nst σ 40 a ((σ 40 a) ||| tbit b)) 40 b (((nst σ 40 a ((σ 40 a) ||| tbit b)) 40 b) ||| tbit a), ?_, fun c hc => by rw [n_o hc, n_o hc], fun i j hi hj => ?_⟩
  · unfold gS_keepApart
    rw [show ((1 : Int32) <<< (nI b &&& 31)) = tbit b from rfl, show ((1 : Int32) <<< (nI a &&& 31)) = tbit a from rfl, h1, Option.bind_some, h3]
    rfl
  · have := h4 i j hi hj
    dsimp only at this
    rw [tbit_b (by omega), tbit_b (by omega)] at this
    exact this
theorem p_keepTogether {n : Nat} (hn : n ≤ 9) {σ : nS} {fo fr : Nat → Nat → Bool} (hF : fX σ n fo fr) {a b : Nat} (ha : a < n) (hb : b < n) (hab : a ≠ b) : ∃ σ' : nS, gS_keepTogether (nI a) (nI b) σ = some σ' ∧ (∀ c, c ≠ 41 → σ' c = σ c) ∧ fX σ' n fo (fun i j => fr i j || (decide (i = a) && decide (j = b)) || (decide (i = b) && decide (j = a))) := by
  have ia : inb (nI a) 9 := (z_in (by omega)).mpr (by omega)
  have ib : inb (nI b) 9 := (z_in (by omega)).mpr (by omega)
  refine ⟨nst (nst σ 41 a ((σ 41 a) ||| tbit b)) 41 b ((σ 41 b) ||| tbit a), ?_, fun c hc => by rw [n_o hc, n_o hc], fun i j hi hj => ?_⟩
  · unfold gS_keepTogether
    simp only [if_pos ia, if_pos ib, z_cl (show a < 2 ^ 31 by omega), z_cl (show b < 2 ^ 31 by omega), n_n hab.symm]
    rfl
  · obtain ⟨h1, h2⟩ := hF i j hi hj
    rw [n_o (show (40 : Nat) ≠ 41 by decide), n_o (show (40 : Nat) ≠ 41 by decide)]
    refine ⟨h1, ?_⟩
    by_cases g1 : i = b
    · subst g1; rw [n_s, b_or, h2, tbit_b (by omega)]; simp [hab.symm]
    · rw [n_n g1]
      by_cases g2 : i = a
      · subst g2; rw [n_s, b_or, h2, tbit_b (by omega)]; simp [hab]
      · rw [n_n g2, h2]; simp [g1, g2]
theorem p_run0 {n : Nat} (hn : n ≤ 9) : ∀ (m i : Nat) (σ : nS), σ 9 8 = nI n → i ≤ n → n < i + m → ∃ σ' : nS, (∀ K, gS_run_L8 K m (nI i) σ = K σ') ∧ (∀ c, c ≠ 42 → σ' c = σ c) ∧ (∀ u, u < i → σ' 42 u = σ 42 u) ∧ ∀ u, i ≤ u → u < n → σ' 42 u = 0 := by
  intro m
  induction m with
  | zero => intro i σ _ h1 h2; omega
  | succ m ih =>
    intro i σ h8 h1 h2
    by_cases e : i = n
    · subst e
      refine ⟨σ, fun K => ?_, fun _ _ => rfl, fun _ _ => rfl, fun u a b => by omega⟩
      rw [gS_run_L8, h8, if_pos (nI_le (Nat.le_refl _) (by omega))]
    · obtain ⟨σ', q1, q2, q3, q4⟩ := ih (i + 1) (nst σ 42 i 0) (by rw [n_o (by decide)]; exact h8) (by omega) (by omega)
      refine ⟨σ', fun K => ?_, fun c hc => by rw [q2 c hc, n_o hc], fun u hu => by rw [q3 u (by omega), n_n (by omega)], fun u a b => ?_⟩
      · rw [gS_run_L8, h8, if_neg (nI_ge (by omega) (by omega)), if_pos ((z_in (by omega)).mpr (by omega)), nI_1, z_cl (by omega)]
        exact q1 K
      · by_cases f : u = i
        · rw [q3 u (by omega), f, n_s]
        · exact q4 u (by omega) b
theorem p_run {n : Nat} (hn : n ≤ 9) {σ : nS} {sp jn : Nat → Nat → Nat} {fo fr : Nat → Nat → Bool} {lo hi : Nat} (hlo : lo ≤ 9) (hhi : hi ≤ 9) (hB : ∀ f, tot sp jn f n < 2 ^ 31) (hS : SC σ n sp jn fo fr lo hi) : ∃ σ' : nS, gS_run σ = some σ' ∧ eS σ σ' ∧ CAr n σ' ((rgL n 0 0 (fun _ => 0)).foldl (fun A x => leafC n (w_C n fo fr lo hi, fun f => tot sp jn f n) x A) (1000000, σ 44)) := by
  obtain ⟨σ1, q1, q2, q3, q4⟩ := p_run0 hn nFU 0 (nst σ 9 11 1000000) (by rw [n_n (by decide)]; exact hS.1) (Nat.zero_le _) (by unfold nFU; omega)
  have f1 : fS σ σ1 := ⟨fun c hc => by rw [q2 c (by omega), n_o (by omega)], fun i hi => by rw [q2 9 (by decide), n_n hi]⟩
  obtain ⟨σ2, r1, r2, r3, r4, r5, r6⟩ := p_place hn hlo hhi hB n 11 0 0 (fun _ => 0) σ1 (1000000, σ 44) (by omega) (by omega) (Nat.le_refl _) (Nat.zero_le _) (fun j hj => by omega) (fun i hi => by omega) (hS.keep hn f1) (fun j hj => by omega) (fun q hq j hj => by
    rw [q4 q (by omega) hq, b_0]
    constructor
    · intro h; cases h
    · rintro ⟨h, -⟩; omega) (show 1000000 < 2 ^ 31 by decide) ⟨by rw [q2 9 (by decide), n_s]; rfl, fun j hj => by rw [q2 44 (by decide), n_o (by decide)]⟩
  refine ⟨σ2, ?_, (f1.tr r2).eS, r6⟩
  have r1' : gS_place 11 (nI 0) (nI 0) (nI 0) σ1 = some σ2 := r1
  unfold gS_run
  rw [z_0, q1, r1']
  rfl
