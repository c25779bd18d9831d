theorem sumN_upd {g h : Nat → Nat} {i : Nat} : ∀ n, i < n → (∀ j, j ≠ i → g j = h j) → sumN g n + h i = sumN h n + g i := by
  intro n
  induction n with
  | zero => intro h; omega
  | succ n ih =>
    intro hi e
    rw [sumN, sumN]
    by_cases f : i = n
    · subst f
      rw [sumN_congr i (fun j hj => e j (by omega))]
      omega
    · have := ih (by omega) e
      rw [e n (by omega)]
      omega
theorem sumN_mono {g : Nat → Nat} {a b : Nat} (h : a ≤ b) : sumN g a ≤ sumN g b := by
  induction b with
  | zero => rw [show a = 0 by omega]; exact Nat.le_refl _
  | succ b ih =>
    by_cases e : a = b + 1
    · rw [e]; exact Nat.le_refl _
    · rw [sumN]; have := ih (by omega); omega
theorem sumN_ge {g : Nat → Nat} {i : Nat} : ∀ n, i < n → g i ≤ sumN g n := by
  intro n
  induction n with
  | zero => intro h; omega
  | succ n ih =>
    intro h
    rw [sumN]
    by_cases e : i = n
    · rw [e]; omega
    · have := ih (by omega); omega
/-- what it costs to lay post p into part q -/
def tl (sp jn : Nat → Nat → Nat) (p q : Nat) (f : Nat → Nat) : Nat := sumN (fun j => if f j = q then jn p j else sp p j) p
def tot (sp jn : Nat → Nat → Nat) (f : Nat → Nat) (n : Nat) : Nat := sumN (fun i => tl sp jn i (f i) f) n
theorem tl_congr {sp jn : Nat → Nat → Nat} {p q : Nat} {f g : Nat → Nat} (h : ∀ j, j < p → f j = g j) : tl sp jn p q f = tl sp jn p q g := by
  unfold tl
  exact sumN_congr p (fun j hj => by rw [h j hj])
theorem tot_congr {sp jn : Nat → Nat → Nat} {p : Nat} {f g : Nat → Nat} (h : ∀ j, j < p → f j = g j) : tot sp jn f p = tot sp jn g p := by
  unfold tot
  exact sumN_congr p (fun j hj => by rw [h j hj]; exact tl_congr (fun i hi => h i (by omega)))
theorem tot_fu {sp jn : Nat → Nat → Nat} {p q : Nat} {f : Nat → Nat} : tot sp jn (fu f p q) (p + 1) = tot sp jn f p + tl sp jn p q f := by
  have h1 : tot sp jn (fu f p q) (p + 1) = tot sp jn (fu f p q) p + tl sp jn p (fu f p q p) (fu f p q) := rfl
  rw [h1, fu_s, tot_congr (g := f) (fun j hj => fu_n (by omega)), tl_congr (g := f) (fun j hj => fu_n (by omega))]
/-- what the search is asked: posts, costs apart and together, foes, friends, fewest and most parts -/
def SC (σ : nS) (n : Nat) (sp jn : Nat → Nat → Nat) (fo fr : Nat → Nat → Bool) (lo hi : Nat) : Prop := σ 9 8 = nI n ∧ σ 9 9 = nI lo ∧ σ 9 10 = nI hi ∧ (∀ i j, i < n → j < i → σ (11 + i) j = nI (sp i j) ∧ σ (21 + i) j = nI (jn i j)) ∧ (∀ i j, i < n → j < i → bt (σ 40 i) j = fo i j ∧ bt (σ 41 i) j = fr i j)
/-- what the search itself leaves alone -/
def fS (σ σ' : nS) : Prop := (∀ c, ((c ≠ 9 ∧ c < 31) ∨ c = 40 ∨ c = 41 ∨ 45 ≤ c) → σ' c = σ c) ∧ ∀ i, i ≠ 11 → σ' 9 i = σ 9 i
theorem fS.rf (σ : nS) : fS σ σ := ⟨fun _ _ => rfl, fun _ _ => rfl⟩
theorem fS.tr {a b c : nS} (h : fS a b) (g : fS b c) : fS a c := ⟨fun k hk => (g.1 k hk).trans (h.1 k hk), fun i hi => (g.2 i hi).trans (h.2 i hi)⟩
theorem fS.st {σ : nS} {c i : Nat} {v : Int32} (h : (31 ≤ c ∧ c < 40) ∨ (42 ≤ c ∧ c < 45) ∨ (c = 9 ∧ i = 11)) : fS σ (nst σ c i v) := by
  refine ⟨fun d hd => n_o (by omega), fun j hj => ?_⟩
  rcases h with h | h | ⟨rfl, rfl⟩
  · rw [n_o (by omega)]
  · rw [n_o (by omega)]
  · rw [n_n hj]
theorem SC.keep {σ σ' : nS} {n : Nat} {sp jn : Nat → Nat → Nat} {fo fr : Nat → Nat → Bool} {lo hi : Nat} (hn : n ≤ 9) (h : SC σ n sp jn fo fr lo hi) (e : fS σ σ') : SC σ' n sp jn fo fr lo hi := by
  obtain ⟨a, b, c, d, g⟩ := h
  refine ⟨by rw [e.2 8 (by decide)]; exact a, by rw [e.2 9 (by decide)]; exact b, by rw [e.2 10 (by decide)]; exact c, fun i j hi hj => ?_, fun i j hi hj => ?_⟩
  · rw [e.1 (11 + i) (by omega), e.1 (21 + i) (by omega)]; exact d i j hi hj
  · rw [e.1 40 (by omega), e.1 41 (by omega)]; exact g i j hi hj
/-! weigh -/
theorem p_wg5 {σ : nS} {n : Nat} {sp jn : Nat → Nat → Nat} {fo fr : Nat → Nat → Bool} {lo hi : Nat} (hn : n ≤ 9) (hS : SC σ n sp jn fo fr lo hi) {p : Nat} (hp : p < n) (k : Int32) (K : Int32 → Option nS) : ∀ (m j : Nat), j ≤ p → p < j + m → gS_weigh_L5 (nI p) k σ K m (nI (sumN (sp p) j)) (nI j) = K (nI (sumN (sp p) p)) := by
  intro m
  induction m with
  | zero => intro j h1 h2; omega
  | succ m ih =>
    intro j h1 h2
    by_cases e : j = p
    · subst e
      rw [gS_weigh_L5, if_pos (nI_le (Nat.le_refl _) (by omega))]
    · rw [gS_weigh_L5, if_neg (nI_ge (by omega) (by omega)), if_pos ((z_in (by omega)).mpr (by omega)), if_pos ((z_in (by omega)).mpr (by omega)), z_cl (by omega), z_cl (by omega), (hS.2.2.2.1 p j hp (by omega)).1, nI_add, nI_1, ← ih (j + 1) (by omega) (by omega), sumN]
theorem p_wg32 {p k : Nat} (hp : p < 9) (hk : k < 9) (a : Int32) : ∀ (m q : Nat) (σ : nS), q ≤ k + 1 → k + 1 < q + m → ∃ σ' : nS, (∀ K, gS_weigh_L32 (nI p) (nI k) a K m (nI q) σ = K σ') ∧ (∀ c, c ≠ 31 + p → σ' c = σ c) ∧ (∀ u, u < q → σ' (31 + p) u = σ (31 + p) u) ∧ ∀ u, q ≤ u → u ≤ k → σ' (31 + p) u = a := by
  intro m
  induction m with
  | zero => intro q σ h1 h2; omega
  | succ m ih =>
    intro q σ h1 h2
    by_cases e : q = k + 1
    · subst e
      refine ⟨σ, fun K => ?_, fun _ _ => rfl, fun _ _ => rfl, fun u a b => by omega⟩
      rw [gS_weigh_L32, if_pos (nI_lt (by omega) (by omega))]
    · obtain ⟨σ', q1, q2, q3, q4⟩ := ih (q + 1) (nst σ (31 + p) q a) (by omega) (by omega)
      refine ⟨σ', fun K => ?_, fun c hc => by rw [q2 c hc, n_o hc], fun u hu => by rw [q3 u (by omega), n_n (by omega)], fun u x y => ?_⟩
      · rw [gS_weigh_L32, if_neg (nI_nlt (by omega) (by omega)), z9, if_neg (nI_ge (by omega) (by omega)), if_pos ((z_in (by omega)).mpr (by omega)), if_pos ((z_in (by omega)).mpr (by omega)), z_cl (by omega), z_cl (by omega), nI_1]
        exact q1 K
      · by_cases f : u = q
        · rw [q3 u (by omega), f, n_s]
        · exact q4 u (by omega) y
theorem z_asc (x s j : Nat) : nI (x + s) + (nI j - nI s) = nI (x + j) := by
  rw [← nI_add, ← nI_add, Int32.sub_eq_add_neg, Int32.add_assoc, Int32.add_comm (nI j), ← Int32.add_assoc (nI s), Int32.add_right_neg, Int32.zero_add]
theorem p_wg64 {n : Nat} {sp jn : Nat → Nat → Nat} {fo fr : Nat → Nat → Bool} {lo hi : Nat} (hn : n ≤ 9) {p k : Nat} (hp : p < n) (hk : k < 9) {f : Nat → Nat} (hf : ∀ j, j < p → f j < k) : ∀ (m j : Nat) (σ : nS), SC σ n sp jn fo fr lo hi → (∀ u, u < p → σ 43 u = nI (f u)) → (∀ q, q ≤ k → σ (31 + p) q = nI (sumN (fun u => if u < j ∧ f u = q then jn p u else sp p u) p)) → j ≤ p → p < j + m → ∃ σ' : nS, (∀ K, gS_weigh_L64 (nI p) K m (nI j) σ = K σ') ∧ (∀ c, c ≠ 31 + p → σ' c = σ c) ∧ ∀ q, q ≤ k → σ' (31 + p) q = nI (tl sp jn p q f) := by
  intro m
  induction m with
  | zero => intro j σ _ _ _ h1 h2; omega
  | succ m ih =>
    intro j σ hS h43 hr h1 h2
    by_cases e : j = p
    · subst e
      refine ⟨σ, fun K => ?_, fun _ _ => rfl, fun q hq => ?_⟩
      · rw [gS_weigh_L64, if_pos (nI_le (Nat.le_refl _) (by omega))]
      · rw [hr q hq]
        unfold tl
        rw [sumN_congr j (fun u hu => ?_)]
        by_cases g : f u = q
        · rw [if_pos ⟨hu, g⟩, if_pos g]
        · rw [if_neg (fun x => g x.2), if_neg g]
    · have hj : j < p := by omega
      have ip : inb (nI p) 9 := (z_in (by omega)).mpr (by omega)
      have ij : inb (nI j) 9 := (z_in (by omega)).mpr (by omega)
      have cp : (nI p).toNatClampNeg = p := z_cl (by omega)
      have cj : (nI j).toNatClampNeg = j := z_cl (by omega)
      have fk := hf j hj
      have i_f : inb (nI (f j)) 9 := (z_in (by omega)).mpr (by omega)
      have cf : (nI (f j)).toNatClampNeg = f j := z_cl (by omega)
      obtain ⟨s1, s2⟩ := hS.2.2.2.1 p j hp hj
      have hval : σ (31 + p) (f j) + (nI (jn p j) - nI (sp p j)) = nI (sumN (fun u => if u < j + 1 ∧ f u = f j then jn p u else sp p u) p) := by
        rw [hr (f j) (by omega)]
        have hu := sumN_upd (g := fun u => if u < j ∧ f u = f j then jn p u else sp p u) (h := fun u => if u < j + 1 ∧ f u = f j then jn p u else sp p u) (i := j) p hj (fun u hu => by
          by_cases g : f u = f j
          · by_cases g2 : u < j
            · simp [g, g2, show u < j + 1 by omega]
            · simp [g2, show ¬ u < j + 1 by omega]
          · simp [g])
        simp only [Nat.lt_irrefl, false_and, if_false, Nat.lt_succ_self, true_and, if_true] at hu
        have hge := sumN_ge (g := fun u => if u < j ∧ f u = f j then jn p u else sp p u) (i := j) p hj
        simp only [Nat.lt_irrefl, false_and, if_false] at hge
        obtain ⟨x, hx⟩ : ∃ x, sumN (fun u => if u < j ∧ f u = f j then jn p u else sp p u) p = x + sp p j := ⟨_, (Nat.sub_add_cancel hge).symm⟩
        rw [hx, z_asc]
        congr 1
        omega
      obtain ⟨σ', q1, q2, q3⟩ := ih (j + 1) (nst σ (31 + p) (f j) (σ (31 + p) (f j) + (nI (jn p j) - nI (sp p j)))) (hS.keep hn (fS.st (by omega))) (fun u hu => by rw [n_o (by omega)]; exact h43 u hu) (fun q hq => by
        by_cases g : q = f j
        · rw [g, n_s]; exact hval
        · rw [n_n g, hr q hq]
          congr 1
          apply sumN_congr
          intro u hu
          by_cases g2 : u = j
          · subst g2; simp [Ne.symm g]
          · by_cases g3 : u < j
            · simp [g3, show u < j + 1 by omega]
            · simp [g3, show ¬ u < j + 1 by omega]) (by omega) (by omega)
      refine ⟨σ', fun K => ?_, fun c hc => by rw [q2 c hc, n_o hc], q3⟩
      rw [gS_weigh_L64, if_neg (nI_ge hj (by omega))]
      simp only [if_pos ip, if_pos ij, cp, cj, h43 j hj, if_pos i_f, cf, s1, s2, nI_1]
      exact q1 K
theorem p_weigh {σ : nS} {n : Nat} {sp jn : Nat → Nat → Nat} {fo fr : Nat → Nat → Bool} {lo hi : Nat} (hn : n ≤ 9) (hS : SC σ n sp jn fo fr lo hi) {p k : Nat} (hp : p < n) (hk : k ≤ p) {f : Nat → Nat} (hf : ∀ j, j < p → f j < k) (h43 : ∀ u, u < p → σ 43 u = nI (f u)) : ∃ σ' : nS, gS_weigh (nI p) (nI k) σ = some σ' ∧ (∀ c, c ≠ 31 + p → σ' c = σ c) ∧ ∀ q, q ≤ k → σ' (31 + p) q = nI (tl sp jn p q f) := by
  obtain ⟨σ1, q1, q2, q3, q4⟩ := p_wg32 (p := p) (k := k) (by omega) (by omega) (nI (sumN (sp p) p)) nFU 0 σ (Nat.zero_le _) (by unfold nFU; omega)
  have hf1 : fS σ σ1 := ⟨fun c hc => q2 c (by omega), fun i _ => by rw [q2 9 (by omega)]⟩
  obtain ⟨σ2, r1, r2, r3⟩ := p_wg64 hn hp (k := k) (by omega) hf nFU 0 σ1 (hS.keep hn hf1) (fun u hu => by rw [q2 43 (by omega)]; exact h43 u hu) (fun q hq => by
    rw [q4 q (by omega) hq]
    exact congrArg nI (sumN_congr p (fun u hu => by simp))) (Nat.zero_le _) (by unfold nFU; omega)
  refine ⟨σ2, ?_, fun c hc => by rw [r2 c hc, q2 c hc], r3⟩
  have h5 := p_wg5 hn hS hp (nI k) (fun w3_5 => (gS_weigh_L32 (nI p) (nI k) w3_5 (fun σe_32 => (gS_weigh_J61 (nI p) σe_32)) nFU (nI 0) σ)) nFU 0 (Nat.zero_le _) (by unfold nFU; omega)
  unfold gS_weigh
  rw [z_0]
  have h5' : gS_weigh_L5 (nI p) (nI k) σ (fun w3_5 => (gS_weigh_L32 (nI p) (nI k) w3_5 (fun σe_32 => (gS_weigh_J61 (nI p) σe_32)) nFU (nI 0) σ)) nFU (nI 0) (nI 0) = _ := h5
  rw [h5', q1]
  unfold gS_weigh_J61
  rw [z_0, r1]
/-! allows -/
theorem e_mask : ∀ p, p < 10 → ∀ j, j < 32 → bt (((1 : Int32) <<< (nI p &&& 31)) - (1 : Int32)) j = decide (j < p) := by decide +kernel
/-- the parts' members, for the posts before p -/
def mB (n : Nat) (σ : nS) (p : Nat) (f : Nat → Nat) : Prop := ∀ q, q < n → ∀ j, j < 32 → (bt (σ 42 q) j = true ↔ (j < p ∧ f j = q))
theorem p_allows {σ : nS} {n : Nat} {sp jn : Nat → Nat → Nat} {fo fr : Nat → Nat → Bool} {lo hi : Nat} (hn : n ≤ 9) (hS : SC σ n sp jn fo fr lo hi) {p q : Nat} (hp : p < n) (hq : q < n) {f : Nat → Nat} (hm : mB n σ p f) : ∃ b : Bool, gS_allows (nI p) (nI q) σ = some (zb b) ∧ (b = true ↔ ∀ j, j < p → (fo p j = true → ¬ q = f j) ∧ (fr p j = true → q = f j)) := by
  have ip : inb (nI p) 9 := (z_in (by omega)).mpr (by omega)
  have iq : inb (nI q) 9 := (z_in (by omega)).mpr (by omega)
  have cp : (nI p).toNatClampNeg = p := z_cl (by omega)
  have cq : (nI q).toNatClampNeg = q := z_cl (by omega)
  have h1 : ((σ 40 p) &&& (σ 42 q)) = 0 ↔ ∀ j, j < p → (fo p j = true → ¬ q = f j) := by
    rw [h_z]
    constructor
    · intro h j hj hfo hqf
      have := h j (by omega)
      rw [b_and, (hS.2.2.2.2 p j hp hj).1, hfo, (hm q hq j (by omega)).mpr ⟨hj, hqf.symm⟩] at this
      cases this
    · intro h j hj
      rw [b_and]
      cases e : bt (σ 42 q) j with
      | false => simp
      | true =>
        obtain ⟨g1, g2⟩ := (hm q hq j hj).mp e
        cases e2 : bt (σ 40 p) j with
        | false => rfl
        | true =>
          rw [(hS.2.2.2.2 p j hp g1).1] at e2
          exact absurd g2.symm (h j g1 e2)
  have h2 : (((σ 41 p) &&& (((1 : Int32) <<< (nI p &&& 31)) - (1 : Int32))) &&& ((σ 42 q) ^^^ (-1 : Int32))) = 0 ↔ ∀ j, j < p → (fr p j = true → q = f j) := by
    rw [h_z]
    constructor
    · intro h j hj hfr
      have := h j (by omega)
      rw [b_and, b_and, (hS.2.2.2.2 p j hp hj).2, hfr, e_mask p (by omega) j (by omega), h_not _ (by omega)] at this
      simp [hj] at this
      exact ((hm q hq j (by omega)).mp this).2.symm
    · intro h j hj
      rw [b_and, b_and, e_mask p (by omega) j hj, h_not _ hj]
      by_cases hjp : j < p
      · cases e2 : bt (σ 41 p) j with
        | false => simp
        | true =>
          rw [(hS.2.2.2.2 p j hp hjp).2] at e2
          rw [(hm q hq j hj).mpr ⟨hjp, (h j hjp e2).symm⟩]
          simp
      · simp [hjp]
  unfold gS_allows
  simp only [if_pos ip, if_pos iq, cp, cq]
  by_cases g1 : ((σ 40 p) &&& (σ 42 q)) = 0
  · rw [if_pos g1]
    by_cases g2 : (((σ 41 p) &&& (((1 : Int32) <<< (nI p &&& 31)) - (1 : Int32))) &&& ((σ 42 q) ^^^ (-1 : Int32))) = 0
    · exact ⟨true, by rw [if_pos g2]; rfl, ⟨fun _ j hj => ⟨h1.mp g1 j hj, h2.mp g2 j hj⟩, fun _ => rfl⟩⟩
    · exact ⟨false, by rw [if_neg g2]; rfl, ⟨fun h => (by cases h), fun h => absurd (h2.mpr (fun j hj => (h j hj).2)) g2⟩⟩
  · exact ⟨false, by rw [if_neg g1]; rfl, ⟨fun h => (by cases h), fun h => absurd (h1.mpr (fun j hj => (h j hj).1)) g1⟩⟩
/-! keepBest -/
theorem p_kb {n : Nat} (hn : n ≤ 9) : ∀ (m i : Nat) (σ : nS), σ 9 8 = nI n → i ≤ n → n < i + m → ∃ σ' : nS, (∀ K, gS_keepBest_L7 K m (nI i) σ = K σ') ∧ (∀ c, c ≠ 44 → σ' c = σ c) ∧ (∀ u, u < i → σ' 44 u = σ 44 u) ∧ ∀ u, i ≤ u → u < n → σ' 44 u = σ 43 u := by
  intro m
  induction m with
  | zero => intro i σ _ h1 h2; omega
  | succ m ih =>
    intro i σ h8 h1 h2
    by_cases e : i = n
    · subst e
      refine ⟨σ, fun K => ?_, fun _ _ => rfl, fun _ _ => rfl, fun u a b => by omega⟩
      rw [gS_keepBest_L7, h8, if_pos (nI_le (Nat.le_refl _) (by omega))]
    · obtain ⟨σ', q1, q2, q3, q4⟩ := ih (i + 1) (nst σ 44 i (σ 43 i)) (by rw [n_o (by decide)]; exact h8) (by omega) (by omega)
      have i9 : inb (nI i) 9 := (z_in (by omega)).mpr (by omega)
      refine ⟨σ', fun K => ?_, fun c hc => by rw [q2 c hc, n_o hc], fun u hu => by rw [q3 u (by omega), n_n (by omega)], fun u a b => ?_⟩
      · rw [gS_keepBest_L7, h8, if_neg (nI_ge (by omega) (by omega)), if_pos i9, if_pos i9, nI_1, z_cl (by omega)]
        exact q1 K
      · by_cases f : u = i
        · rw [q3 u (by omega), f, n_s]
        · rw [q4 u (by omega) b, n_o (by decide)]
theorem p_keepBest {n : Nat} (hn : n ≤ 9) {σ : nS} (h8 : σ 9 8 = nI n) (v : Int32) : ∃ σ' : nS, gS_keepBest v σ = some σ' ∧ (∀ c, c ≠ 9 → c ≠ 44 → σ' c = σ c) ∧ (∀ i, i ≠ 11 → σ' 9 i = σ 9 i) ∧ σ' 9 11 = v ∧ ∀ u, u < n → σ' 44 u = σ 43 u := by
  obtain ⟨σ', q1, q2, q3, q4⟩ := p_kb hn nFU 0 (nst σ 9 11 v) (by rw [n_n (by decide)]; exact h8) (Nat.zero_le _) (by unfold nFU; omega)
  refine ⟨σ', ?_, fun c a b => by rw [q2 c b, n_o a], fun i hi => by rw [q2 9 (by decide), n_n hi], by rw [q2 9 (by decide), n_s], fun u hu => by rw [q4 u (by omega) hu, n_o (by decide)]⟩
  unfold gS_keepBest
  rw [z_0, q1]
