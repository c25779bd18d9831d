/-! partings in two parts, by codes -/
def bn : Nat → Nat → (Nat → Nat) → Nat → (Nat → Nat)
  | 0, _, f, _ => f
  | r + 1, p, f, c => bn r (p + 1) (fu f p (c / 2 ^ r % 2)) c
theorem bn_add (m : Nat) : ∀ (r p : Nat) (f : Nat → Nat) (c : Nat), bn r p f (c + 2 ^ r * m) = bn r p f c := by
  have h : ∀ (r s p : Nat) (f : Nat → Nat) (c : Nat), r ≤ s → bn r p f (c + 2 ^ s * m) = bn r p f c := by
    intro r
    induction r with
    | zero => intro s p f c _; rfl
    | succ r ih =>
      intro s p f c hs
      have e : (c + 2 ^ s * m) / 2 ^ r % 2 = c / 2 ^ r % 2 := by
        obtain ⟨d, rfl⟩ : ∃ d, s = r + 1 + d := ⟨s - (r + 1), by omega⟩
        have e2 : 2 ^ (r + 1 + d) * m = 2 ^ r * (2 * (2 ^ d * m)) := by
          rw [Nat.pow_add, Nat.pow_succ, Nat.mul_assoc, Nat.mul_assoc]
        rw [e2, Nat.add_mul_div_left _ _ (Nat.two_pow_pos r), Nat.add_mul_mod_self_left]
      rw [bn, bn, e]
      exact ih s (p + 1) _ c (by omega)
  intro r p f c
  exact h r r p f c (Nat.le_refl _)
theorem bn_lo : ∀ (r p : Nat) (f : Nat → Nat) (c j : Nat), j < p → bn r p f c j = f j := by
  intro r
  induction r with
  | zero => intro p f c j _; rfl
  | succ r ih => intro p f c j hj; rw [bn, ih (p + 1) _ c j (by omega), fu_n (by omega)]
theorem bn_at : ∀ (r p : Nat) (f : Nat → Nat) (c j : Nat), p ≤ j → j < p + r → bn r p f c j = c / 2 ^ (p + r - 1 - j) % 2 := by
  intro r
  induction r with
  | zero => intro p f c j h1 h2; omega
  | succ r ih =>
    intro p f c j h1 h2
    rw [bn]
    by_cases e : j = p
    · subst e
      rw [bn_lo _ _ _ _ _ (by omega), fu_s, show j + (r + 1) - 1 - j = r by omega]
    · rw [ih (p + 1) _ c j (by omega) (by omega), show p + 1 + r - 1 - j = p + (r + 1) - 1 - j by omega]
def f2 (x : (Nat → Nat) × Nat) : Bool := decide (x.2 = 2)
theorem fil3 {r p k : Nat} {f : Nat → Nat} (hk : 3 ≤ k) : (rgL r p k f).filter f2 = [] := by
  rw [List.filter_eq_nil_iff]
  intro x hx
  have := (rgL_mem _ _ _ _ _ hx).2.1
  simp [f2]
  omega
theorem shift_range (g : Nat → ((Nat → Nat) × Nat)) (a n : Nat) : (List.range' a n).map g = (List.range' 0 n).map (fun i => g (a + i)) := by
  rw [List.range'_eq_map_range, List.range'_eq_map_range, List.map_map, List.map_map]
  apply List.map_congr_left
  intro i _
  simp
theorem fil2 : ∀ (r p : Nat) (f : Nat → Nat), (rgL r p 2 f).filter f2 = (List.range' 0 (2 ^ r)).map (fun c => (bn r p f c, 2)) := by
  intro r
  induction r with
  | zero => intro p f; rfl
  | succ r ih =>
    intro p f
    have e0 : rgL (r + 1) p 2 f = rgL r (p + 1) 2 (fu f p 0) ++ (rgL r (p + 1) 2 (fu f p 1) ++ rgL r (p + 1) 3 (fu f p 2)) := by
      rw [rgQ_0, rgQ_s (by omega), rgQ_s (by omega), rgQ_s (by omega), rgQ_e]
      simp
    rw [e0, List.filter_append, List.filter_append, fil3 (r := r) (p := p + 1) (k := 3) (f := fu f p 2) (by omega), List.append_nil, ih, ih, Nat.pow_succ, Nat.mul_two, ← List.range'_append_1, List.map_append, shift_range _ (0 + 2 ^ r)]
    congr 1
    · apply List.map_congr_left
      intro c hc
      rw [List.mem_range'_1] at hc
      show (bn r (p + 1) (fu f p 0) c, 2) = (bn r (p + 1) (fu f p (c / 2 ^ r % 2)) c, 2)
      rw [Nat.div_eq_of_lt (by omega)]
    · apply List.map_congr_left
      intro c hc
      rw [List.mem_range'_1] at hc
      show (bn r (p + 1) (fu f p 1) c, 2) = (bn r (p + 1) (fu f p ((0 + 2 ^ r + c) / 2 ^ r % 2)) (0 + 2 ^ r + c), 2)
      have e1 : (0 + 2 ^ r + c) / 2 ^ r % 2 = 1 := by
        rw [Nat.zero_add, Nat.add_div_left _ (Nat.two_pow_pos r), Nat.div_eq_of_lt (by omega)]
      have e2 : 0 + 2 ^ r + c = c + 2 ^ r * 1 := by omega
      rw [e1, e2, bn_add]
theorem fil1 : ∀ (r p : Nat) (f : Nat → Nat), (rgL r p 1 f).filter f2 = (List.range' 1 (2 ^ r - 1)).map (fun c => (bn r p f c, 2)) := by
  intro r
  induction r with
  | zero => intro p f; rfl
  | succ r ih =>
    intro p f
    have hp := Nat.two_pow_pos r
    have e0 : rgL (r + 1) p 1 f = rgL r (p + 1) 1 (fu f p 0) ++ rgL r (p + 1) 2 (fu f p 1) := by
      rw [rgQ_0, rgQ_s (by omega), rgQ_s (by omega), rgQ_e]
      simp
    have e1 : List.range' 1 (2 ^ (r + 1) - 1) = List.range' 1 (2 ^ r - 1) ++ List.range' (1 + (2 ^ r - 1)) (2 ^ r) := by
      rw [List.range'_append_1]
      congr 1
      rw [Nat.pow_succ]
      omega
    rw [e0, List.filter_append, ih, fil2, e1, List.map_append, shift_range _ (1 + (2 ^ r - 1))]
    congr 1
    · apply List.map_congr_left
      intro c hc
      rw [List.mem_range'_1] at hc
      show (bn r (p + 1) (fu f p 0) c, 2) = (bn r (p + 1) (fu f p (c / 2 ^ r % 2)) c, 2)
      rw [Nat.div_eq_of_lt (by omega)]
    · apply List.map_congr_left
      intro c hc
      rw [List.mem_range'_1] at hc
      have e2 : 1 + (2 ^ r - 1) + c = c + 2 ^ r * 1 := by omega
      show (bn r (p + 1) (fu f p 1) c, 2) = (bn r (p + 1) (fu f p ((1 + (2 ^ r - 1) + c) / 2 ^ r % 2)) (1 + (2 ^ r - 1) + c), 2)
      have e3 : (c + 2 ^ r * 1) / 2 ^ r % 2 = 1 := by
        rw [Nat.add_mul_div_left _ _ hp, Nat.div_eq_of_lt (by omega)]
      rw [e2, e3, bn_add]
/-- the parting of a code -/
def fcd (n c : Nat) : Nat → Nat := bn (n - 1) 1 (fu (fun _ => 0) 0 0) c
theorem fil0 {n : Nat} (hn : 1 ≤ n) : (rgL n 0 0 (fun _ => 0)).filter f2 = (List.range' 1 (2 ^ (n - 1) - 1)).map (fun c => (fcd n c, 2)) := by
  obtain ⟨r, rfl⟩ : ∃ r, n = r + 1 := ⟨n - 1, by omega⟩
  have e0 : rgL (r + 1) 0 0 (fun _ => 0) = rgL r 1 1 (fu (fun _ => 0) 0 0) := by
    rw [rgQ_0, rgQ_s (by omega), rgQ_e]
    simp
  rw [e0, fil1]
  rfl
theorem fcd_0 {n c : Nat} : fcd n c 0 = 0 := by unfold fcd; rw [bn_lo _ _ _ _ _ (by omega), fu_s]
theorem fcd_at {n c j : Nat} (h1 : 1 ≤ j) (h2 : j < n) : fcd n c j = c / 2 ^ (n - 1 - j) % 2 := by
  unfold fcd
  rw [bn_at _ _ _ _ _ h1 (by omega), show 1 + (n - 1) - 1 - j = n - 1 - j by omega]
theorem fcd_lt {n c j : Nat} (h2 : j < n) : fcd n c j < 2 := by
  by_cases e : j = 0
  · rw [e, fcd_0]; omega
  · rw [fcd_at (by omega) h2]; omega
theorem foldM_fil {t : Nt} {cost : (Nat → Nat) → Nat} {wi : Int32} : ∀ (L : List ((Nat → Nat) × Nat)) (A : MA), L.foldl (fun A x => leafM t (w_pieces 2, cost) wi x A) A = (L.filter f2).foldl (fun A x => leafM t (w_pieces 2, cost) wi x A) A := by
  intro L
  induction L with
  | nil => intro A; rfl
  | cons x L ih =>
    intro A
    rw [List.foldl_cons, ih]
    by_cases g : x.2 = 2
    · rw [List.filter_cons_of_pos (by simp [f2, g])]
      rfl
    · rw [List.filter_cons_of_neg (by simp [f2, g])]
      have : leafM t (w_pieces 2, cost) wi x A = A := by
        unfold leafM
        rw [if_pos (by simp [w_pieces, g])]
      rw [this]
/-! the class: heaps of codes -/
theorem bt_nI {c k : Nat} (hk : k < 32) : bt (nI c) k = decide (c / 2 ^ k % 2 = 1) := by
  have h1 : bt (nI c) k = c.testBit k := by
    show (BitVec.ofNat 32 c).getLsbD k = c.testBit k
    rw [BitVec.getLsbD_ofNat]
    simp [hk]
  rw [h1, Nat.testBit_eq_decide_div_mod_eq]
def hpr (n c : Nat) : Nat → Int32
  | 0 => 0
  | i + 1 => if 1 ≤ i ∧ c / 2 ^ (n - 1 - i) % 2 = 1 then hpr n c i ||| tbit i else hpr n c i
theorem hpr_b {n c : Nat} : ∀ i, i ≤ 9 → ∀ j, bt (hpr n c i) j = decide (1 ≤ j ∧ j < i ∧ c / 2 ^ (n - 1 - j) % 2 = 1) := by
  intro i
  induction i with
  | zero => intro _ j; rw [hpr, b_0]; simp
  | succ i ih =>
    intro hi j
    rw [hpr]
    by_cases g : 1 ≤ i ∧ c / 2 ^ (n - 1 - i) % 2 = 1
    · rw [if_pos g, b_or, ih (by omega) j, tbit_b (by omega)]
      by_cases e : j = i
      · subst e; simp [g]
      · simp only [e, decide_false, Bool.or_false]
        rw [decide_eq_decide]
        constructor
        · rintro ⟨a, b, d⟩; exact ⟨a, by omega, d⟩
        · rintro ⟨a, b, d⟩; exact ⟨a, by omega, d⟩
    · rw [if_neg g, ih (by omega) j, decide_eq_decide]
      constructor
      · rintro ⟨a, b, d⟩; exact ⟨a, by omega, d⟩
      · rintro ⟨a, b, d⟩
        by_cases e : j = i
        · subst e; exact absurd ⟨a, d⟩ g
        · exact ⟨a, by omega, d⟩
theorem p_heapL {n c : Nat} (hn : n ≤ 9) (σ : nS) (K : Int32 → Option Int32) : ∀ (m i : Nat), 1 ≤ i → i ≤ n → n < i + m → gH_heapOf_L4 (nI c) (nI n) σ K m (hpr n c i) (nI i) = K (hpr n c n) := by
  intro m
  induction m with
  | zero => intro i h0 h1 h2; omega
  | succ m ih =>
    intro i h0 h1 h2
    by_cases e : i = n
    · subst e
      rw [gH_heapOf_L4, if_pos (nI_le (Nat.le_refl _) (by omega))]
    · obtain ⟨n', hn'⟩ : ∃ n', n = n' + 1 := ⟨n - 1, by omega⟩
      have ek : (nI n - (1 : Int32)) - nI i = nI (n - 1 - i) := by rw [hn', nI_pred, pk_sub (by omega)]; rfl
      rw [gH_heapOf_L4, if_neg (nI_ge (by omega) (by omega)), ek, p_holds _ (by omega), bt_nI (by omega), ← ih (i + 1) (by omega) (by omega) (by omega), hpr, nI_1]
      simp only [Option.bind_some]
      by_cases g : c / 2 ^ (n - 1 - i) % 2 = 1
      · rw [zb_t g, if_neg z10, if_pos ⟨h0, g⟩]
        rfl
      · rw [zb_f g, if_pos rfl, if_neg (fun z => g z.2)]
theorem p_heapOf {n c : Nat} (hn : n ≤ 9) (h1 : 1 ≤ n) (σ : nS) : gH_heapOf (nI c) (nI n) σ = some (hpr n c n) := by
  have h := p_heapL (c := c) hn σ (fun w => some w) nFU 1 (Nat.le_refl _) h1 (by unfold nFU; omega)
  have e : hpr n c 1 = 0 := by rw [hpr, if_neg (by omega)]; rfl
  rw [e] at h
  unfold gH_heapOf
  rw [z_1]
  exact h
theorem hpr_f {n c j : Nat} (hn : n ≤ 9) (hj : j < n) : zb (bt (hpr n c n) j) = nI (fcd n c j) := by
  rw [hpr_b n hn j]
  by_cases e : j = 0
  · subst e
    rw [fcd_0, zb_f (by omega)]
    rfl
  · rw [fcd_at (by omega) hj]
    by_cases g : c / 2 ^ (n - 1 - j) % 2 = 1
    · rw [zb_t ⟨by omega, hj, g⟩, g]; rfl
    · rw [zb_f (fun z => g z.2.2), show c / 2 ^ (n - 1 - j) % 2 = 0 by omega]; rfl
theorem p_sarL {t : Nt} (O : NtOK t) {σ : nS} (hC : RC σ t) {c : Nat} (K : Int32 → Option Int32) : ∀ (m l : Nat), l ≤ tL t → tL t < l + m → gN_sumAround_L4 (hpr (tN t) c (tN t)) σ K m (nI (sumN (lc t false (fcd (tN t) c)) l)) (nI l) = K (nI (tCost t false (fcd (tN t) c))) := by
  have hL := O.2.1
  have hN := O.1
  intro m
  induction m with
  | zero => intro l h1 h2; omega
  | succ m ih =>
    intro l h1 h2
    by_cases e : l = tL t
    · subst e
      rw [gN_sumAround_L4, hC.2.1, if_pos (nI_le (Nat.le_refl _) (by omega))]
      rfl
    · have hl : l < tL t := by omega
      obtain ⟨e2, e3, e4, e5, e6⟩ := hC.2.2.2.2.1 l hl
      obtain ⟨ha, hb, -⟩ := O.2.2.2.2.1 l hl
      have i24 : inb (nI l) 24 := (z_in (by omega)).mpr (by omega)
      have cl : (nI l).toNatClampNeg = l := z_cl (by omega)
      rw [gN_sumAround_L4, hC.2.1, if_neg (nI_ge hl (by omega)), ← ih (l + 1) (by omega) (by omega), sumN]
      simp only [if_pos i24, cl, e2, e3, e4, e6, nI_1, nI_add]
      cases ho : tOv t l with
      | true =>
        rw [if_neg (by decide)]
        simp [lc, ho]
      | false =>
        rw [if_pos (by rfl), p_holds _ (by omega), Option.bind_some, p_holds _ (by omega), Option.bind_some, hpr_f hN ha, hpr_f hN hb]
        have l1 := fcd_lt (n := tN t) (c := c) ha
        have l2 := fcd_lt (n := tN t) (c := c) hb
        by_cases g : fcd (tN t) c (tA t l) = fcd (tN t) c (tB t l)
        · rw [if_pos (by rw [g])]
          simp [lc, ho, g]
        · rw [if_neg (fun z => g ((z_eq (by omega) (by omega)).mp z))]
          simp [lc, ho, g]
theorem p_sumAround {t : Nt} (O : NtOK t) {σ : nS} (hC : RC σ t) {c : Nat} : gN_sumAround (hpr (tN t) c (tN t)) σ = some (nI (tCost t false (fcd (tN t) c))) := by
  have h := p_sarL O hC (c := c) (fun w => some w) nFU 0 (Nat.zero_le _) (by have := O.2.1; unfold nFU; omega)
  unfold gN_sumAround
  rw [z_0]
  exact h
/-- what the class has gathered: least, how many, the heaps -/
abbrev GA : Type := Nat × Nat × (Nat → Int32)
def leafG (t : Nt) (c : Nat) (A : GA) : GA :=
  if tCost t false (fcd (tN t) c) < A.1 then (tCost t false (fcd (tN t) c), 1, fun i => if i = 0 then hpr (tN t) c (tN t) else A.2.2 i)
  else if tCost t false (fcd (tN t) c) = A.1 then (A.1, A.2.1 + 1, fun i => if i = A.2.1 then hpr (tN t) c (tN t) else A.2.2 i) else A
def GR (σ : nS) (A : GA) : Prop := σ 45 1 = nI A.2.1 ∧ ∀ i, i < A.2.1 → σ 46 i = A.2.2 i
theorem p_gatL {t : Nt} (O : NtOK t) (h2 : 2 ≤ tN t) {σ0 : nS} (hC : RC σ0 t) : ∀ (m c : Nat) (σ : nS) (A : GA), (∀ d, d ≠ 45 → d ≠ 46 → σ d = σ0 d) → GR σ A → A.1 ≤ 1000000 → A.2.1 < c → c ≤ 2 ^ (tN t - 1) → 2 ^ (tN t - 1) < c + m →
    ∃ σ' : nS, (∀ K, gH_gather_L19 K m (nI A.1) (nI c) σ = K σ') ∧ (∀ d, d ≠ 45 → d ≠ 46 → σ' d = σ0 d) ∧ GR σ' ((List.range' c (2 ^ (tN t - 1) - c)).foldl (fun A c => leafG t c A) A) := by
  have hN := O.1
  have hp : 2 ^ (tN t - 1) ≤ 256 := Nat.pow_le_pow_right (by decide : 0 < 2) (show tN t - 1 ≤ 8 by omega)
  obtain ⟨n', hn'⟩ : ∃ n', tN t = n' + 1 := ⟨tN t - 1, by omega⟩
  have esh : ∀ σ : nS, RC σ t → ((1 : Int32) <<< (((σ 1 5) - (1 : Int32)) &&& 31)) = nI (2 ^ (tN t - 1)) := fun σ h => by
    rw [h.1, hn', nI_pred, z_pow _ (by omega)]
    rfl
  intro m
  induction m with
  | zero => intro c σ A _ _ _ _ h3 h4; omega
  | succ m ih =>
    intro c σ A hs hG hA1 hA2 h3 h4
    have hCσ : RC σ t := hC.keep (fun d hd => hs d (by omega) (by omega))
    by_cases e : c = 2 ^ (tN t - 1)
    · subst e
      refine ⟨σ, fun K => ?_, hs, by rw [Nat.sub_self]; exact hG⟩
      rw [gH_gather_L19, esh σ hCσ, if_pos (nI_le (Nat.le_refl _) (by omega))]
    · have hlt : c < 2 ^ (tN t - 1) := by omega
      have hcost := tCost_le O (b := false) (f := fcd (tN t) c)
      have el : 2 ^ (tN t - 1) - c = (2 ^ (tN t - 1) - (c + 1)) + 1 := by omega
      rw [el, List.range'_succ, List.foldl_cons]
      have start : ∀ K, gH_gather_L19 K (m + 1) (nI A.1) (nI c) σ = (if nI A.1 ≤ nI (tCost t false (fcd (tN t) c)) then (if nI (tCost t false (fcd (tN t) c)) = nI A.1 then (if inb (nI A.2.1) 256 then (gH_gather_L19 K m (nI A.1) (nI (c + 1)) (nst (nst σ 46 (nI A.2.1).toNatClampNeg (hpr (tN t) c (tN t))) 45 1 (nI (A.2.1 + 1)))) else none) else (gH_gather_L19 K m (nI A.1) (nI (c + 1)) σ)) else (gH_gather_L19 K m (nI (tCost t false (fcd (tN t) c))) (nI (c + 1)) (nst (nst (nst σ 45 1 0) 46 0 (hpr (tN t) c (tN t))) 45 1 (nI 1)))) := fun K => by
        rw [gH_gather_L19, esh σ hCσ, if_neg (nI_ge hlt (by omega)), hCσ.1, p_heapOf hN (by omega), Option.bind_some, p_sumAround O hCσ, Option.bind_some]
        have i0 : inb (0 : Int32) 256 := by decide
        have c0 : (0 : Int32).toNatClampNeg = 0 := rfl
        simp only [hG.1, n_s, n_o (show (45 : Nat) ≠ 46 by decide), nI_1, if_true, if_pos i0, c0]
        rfl
      by_cases g1 : A.1 ≤ tCost t false (fcd (tN t) c)
      · by_cases g2 : tCost t false (fcd (tN t) c) = A.1
        · have hl : leafG t c A = (A.1, A.2.1 + 1, fun i => if i = A.2.1 then hpr (tN t) c (tN t) else A.2.2 i) := by
            unfold leafG
            rw [if_neg (by omega), if_pos g2]
          rw [hl]
          have cs : (nI A.2.1).toNatClampNeg = A.2.1 := z_cl (by omega)
          obtain ⟨σ', q1, q2, q3⟩ := ih (c + 1) (nst (nst σ 46 A.2.1 (hpr (tN t) c (tN t))) 45 1 (nI (A.2.1 + 1))) (A.1, A.2.1 + 1, fun i => if i = A.2.1 then hpr (tN t) c (tN t) else A.2.2 i) (fun d d1 d2 => by rw [n_o d1, n_o d2]; exact hs d d1 d2) ⟨n_s, fun i hi => by
            rw [n_o (by decide)]
            by_cases f : i = A.2.1
            · subst f; rw [n_s]; simp
            · rw [n_n f, hG.2 i (by have : i < A.2.1 + 1 := hi; omega)]; simp [f]⟩ hA1 (by show A.2.1 + 1 < c + 1; omega) (by omega) (by omega)
          refine ⟨σ', fun K => ?_, q2, q3⟩
          rw [start, if_pos (nI_le g1 (by omega)), if_pos (by rw [g2]), if_pos ((z_in (by omega)).mpr (by omega)), cs]
          exact q1 K
        · have hl : leafG t c A = A := by
            unfold leafG
            rw [if_neg (by omega), if_neg g2]
          rw [hl]
          obtain ⟨σ', q1, q2, q3⟩ := ih (c + 1) σ A hs hG hA1 (by omega) (by omega) (by omega)
          refine ⟨σ', fun K => ?_, q2, q3⟩
          rw [start, if_pos (nI_le g1 (by omega)), if_neg (fun z => g2 ((z_eq (by omega) (by omega)).mp z))]
          exact q1 K
      · have hl : leafG t c A = (tCost t false (fcd (tN t) c), 1, fun i => if i = 0 then hpr (tN t) c (tN t) else A.2.2 i) := by
          unfold leafG
          rw [if_pos (by omega)]
        rw [hl]
        obtain ⟨σ', q1, q2, q3⟩ := ih (c + 1) (nst (nst (nst σ 45 1 0) 46 0 (hpr (tN t) c (tN t))) 45 1 (nI 1)) (tCost t false (fcd (tN t) c), 1, fun i => if i = 0 then hpr (tN t) c (tN t) else A.2.2 i) (fun d d1 d2 => by rw [n_o d1, n_o d2, n_o d1]; exact hs d d1 d2) ⟨n_s, fun i hi => by
          have h0 : i = 0 := by have : i < 1 := hi; omega
          subst h0
          rw [n_o (by decide), n_s]
          simp⟩ (by show tCost t false (fcd (tN t) c) ≤ 1000000; omega) (by show 1 < c + 1; omega) (by omega) (by omega)
        refine ⟨σ', fun K => ?_, q2, q3⟩
        rw [start, if_neg (nI_ge (by omega) (by omega))]
        exact q1 K
/-- both gatherings -/
def simG (n i : Nat) (A : MA) (G : GA) : Prop := A.1 = G.1 ∧ A.2.1 = G.2.1 ∧ (i < G.2.1 → ∀ j, j < n → A.2.2.1 j = zb (bt (G.2.2 i) j))
theorem sim_G {t : Nt} (O : NtOK t) {i : Nat} (hi : i < 2 ^ 31) : ∀ (L : List Nat) (A : MA) (G : GA), A.2.1 + L.length < 2 ^ 31 → A.1 ≤ 1000000 → simG (tN t) i A G → simG (tN t) i ((L.map (fun c => (fcd (tN t) c, 2))).foldl (fun A x => leafM t (w_pieces 2, tCost t false) (nI i) x A) A) (L.foldl (fun G c => leafG t c G) G) := by
  have hN := O.1
  intro L
  induction L with
  | nil => intro A G _ _ h; exact h
  | cons c L ih =>
    intro A G hlen hA1 hR
    rw [List.map_cons, List.foldl_cons, List.foldl_cons]
    obtain ⟨r1, r2, r3⟩ := hR
    have hlen2 : A.2.1 + (L.length + 1) < 2 ^ 31 := hlen
    have hcost := tCost_le O (b := false) (f := fcd (tN t) c)
    have step : simG (tN t) i (leafM t (w_pieces 2, tCost t false) (nI i) (fcd (tN t) c, 2) A) (leafG t c G) ∧ (leafM t (w_pieces 2, tCost t false) (nI i) (fcd (tN t) c, 2) A).2.1 ≤ A.2.1 + 1 ∧ (leafM t (w_pieces 2, tCost t false) (nI i) (fcd (tN t) c, 2) A).1 ≤ 1000000 := by
      unfold leafM leafG
      rw [if_neg (show ¬ w_pieces 2 (fcd (tN t) c) 2 = false by simp [w_pieces]), ← r1]
      show simG (tN t) i (if A.1 < tCost t false (fcd (tN t) c) then A else _) _ ∧ (if A.1 < tCost t false (fcd (tN t) c) then A else _).2.1 ≤ A.2.1 + 1 ∧ (if A.1 < tCost t false (fcd (tN t) c) then A else _).1 ≤ 1000000
      by_cases g1 : A.1 < tCost t false (fcd (tN t) c)
      · rw [if_pos g1, if_neg (show ¬ tCost t false (fcd (tN t) c) < A.1 by omega), if_neg (show ¬ tCost t false (fcd (tN t) c) = A.1 by omega)]
        exact ⟨⟨r1, r2, r3⟩, by omega, hA1⟩
      · rw [if_neg g1]
        by_cases g2 : tCost t false (fcd (tN t) c) < A.1
        · rw [if_pos g2]
          simp only [if_pos g2]
          refine ⟨⟨rfl, rfl, fun h j hj => ?_⟩, by omega, by omega⟩
          have h0 : i = 0 := by have : i < 1 := h; omega
          subst h0
          simp only [if_true, if_pos hj]
          exact (hpr_f hN hj).symm
        · have g3 : tCost t false (fcd (tN t) c) = A.1 := by omega
          rw [if_neg g2, if_pos g3]
          simp only [if_neg g2]
          refine ⟨⟨rfl, by rw [r2], fun h j hj => ?_⟩, Nat.le_refl _, hA1⟩
          by_cases f : A.2.1 = i
          · have f2 : nI A.2.1 = nI i := by rw [f]
            simp only [if_pos f2, if_pos hj]
            rw [if_pos (by omega)]
            exact (hpr_f hN hj).symm
          · have f2 : ¬ nI A.2.1 = nI i := fun z => f ((z_eq (by omega) hi).mp z)
            simp only [if_neg f2]
            rw [if_neg (by omega)]
            exact r3 (by have : i < G.2.1 + 1 := h; omega) j hj
    exact ih _ _ (by have := step.2.1; omega) step.2.2 step.1
theorem b_wholes {t : Nt} (O : NtOK t) (h2 : 2 ≤ tN t) {σ : nS} (hC : RC σ t) {τ : nS} (hM : RM τ t) {i : Nat} (hi : i < 2 ^ 31) : ∃ (σ2 τ2 : nS) (m : Nat), gH_gather σ = some σ2 ∧ gM_goesThrough 3 (nI i) (nst τ 0 17 2) = some τ2 ∧ RC σ2 t ∧ RM τ2 t ∧ m ≤ 256 ∧ σ2 45 1 = nI m ∧ τ2 0 19 = nI m ∧ (i < m → ∀ j, j < tN t → τ2 11 j = zb (bt (σ2 46 i) j)) := by
  have hN := O.1
  have hp : 2 ^ (tN t - 1) ≤ 256 := Nat.pow_le_pow_right (by decide : 0 < 2) (show tN t - 1 ≤ 8 by omega)
  have hp0 : 2 ≤ 2 ^ (tN t - 1) := by
    have := Nat.pow_le_pow_right (by decide : 0 < 2) (show 1 ≤ tN t - 1 by omega)
    simpa using this
  have hC1 : RC (nst σ 45 1 0) t := hC.keep (fun c hc => n_o (by omega))
  obtain ⟨σ2, q1, q2, q3⟩ := p_gatL O h2 hC1 nFU 1 (nst σ 45 1 0) (1000000, 0, fun _ => 0) (fun _ _ _ => rfl) ⟨n_s, fun i hi => by have : i < 0 := hi; omega⟩ (Nat.le_refl _) (by show 0 < 1; omega) (by omega) (by unfold nFU; omega)
  have hM1 : RM (nst τ 0 17 2) t := hM.keep (eqM0 (by decide))
  obtain ⟨τ2, m1, m2, m3⟩ := p_goes O hM1 3 (nI i) (Q := (w_pieces 2, tCost t false)) (QM_pieces O (kM hM1 _ _ _ _) (k1420 _ _ _ _ _) (k0 := 2) (by rw [k15 _ _ _ _ _ (by decide), n_s]; rfl) (by omega))
  have hsim := sim_G O hi (List.range' 1 (2 ^ (tN t - 1) - 1)) (1000000, 0, (nst τ 0 17 2) 11, (nst τ 0 17 2) 12) (1000000, 0, fun _ => 0) (by rw [List.length_range']; show 0 + _ < 2 ^ 31; omega) (Nat.le_refl _) ⟨rfl, rfl, fun h => by have : i < 0 := h; omega⟩
  rw [foldM_fil, fil0 (by omega)] at m3
  have hcnt : ((List.range' 1 (2 ^ (tN t - 1) - 1)).foldl (fun G c => leafG t c G) ((1000000, 0, fun _ => 0) : GA)).2.1 ≤ 256 := by
    have h9 : ∀ (L : List Nat) (G : GA), (L.foldl (fun G c => leafG t c G) G).2.1 ≤ G.2.1 + L.length := by
      intro L
      induction L with
      | nil => intro G; exact Nat.le_refl _
      | cons c L ih =>
        intro G
        have a1 := ih (leafG t c G)
        have a2 : (leafG t c G).2.1 ≤ G.2.1 + 1 := by
          unfold leafG
          split
          · show 1 ≤ G.2.1 + 1; omega
          · split
            · exact Nat.le_refl _
            · omega
        show (L.foldl (fun G c => leafG t c G) (leafG t c G)).2.1 ≤ G.2.1 + (L.length + 1)
        omega
    have := h9 (List.range' 1 (2 ^ (tN t - 1) - 1)) (1000000, 0, fun _ => 0)
    rw [List.length_range'] at this
    have h0 : ((1000000, 0, fun _ => 0) : GA).2.1 = 0 := rfl
    omega
  refine ⟨σ2, τ2, _, ?_, m1, hC1.keep (fun c hc => q2 c (by omega) (by omega)), hM1.keep m2, hcnt, q3.1, by rw [m3.2.1, hsim.2.1], fun h j hj => ?_⟩
  · have q1' : gH_gather_L19 (fun σe_19 => some σe_19) nFU (nI 1000000) (nI 1) (nst σ 45 1 0) = some σ2 := q1 _
    unfold gH_gather
    rw [n_o (show (1 : Nat) ≠ 45 by decide), hC.1, if_pos (show (2 : Int32) ≤ nI (tN t) from nI_le (a := 2) (b := tN t) h2 (by omega)), show (1000000 : Int32) = nI 1000000 from rfl, z_1]
    exact q1'
  · rw [m3.2.2.1 j hj, hsim.2.2 h j hj, q3.2 i h]
theorem st_wholes {σ τ : nS} {t : Nt} (O : NtOK t) (hC : RC σ t) (hM : RM τ t) : nStp (gC_wholes σ) (gM_wholes τ) := by
  have hN := O.1
  by_cases h : 2 ≤ tN t
  · obtain ⟨σ2, τ2, m, q1, q2, q3, q4, q5, q6, q7, q8⟩ := b_wholes O h hC hM (i := 0) (by omega)
    refine ⟨nI m, σ2, τ2, t, ?_, ?_, O, q3, q4⟩
    · unfold gC_wholes
      rw [q1, Option.bind_some, q6]
    · have q2' : gM_goesThrough 3 0 (nst τ 0 17 2) = some τ2 := q2
      unfold gM_wholes
      rw [hM.1, if_pos (show (2 : Int32) ≤ nI (tN t) from nI_le (a := 2) (b := tN t) h (by omega)), q2', Option.bind_some, q7]
  · refine ⟨0, nst σ 45 1 0, τ, t, ?_, ?_, O, hC.keep (fun c hc => n_o (by omega)), hM⟩
    · unfold gC_wholes gH_gather
      rw [n_o (show (1 : Nat) ≠ 45 by decide), hC.1, if_neg (show ¬ (2 : Int32) ≤ nI (tN t) from nI_ge (a := tN t) (b := 2) (by omega) (by omega)), Option.bind_some, n_s]
    · unfold gM_wholes
      rw [hM.1, if_neg (show ¬ (2 : Int32) ≤ nI (tN t) from nI_ge (a := tN t) (b := 2) (by omega) (by omega))]
theorem st_whole {σ τ : nS} {t : Nt} (O : NtOK t) (hC : RC σ t) (hM : RM τ t) (x z : Int32) : nStp (gC_whole x z σ) (gM_whole x z τ) := by
  have hN := O.1
  by_cases g : inb z (tN t)
  · have g0 := g
    obtain ⟨j, hj, rfl⟩ := z_of g (by omega)
    have ij : inb (nI j) 9 := (z_in (by omega)).mpr (by omega)
    have cj : (nI j).toNatClampNeg = j := z_cl (by omega)
    by_cases h : 2 ≤ tN t
    · by_cases hx : x < 0
      · obtain ⟨σ2, τ2, m, q1, q2, q3, q4, q5, q6, q7, q8⟩ := b_wholes O h hC hM (i := 0) (by omega)
        refine ⟨-1, σ2, τ, t, ?_, ?_, O, q3, hM⟩
        · unfold gC_whole gH_sideOf
          rw [p_hasPost O hC, zb_t g0, Option.bind_some, if_neg z10, q1, Option.bind_some, if_pos hx]
          rfl
        · unfold gM_whole
          rw [hM.1, if_neg (show ¬ nI (tN t) < (2 : Int32) from nI_nlt (a := tN t) (b := 2) h (by omega)), if_pos hx]
      · obtain ⟨i, hi, rfl⟩ := nI_of hx
        obtain ⟨σ2, τ2, m, q1, q2, q3, q4, q5, q6, q7, q8⟩ := b_wholes O h hC hM hi
        by_cases him : i < m
        · refine ⟨zb (bt (σ2 46 i) j), σ2, τ2, t, ?_, ?_, O, q3, q4⟩
          · unfold gC_whole gH_sideOf
            rw [p_hasPost O hC, zb_t g0, Option.bind_some, if_neg z10, q1, Option.bind_some, if_neg hx, q6, if_pos (nI_lt him (by omega)), if_pos ((z_in (by omega)).mpr (by omega)), z_cl (by omega), p_holds _ (by omega), Option.bind_some]
            cases bt (σ2 46 i) j <;> rfl
          · unfold gM_whole
            rw [hM.1, if_neg (show ¬ nI (tN t) < (2 : Int32) from nI_nlt (a := tN t) (b := 2) h (by omega)), if_neg hx, p_isPost O hM, zb_t g0, Option.bind_some, if_neg z10, q2, Option.bind_some, q7, if_neg (nI_ge him (by omega)), if_pos ij, cj, q8 him j hj]
        · refine ⟨-1, σ2, τ2, t, ?_, ?_, O, q3, q4⟩
          · unfold gC_whole gH_sideOf
            rw [p_hasPost O hC, zb_t g0, Option.bind_some, if_neg z10, q1, Option.bind_some, if_neg hx, q6, if_neg (nI_nlt (by omega) (by omega))]
            rfl
          · unfold gM_whole
            rw [hM.1, if_neg (show ¬ nI (tN t) < (2 : Int32) from nI_nlt (a := tN t) (b := 2) h (by omega)), if_neg hx, p_isPost O hM, zb_t g0, Option.bind_some, if_neg z10, q2, Option.bind_some, q7, if_pos (nI_le (by omega) (by omega))]
    · refine ⟨-1, nst σ 45 1 0, τ, t, ?_, ?_, O, hC.keep (fun c hc => n_o (by omega)), hM⟩
      · unfold gC_whole gH_sideOf gH_gather
        rw [p_hasPost O hC, zb_t g0, Option.bind_some, if_neg z10, n_o (show (1 : Nat) ≠ 45 by decide), hC.1, if_neg (show ¬ (2 : Int32) ≤ nI (tN t) from nI_ge (a := tN t) (b := 2) (by omega) (by omega)), Option.bind_some, n_s]
        by_cases hx : x < 0
        · rw [if_pos hx]; rfl
        · rw [if_neg hx, if_neg hx]; rfl
      · unfold gM_whole
        rw [hM.1, if_pos (show nI (tN t) < (2 : Int32) from nI_lt (a := tN t) (b := 2) (by omega) (by omega))]
  · have hgo : ∃ τ', gM_whole x z τ = some (-1, τ') ∧ RM τ' t := by
      unfold gM_whole
      rw [hM.1, p_isPost O hM, zb_f g]
      by_cases h : nI (tN t) < (2 : Int32)
      · rw [if_pos h]; exact ⟨τ, rfl, hM⟩
      · rw [if_neg h]
        by_cases hx : x < 0
        · rw [if_pos hx]; exact ⟨τ, rfl, hM⟩
        · rw [if_neg hx]; exact ⟨τ, rfl, hM⟩
    obtain ⟨τ', e1, e2⟩ := hgo
    refine ⟨-1, σ, τ', t, ?_, e1, O, hC, e2⟩
    unfold gC_whole
    rw [p_hasPost O hC, zb_f g]
    rfl
