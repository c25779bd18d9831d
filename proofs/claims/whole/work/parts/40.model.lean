/-! all partings, in order -/
def fu (f : Nat → Nat) (p q : Nat) : Nat → Nat := fun j => if j = p then q else f j
theorem fu_s {f : Nat → Nat} {p q : Nat} : fu f p q p = q := by simp [fu]
theorem fu_n {f : Nat → Nat} {p q j : Nat} (h : j ≠ p) : fu f p q j = f j := by simp [fu, h]
def rgL : Nat → Nat → Nat → (Nat → Nat) → List ((Nat → Nat) × Nat)
  | 0, _, k, f => [(f, k)]
  | r + 1, p, k, f => (List.range' 0 (k + 1)).flatMap (fun q => rgL r (p + 1) (if q = k then k + 1 else k) (fu f p q))
/-- those whose p-th part is q or more -/
def rgQ (r p k : Nat) (f : Nat → Nat) (q : Nat) : List ((Nat → Nat) × Nat) := (List.range' q (k + 1 - q)).flatMap (fun q => rgL r (p + 1) (if q = k then k + 1 else k) (fu f p q))
theorem rgQ_0 {r p k : Nat} {f : Nat → Nat} : rgL (r + 1) p k f = rgQ r p k f 0 := rfl
theorem rgQ_e {r p k : Nat} {f : Nat → Nat} : rgQ r p k f (k + 1) = [] := by simp [rgQ]
theorem rgQ_s {r p k q : Nat} {f : Nat → Nat} (h : q ≤ k) : rgQ r p k f q = rgL r (p + 1) (if q = k then k + 1 else k) (fu f p q) ++ rgQ r p k f (q + 1) := by
  unfold rgQ
  have e : k + 1 - q = (k + 1 - (q + 1)) + 1 := by omega
  rw [e, List.range'_succ, List.flatMap_cons]
/-- what the reference has gathered: least, how many, the wanted one, how often each line is cut -/
abbrev MA : Type := Nat × Nat × (Nat → Int32) × (Nat → Int32)
/-- a question: which partings are wanted, what each costs -/
abbrev Qn : Type := ((Nat → Nat) → Nat → Bool) × ((Nat → Nat) → Nat)
def leafM (t : Nt) (Q : Qn) (wi : Int32) (x : (Nat → Nat) × Nat) (A : MA) : MA :=
  if Q.1 x.1 x.2 = false then A else if A.1 < Q.2 x.1 then A else
    let B : MA := if Q.2 x.1 < A.1 then (Q.2 x.1, 0, A.2.2.1, fun _ => 0) else A
    (B.1, B.2.1 + 1, (if nI B.2.1 = wi then (fun j => if j < tN t then nI (x.1 j) else B.2.2.1 j) else B.2.2.1), fun l => B.2.2.2 l + (if x.1 (tA t l) = x.1 (tB t l) then 0 else 1))
def LA (t : Nt) (τ : nS) (A : MA) : Prop := τ 0 18 = nI A.1 ∧ τ 0 19 = nI A.2.1 ∧ (∀ j, j < tN t → τ 11 j = A.2.2.1 j) ∧ ∀ l, l < tL t → τ 12 l = A.2.2.2 l
/-- what stays while partings are gone through -/
def sM (τ0 τ : nS) : Prop := (∀ c, 1 ≤ c → c < 10 → τ c = τ0 c) ∧ (∀ i, i < 18 → τ 0 i = τ0 0 i) ∧ τ 0 20 = τ0 0 20
theorem sM.eq {τ0 τ : nS} (h : sM τ0 τ) : eqM τ0 τ := ⟨h.1, fun i hi => h.2.1 i (by omega)⟩
theorem sM.st {τ0 τ : nS} (h : sM τ0 τ) {c i : Nat} {v : Int32} (hc : 10 ≤ c ∨ (c = 0 ∧ (i = 18 ∨ i = 19))) : sM τ0 (nst τ c i v) := by
  refine ⟨fun d h1 h2 => ?_, fun j hj => ?_, ?_⟩
  · rw [n_o (by omega)]; exact h.1 d h1 h2
  · rcases hc with hc | ⟨rfl, hc⟩
    · rw [n_o (by omega)]; exact h.2.1 j hj
    · rw [n_n (by omega)]; exact h.2.1 j hj
  · rcases hc with hc | ⟨rfl, hc⟩
    · rw [n_o (by omega)]; exact h.2.2
    · rw [n_n (by omega)]; exact h.2.2
/-- the reference's answers to a question -/
def QM (t : Nt) (τ0 : nS) (Q : Qn) : Prop := ∀ (τ : nS) (f : Nat → Nat) (k : Nat), sM τ0 τ → (∀ j, j < tN t → τ 10 j = nI (f j) ∧ f j < 9) → k ≤ 9 → gM_isWanted (nI k) τ = some (zb (Q.1 f k)) ∧ gM_sum τ = some (nI (Q.2 f)) ∧ Q.2 f < 2 ^ 31
theorem p_lk43 {L : Nat} (hL : L ≤ 24) {τ0 : nS} : ∀ (n l : Nat) (τ : nS), sM τ0 τ → τ 0 8 = nI L → l ≤ L → L < l + n → ∃ τ' : nS, (∀ K, gM_looks_L43 K n (nI l) τ = K τ') ∧ (∀ c, c ≠ 12 → τ' c = τ c) ∧ (∀ m, m < l → τ' 12 m = τ 12 m) ∧ ∀ m, l ≤ m → m < L → τ' 12 m = 0 := by
  intro n
  induction n with
  | zero => intro l τ _ _ h1 h2; omega
  | succ n ih =>
    intro l τ hs h8 h1 h2
    by_cases e : l = L
    · subst e
      refine ⟨τ, fun K => ?_, fun _ _ => rfl, fun _ _ => rfl, fun m a b => by omega⟩
      rw [gM_looks_L43, h8, if_pos (nI_le (Nat.le_refl _) (by omega))]
    · obtain ⟨τ', q1, q2, q3, q4⟩ := ih (l + 1) (nst τ 12 l 0) (hs.st (by omega)) (by rw [n_o (by decide)]; exact h8) (by omega) (by omega)
      refine ⟨τ', fun K => ?_, fun c hc => by rw [q2 c hc, n_o hc], fun m hm => by rw [q3 m (by omega), n_n (by omega)], fun m a b => ?_⟩
      · rw [gM_looks_L43, h8, if_neg (nI_ge (by omega) (by omega)), if_pos ((z_in (by omega)).mpr (by omega)), nI_1, z_cl (by omega)]
        exact q1 K
      · by_cases f : m = l
        · rw [q3 m (by omega), f, n_s]
        · exact q4 m (by omega) b
theorem p_lk77 {N : Nat} (hN : N ≤ 9) : ∀ (n i : Nat) (τ : nS), τ 0 2 = nI N → i ≤ N → N < i + n → ∃ τ' : nS, (∀ K, gM_looks_L77 K n (nI i) τ = K τ') ∧ (∀ c, c ≠ 11 → τ' c = τ c) ∧ (∀ m, m < i → τ' 11 m = τ 11 m) ∧ ∀ m, i ≤ m → m < N → τ' 11 m = τ 10 m := by
  intro n
  induction n with
  | zero => intro i τ _ h1 h2; omega
  | succ n ih =>
    intro i τ h8 h1 h2
    by_cases e : i = N
    · subst e
      refine ⟨τ, fun K => ?_, fun _ _ => rfl, fun _ _ => rfl, fun m a b => by omega⟩
      rw [gM_looks_L77, h8, if_pos (nI_le (Nat.le_refl _) (by omega))]
    · obtain ⟨τ', q1, q2, q3, q4⟩ := ih (i + 1) (nst τ 11 i (τ 10 i)) (by rw [n_o (by decide)]; exact h8) (by omega) (by omega)
      have i9 : inb (nI i) 9 := (z_in (by omega)).mpr (by omega)
      refine ⟨τ', fun K => ?_, fun c hc => by rw [q2 c hc, n_o hc], fun m hm => by rw [q3 m (by omega), n_n (by omega)], fun m a b => ?_⟩
      · rw [gM_looks_L77, h8, if_neg (nI_ge (by omega) (by omega)), if_pos i9, if_pos i9, nI_1, z_cl (by omega)]
        exact q1 K
      · by_cases f : m = i
        · rw [q3 m (by omega), f, n_s]
        · rw [q4 m (by omega) b, n_o (by decide)]
theorem p_lk115 {t : Nt} (O : NtOK t) {τ0 : nS} (hM : RM τ0 t) {f : Nat → Nat} : ∀ (n l : Nat) (τ : nS), eqM τ0 τ → (∀ j, j < tN t → τ 10 j = nI (f j) ∧ f j < 9) → l ≤ tL t → tL t < l + n → ∃ τ' : nS, (∀ K, gM_looks_L115 K n (nI l) τ = K τ') ∧ (∀ c, c ≠ 12 → τ' c = τ c) ∧ (∀ m, m < l → τ' 12 m = τ 12 m) ∧ ∀ m, l ≤ m → m < tL t → τ' 12 m = τ 12 m + (if f (tA t m) = f (tB t m) then 0 else 1) := by
  have hL := O.2.1
  have hN := O.1
  intro n
  induction n with
  | zero => intro l τ _ _ h1 h2; omega
  | succ n ih =>
    intro l τ hs hf h1 h2
    have hMτ := hM.keep hs
    by_cases e : l = tL t
    · subst e
      refine ⟨τ, fun K => ?_, fun _ _ => rfl, fun _ _ => rfl, fun m a b => by omega⟩
      rw [gM_looks_L115, hMτ.2.1, if_pos (nI_le (Nat.le_refl _) (by omega))]
    · have hl : l < tL t := by omega
      obtain ⟨e2, e3, -⟩ := hMτ.2.2.2.2.1 l hl
      obtain ⟨ha, hb, -⟩ := O.2.2.2.2.1 l hl
      have i24 : inb (nI l) 24 := (z_in (by omega)).mpr (by omega)
      have cl : (nI l).toNatClampNeg = l := z_cl (by omega)
      have ia : inb (nI (tA t l)) 9 := (z_in (by omega)).mpr (by omega)
      have ib : inb (nI (tB t l)) 9 := (z_in (by omega)).mpr (by omega)
      have ca : (nI (tA t l)).toNatClampNeg = tA t l := z_cl (by omega)
      have cb : (nI (tB t l)).toNatClampNeg = tB t l := z_cl (by omega)
      obtain ⟨fa, fa2⟩ := hf _ ha
      obtain ⟨fb, fb2⟩ := hf _ hb
      obtain ⟨τ', q1, q2, q3, q4⟩ := ih (l + 1) (nst τ 12 l (τ 12 l + (if f (tA t l) = f (tB t l) then 0 else 1))) ⟨fun c h1 h2 => by rw [n_o (by omega)]; exact hs.1 c h1 h2, fun i hi => by rw [n_o (by decide)]; exact hs.2 i hi⟩ (fun j hj => by rw [n_o (by decide)]; exact hf j hj) (by omega) (by omega)
      refine ⟨τ', fun K => ?_, fun c hc => by rw [q2 c hc, n_o hc], fun m hm => by rw [q3 m (by omega), n_n (by omega)], fun m a b => ?_⟩
      · rw [gM_looks_L115, hMτ.2.1, if_neg (nI_ge (by omega) (by omega)), ← q1 K]
        simp only [if_pos i24, cl, e2, e3, if_pos ia, if_pos ib, ca, cb, fa, fb, nI_1]
        by_cases g : f (tA t l) = f (tB t l)
        · rw [if_pos (by rw [g]), if_pos g]
        · rw [if_neg (fun x => g ((z_eq (by omega) (by omega)).mp x)), if_neg g]
      · by_cases f : m = l
        · rw [q3 m (by omega), f, n_s]
        · rw [q4 m (by omega) b, n_n f]
theorem p_J103 {t : Nt} (O : NtOK t) {τ0 : nS} (hM : RM τ0 t) {f : Nat → Nat} (τ : nS) (hs : sM τ0 τ) (hf : ∀ j, j < tN t → τ 10 j = nI (f j) ∧ f j < 9) : ∃ τ' : nS, gM_looks_J103 τ = some τ' ∧ sM τ0 τ' ∧ (∀ c, c ≠ 0 → c ≠ 12 → τ' c = τ c) ∧ τ' 0 18 = τ 0 18 ∧ τ' 0 19 = τ 0 19 + 1 ∧ ∀ m, m < tL t → τ' 12 m = τ 12 m + (if f (tA t m) = f (tB t m) then 0 else 1) := by
  have h1 : sM τ0 (nst τ 0 19 (τ 0 19 + 1)) := hs.st (by omega)
  obtain ⟨τ', q1, q2, q3, q4⟩ := p_lk115 O hM (f := f) nFU 0 (nst τ 0 19 (τ 0 19 + 1)) h1.eq (fun j hj => by rw [n_o (by decide)]; exact hf j hj) (Nat.zero_le _) (by have := O.2.1; unfold nFU; omega)
  refine ⟨τ', ?_, ⟨fun c a b => by rw [q2 c (by omega)]; exact h1.1 c a b, fun i hi => by rw [q2 0 (by decide)]; exact h1.2.1 i hi, by rw [q2 0 (by decide)]; exact h1.2.2⟩, fun c a b => by rw [q2 c b, n_o a], by rw [q2 0 (by decide), n_n (by decide)], by rw [q2 0 (by decide), n_s], fun m hm => by rw [q4 m (by omega) hm, n_o (by decide)]⟩
  unfold gM_looks_J103
  rw [z_0, q1]
theorem p_J64 {t : Nt} (O : NtOK t) {τ0 : nS} (hM : RM τ0 t) {f : Nat → Nat} {B : MA} (τ : nS) (hs : sM τ0 τ) (hf : ∀ j, j < tN t → τ 10 j = nI (f j) ∧ f j < 9) (hA : LA t τ B) : ∃ τ' : nS, gM_looks_J64 τ = some τ' ∧ sM τ0 τ' ∧ τ' 10 = τ 10 ∧ LA t τ' (B.1, B.2.1 + 1, (if nI B.2.1 = τ0 0 20 then (fun j => if j < tN t then nI (f j) else B.2.2.1 j) else B.2.2.1), fun l => B.2.2.2 l + (if f (tA t l) = f (tB t l) then 0 else 1)) := by
  obtain ⟨a1, a2, a3, a4⟩ := hA
  by_cases e : nI B.2.1 = τ0 0 20
  · obtain ⟨τ1, q1, q2, q3, q4⟩ := p_lk77 O.1 nFU 0 τ ((hM.keep hs.eq).1) (Nat.zero_le _) (by have := O.1; unfold nFU; omega)
    have hs1 : sM τ0 τ1 := ⟨fun c a b => by rw [q2 c (by omega)]; exact hs.1 c a b, fun i hi => by rw [q2 0 (by decide)]; exact hs.2.1 i hi, by rw [q2 0 (by decide)]; exact hs.2.2⟩
    obtain ⟨τ', r1, r2, r3, r4, r5, r6⟩ := p_J103 O hM (f := f) τ1 hs1 (fun j hj => by rw [q2 10 (by decide)]; exact hf j hj)
    refine ⟨τ', ?_, r2, by rw [r3 10 (by decide) (by decide), q2 10 (by decide)], by rw [r4, q2 0 (by decide)]; exact a1, by rw [r5, q2 0 (by decide), a2]; exact nI_1 _, fun j hj => ?_, fun l hl => ?_⟩
    · unfold gM_looks_J64
      rw [a2, hs.2.2, if_pos e, z_0, q1]
      exact r1
    · rw [r3 11 (by decide) (by decide), q4 j (by omega) hj, (hf j hj).1]
      simp only [if_pos e, if_pos hj]
    · rw [r6 l hl, q2 12 (by decide), a4 l hl]
  · obtain ⟨τ', r1, r2, r3, r4, r5, r6⟩ := p_J103 O hM (f := f) τ hs hf
    refine ⟨τ', ?_, r2, r3 10 (by decide) (by decide), by rw [r4]; exact a1, by rw [r5, a2]; exact nI_1 _, fun j hj => ?_, fun l hl => ?_⟩
    · unfold gM_looks_J64
      rw [a2, hs.2.2, if_neg e]
      exact r1
    · rw [r3 11 (by decide) (by decide), a3 j hj]
      simp only [if_neg e]
    · rw [r6 l hl, a4 l hl]
theorem p_looks {t : Nt} (O : NtOK t) {τ0 : nS} (hM : RM τ0 t) {Q : Qn} (hQ : QM t τ0 Q) {f : Nat → Nat} {k : Nat} (hk : k ≤ 9) {A : MA} (hA1 : A.1 < 2 ^ 31) (τ : nS) (hs : sM τ0 τ) (hf : ∀ j, j < tN t → τ 10 j = nI (f j) ∧ f j < 9) (hA : LA t τ A) : ∃ τ' : nS, gM_looks (nI k) τ = some τ' ∧ sM τ0 τ' ∧ τ' 10 = τ 10 ∧ LA t τ' (leafM t Q (τ0 0 20) (f, k) A) := by
  obtain ⟨w1, w2, w3⟩ := hQ τ f k hs hf hk
  unfold gM_looks leafM
  rw [w1, w2]
  simp only [Option.bind_some]
  cases hW : Q.1 f k with
  | false =>
    rw [if_pos (by rfl), if_pos rfl]
    exact ⟨τ, rfl, hs, rfl, hA⟩
  | true =>
    rw [if_neg (show ¬ zb true = 0 by decide), if_neg (show ¬ (true = false) by decide), hA.1]
    by_cases g : A.1 < Q.2 f
    · rw [if_neg (nI_ge g w3), if_pos g]
      exact ⟨τ, rfl, hs, rfl, hA⟩
    · rw [if_pos (nI_le (by omega) (by omega)), if_neg g]
      by_cases g2 : Q.2 f < A.1
      · rw [if_neg (nI_ge g2 hA1), if_pos g2]
        have h1 : sM τ0 (nst (nst τ 0 18 (nI (Q.2 f))) 0 19 0) := (hs.st (by omega)).st (by omega)
        obtain ⟨τ1, q1, q2, q3, q4⟩ := p_lk43 O.2.1 nFU 0 (nst (nst τ 0 18 (nI (Q.2 f))) 0 19 0) h1 ((hM.keep h1.eq).2.1) (Nat.zero_le _) (by have := O.2.1; unfold nFU; omega)
        have hs1 : sM τ0 τ1 := ⟨fun c a b => by rw [q2 c (by omega)]; exact h1.1 c a b, fun i hi => by rw [q2 0 (by decide)]; exact h1.2.1 i hi, by rw [q2 0 (by decide)]; exact h1.2.2⟩
        obtain ⟨τ', r1, r2, r3, r4⟩ := p_J64 O hM (f := f) (B := (Q.2 f, 0, A.2.2.1, fun _ => 0)) τ1 hs1 (fun j hj => by rw [q2 10 (by decide), n_o (by decide), n_o (by decide)]; exact hf j hj) ⟨by rw [q2 0 (by decide), n_n (by decide), n_s], by rw [q2 0 (by decide), n_s]; rfl, fun j hj => by rw [q2 11 (by decide), n_o (by decide), n_o (by decide)]; exact hA.2.2.1 j hj, fun l hl => q4 l (by omega) hl⟩
        refine ⟨τ', ?_, r2, by rw [r3, q2 10 (by decide), n_o (by decide), n_o (by decide)], r4⟩
        have e : gM_looks_L43 (fun σe_43 => gM_looks_J64 σe_43) nFU (nI 0) (nst (nst τ 0 18 (nI (Q.2 f))) 0 19 0) = some τ' := by rw [q1]; exact r1
        exact e
      · rw [if_pos (nI_le (by omega) (by omega)), if_neg g2]
        exact p_J64 O hM (f := f) τ hs hf hA
theorem leafM_lt {t : Nt} {Q : Qn} {wi : Int32} {x : (Nat → Nat) × Nat} {A : MA} (h : A.1 < 2 ^ 31) : (leafM t Q wi x A).1 < 2 ^ 31 := by
  unfold leafM
  split
  · exact h
  · split
    · exact h
    · by_cases g : Q.2 x.1 < A.1
      · simp only [if_pos g]; omega
      · simp only [if_neg g]; exact h
theorem foldM_lt {t : Nt} {Q : Qn} {wi : Int32} (L : List ((Nat → Nat) × Nat)) : ∀ {A : MA}, A.1 < 2 ^ 31 → (L.foldl (fun A x => leafM t Q wi x A) A).1 < 2 ^ 31 := by
  induction L with
  | nil => intro A h; exact h
  | cons x L ih => intro A h; exact ih (leafM_lt h)
theorem p_parts {t : Nt} (O : NtOK t) {τ0 : nS} (hM : RM τ0 t) {Q : Qn} (hQ : QM t τ0 Q) : ∀ (r d p k : Nat) (f : Nat → Nat) (τ : nS) (A : MA), p + r = tN t → r < d → k ≤ p → sM τ0 τ → (∀ j, j < p → τ 10 j = nI (f j) ∧ f j < 9) → A.1 < 2 ^ 31 → LA t τ A →
    ∃ τ' : nS, gM_parts d (nI p) (nI k) τ = some τ' ∧ sM τ0 τ' ∧ (∀ j, j < p → τ' 10 j = τ 10 j) ∧ LA t τ' ((rgL r p k f).foldl (fun A x => leafM t Q (τ0 0 20) x A) A) := by
  have hN := O.1
  intro r
  induction r with
  | zero =>
    intro d p k f τ A hp hd hk hs hf hA1 hA
    obtain ⟨d, rfl⟩ : ∃ d', d = d' + 1 := ⟨d - 1, by omega⟩
    obtain ⟨τ', q1, q2, q3, q4⟩ := p_looks O hM hQ (f := f) (k := k) (by omega) hA1 τ hs (fun j hj => hf j (by omega)) hA
    refine ⟨τ', ?_, q2, fun j _ => by rw [q3], q4⟩
    rw [gM_parts, (hM.keep hs.eq).1, if_pos (by rw [show p = tN t by omega]), q1]
    rfl
  | succ r ih =>
    intro d p k f τ A hp hd hk hs hf hA1 hA
    obtain ⟨d, rfl⟩ : ∃ d', d = d' + 1 := ⟨d - 1, by omega⟩
    have ip : inb (nI p) 9 := (z_in (by omega)).mpr (by omega)
    have cp : (nI p).toNatClampNeg = p := z_cl (by omega)
    have loop : ∀ (n q : Nat) (τ : nS) (A : MA), q ≤ k + 1 → k + 1 < q + n → sM τ0 τ → (∀ j, j < p → τ 10 j = nI (f j) ∧ f j < 9) → A.1 < 2 ^ 31 → LA t τ A →
        ∃ τ' : nS, (∀ K, gM_parts_L16 (gM_parts d) (nI p) (nI k) K n (nI q) τ = K τ') ∧ sM τ0 τ' ∧ (∀ j, j < p → τ' 10 j = τ 10 j) ∧ LA t τ' ((rgQ r p k f q).foldl (fun A x => leafM t Q (τ0 0 20) x A) A) := by
      intro n
      induction n with
      | zero => intro q τ A h1 h2; omega
      | succ n ihn =>
        intro q τ A h1 h2 hs hf hA1 hA
        by_cases e : q = k + 1
        · subst e
          refine ⟨τ, fun K => ?_, hs, fun _ _ => rfl, by rw [rgQ_e]; exact hA⟩
          rw [gM_parts_L16, if_pos (nI_lt (by omega) (by omega))]
        · have hq : q ≤ k := by omega
          have hs1 : sM τ0 (nst τ 10 p (nI q)) := hs.st (by omega)
          have hf1 : ∀ j, j < p + 1 → (nst τ 10 p (nI q)) 10 j = nI (fu f p q j) ∧ fu f p q j < 9 := fun j hj => by
            by_cases g : j = p
            · subst g; rw [n_s, fu_s]; exact ⟨rfl, by omega⟩
            · rw [n_n g, fu_n g]; exact hf j (by omega)
          have hA2 : LA t (nst τ 10 p (nI q)) A := ⟨by rw [n_o (by decide)]; exact hA.1, by rw [n_o (by decide)]; exact hA.2.1, fun j hj => by rw [n_o (by decide)]; exact hA.2.2.1 j hj, fun l hl => by rw [n_o (by decide)]; exact hA.2.2.2 l hl⟩
          obtain ⟨τ1, q1, q2, q3, q4⟩ := ih d (p + 1) (if q = k then k + 1 else k) (fu f p q) (nst τ 10 p (nI q)) A (by omega) (by omega) (by split <;> omega) hs1 hf1 hA1 hA2
          have h3 : ∀ j, j < p → τ1 10 j = τ 10 j := fun j hj => by rw [q3 j (by omega), n_n (by omega)]
          obtain ⟨τ', r1, r2, r3, r4⟩ := ihn (q + 1) τ1 _ (by omega) (by omega) q2 (fun j hj => by rw [h3 j hj]; exact hf j hj) (foldM_lt _ hA1) q4
          refine ⟨τ', fun K => ?_, r2, fun j hj => by rw [r3 j hj, h3 j hj], by rw [rgQ_s hq, List.foldl_append]; exact r4⟩
          rw [gM_parts_L16, if_neg (nI_nlt (by omega) (by omega)), if_pos ip, cp, ← r1 K]
          by_cases g : q = k
          · rw [if_pos g] at q1
            rw [if_pos (by rw [g]), nI_1, nI_1, q1, Option.bind_some, nI_1]
          · rw [if_neg g] at q1
            rw [if_neg (fun x => g ((z_eq (by omega) (by omega)).mp x)), nI_1, q1, Option.bind_some, nI_1]
    obtain ⟨τ', r1, r2, r3, r4⟩ := loop nFU 0 τ A (by omega) (by unfold nFU; omega) hs hf hA1 hA
    refine ⟨τ', ?_, r2, r3, r4⟩
    rw [gM_parts, (hM.keep hs.eq).1, if_neg (fun x => by have := (z_eq (by omega) (by omega)).mp x; omega), z_0, r1]
