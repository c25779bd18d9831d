def sumN (g : Nat → Nat) : Nat → Nat
  | 0 => 0
  | i + 1 => sumN g i + g i
theorem sumN_le {g : Nat → Nat} {b : Nat} : ∀ n, (∀ i, i < n → g i ≤ b) → sumN g n ≤ b * n := by
  intro n
  induction n with
  | zero => intro _; simp [sumN]
  | succ n ih =>
    intro h
    have h1 := ih (fun i hi => h i (by omega))
    have h2 := h n (by omega)
    rw [sumN, Nat.mul_succ]
    omega
theorem sumN_congr {g h : Nat → Nat} : ∀ n, (∀ i, i < n → g i = h i) → sumN g n = sumN h n := by
  intro n
  induction n with
  | zero => intro _; rfl
  | succ n ih =>
    intro e
    rw [sumN, sumN, ih (fun i hi => e i (by omega)), e n (by omega)]
/-- what line l costs: b says that likings and quarrels are asked for -/
def lc (t : Nt) (b : Bool) (f : Nat → Nat) (l : Nat) : Nat := if tOv t l = true then 0 else if decide (¬ f (tA t l) = f (tB t l)) = (!b || tLk t l) then tC t l else 0
def tCost (t : Nt) (b : Bool) (f : Nat → Nat) : Nat := sumN (lc t b f) (tL t)
theorem lc_le {t : Nt} (O : NtOK t) {b : Bool} {f : Nat → Nat} {l : Nat} (hl : l < tL t) : lc t b f l ≤ 99 := by
  have := (O.2.2.2.2.1 l hl).2.2.2
  unfold lc
  split
  · omega
  · split <;> omega
theorem tCost_le {t : Nt} (O : NtOK t) {b : Bool} {f : Nat → Nat} : tCost t b f ≤ 2376 := by
  have h1 := sumN_le (g := lc t b f) (b := 99) (tL t) (fun l hl => lc_le O (b := b) (f := f) hl)
  have h2 := O.2.1
  unfold tCost
  omega
theorem z01 : ¬ (0 : Int32) = 1 := by decide
theorem p_sumL {t : Nt} (O : NtOK t) {τ : nS} (hM : RM τ t) {f : Nat → Nat} (hf : ∀ j, j < tN t → τ 10 j = nI (f j) ∧ f j < 9) {b : Bool} (hb : τ 0 14 = 4 ↔ b = true) (K : Int32 → Option Int32) : ∀ (n l : Nat), l ≤ tL t → tL t < l + n → gM_sum_L4 τ K n (nI (sumN (lc t b f) l)) (nI l) = K (nI (tCost t b f)) := by
  have hL := O.2.1
  have hN := O.1
  intro n
  induction n with
  | zero => intro l h1 h2; omega
  | succ n ih =>
    intro l h1 h2
    by_cases e : l = tL t
    · subst e
      rw [gM_sum_L4, hM.2.1, if_pos (nI_le (Nat.le_refl _) (by omega))]
      rfl
    · have hl : l < tL t := by omega
      obtain ⟨e2, e3, e5, e6, e7⟩ := hM.2.2.2.2.1 l hl
      obtain ⟨ha, hb2, -⟩ := O.2.2.2.2.1 l hl
      have i24 : inb (nI l) 24 := (z_in (by omega)).mpr (by omega)
      have cl : (nI l).toNatClampNeg = l := z_cl (by omega)
      have ia : inb (nI (tA t l)) 9 := (z_in (by omega)).mpr (by omega)
      have ib : inb (nI (tB t l)) 9 := (z_in (by omega)).mpr (by omega)
      have ca : (nI (tA t l)).toNatClampNeg = tA t l := z_cl (by omega)
      have cb : (nI (tB t l)).toNatClampNeg = tB t l := z_cl (by omega)
      obtain ⟨fa, fa2⟩ := hf _ ha
      obtain ⟨fb, fb2⟩ := hf _ hb2
      rw [gM_sum_L4, hM.2.1, if_neg (nI_ge (by omega) (by omega)), ← ih (l + 1) (by omega) (by omega), sumN]
      simp only [if_pos i24, cl, e2, e3, e5, e6, e7, if_pos ia, if_pos ib, ca, cb, fa, fb, nI_1, nI_add, Int32.add_zero, if_neg z01, if_neg z10, if_true]
      cases ho : tOv t l with
      | true =>
        rw [if_neg (by decide)]
        simp [lc, ho]
      | false =>
        rw [if_pos (by rfl)]
        by_cases g : f (tA t l) = f (tB t l)
        · rw [if_pos (by rw [g])]
          cases b with
          | false =>
            rw [if_neg (fun x => by have := hb.mp x; cases this)]
            simp [lc, ho, g]
          | true =>
            rw [if_pos (hb.mpr rfl)]
            cases hk : tLk t l with
            | false => rw [if_pos (by rfl)]; simp [lc, ho, g, hk]
            | true => rw [if_neg (by decide)]; simp [lc, ho, g, hk]
        · rw [if_neg (fun x => g ((z_eq (by omega) (by omega)).mp x))]
          cases b with
          | false =>
            rw [if_neg (fun x => by have := hb.mp x; cases this)]
            simp [lc, ho, g]
          | true =>
            rw [if_pos (hb.mpr rfl)]
            cases hk : tLk t l with
            | false => rw [if_pos (by rfl)]; simp [lc, ho, g, hk]
            | true => rw [if_neg (by decide)]; simp [lc, ho, g, hk]
theorem p_sum {t : Nt} (O : NtOK t) {τ : nS} (hM : RM τ t) {f : Nat → Nat} (hf : ∀ j, j < tN t → τ 10 j = nI (f j) ∧ f j < 9) {b : Bool} (hb : τ 0 14 = 4 ↔ b = true) : gM_sum τ = some (nI (tCost t b f)) := by
  have h := p_sumL O hM hf hb (fun w => some w) nFU 0 (Nat.zero_le _) (by have := O.2.1; unfold nFU; omega)
  unfold gM_sum
  rw [z_0]
  exact h
/-! which are wanted -/
def w_two (x y : Nat) (f : Nat → Nat) (_ : Nat) : Bool := decide (¬ f x = f y)
def w_ends (t : Nt) (f : Nat → Nat) (_ : Nat) : Bool := decide (∀ p, p < tN t → ∀ q, q < p → ¬ (tTe t p = true ∧ tTe t q = true ∧ f p = f q))
def w_apart (t : Nt) (f : Nat → Nat) (_ : Nat) : Bool := decide (∀ s, s < tK t → ¬ f (tX t s) = f (tY t s))
def w_pieces (k0 : Nat) (_ : Nat → Nat) (k : Nat) : Bool := decide (k = k0)
def w_all (_ : Nat → Nat) (_ : Nat) : Bool := true
theorem p_w76 {t : Nt} (O : NtOK t) {τ : nS} (hM : RM τ t) {f : Nat → Nat} (hf : ∀ j, j < tN t → τ 10 j = nI (f j) ∧ f j < 9) {p : Nat} (hp : p < tN t) : ∀ (n q : Nat) (b : Bool), q ≤ p → p < q + n → ∃ b' : Bool, (∀ K, gM_isWanted_L76 (nI p) τ K n (zb b) (nI q) = K (zb b')) ∧ (b' = true ↔ (b = true ∧ ∀ u, q ≤ u → u < p → ¬ (tTe t p = true ∧ tTe t u = true ∧ f p = f u))) := by
  have hN := O.1
  intro n
  induction n with
  | zero => intro q b h1 h2; omega
  | succ n ih =>
    intro q b h1 h2
    by_cases e : q = p
    · subst e
      refine ⟨b, fun K => ?_, ⟨fun h => ⟨h, fun u h3 h4 => by omega⟩, fun h => h.1⟩⟩
      rw [gM_isWanted_L76, if_pos (nI_le (Nat.le_refl _) (by omega))]
    · have hq : q < p := by omega
      have ip : inb (nI p) 9 := (z_in (by omega)).mpr (by omega)
      have iq : inb (nI q) 9 := (z_in (by omega)).mpr (by omega)
      have cp : (nI p).toNatClampNeg = p := z_cl (by omega)
      have cq : (nI q).toNatClampNeg = q := z_cl (by omega)
      have mp := hM.2.2.2.2.2.2.1 p (by omega)
      have mq := hM.2.2.2.2.2.2.1 q (by omega)
      obtain ⟨fp, fp2⟩ := hf p hp
      obtain ⟨fq, fq2⟩ := hf q (by omega)
      have go : ∀ b1 : Bool, (∀ K, gM_isWanted_L76 (nI p) τ K (n + 1) (zb b) (nI q) = gM_isWanted_L76 (nI p) τ K n (zb b1) (nI (q + 1))) → (b1 = true ↔ (b = true ∧ ¬ (tTe t p = true ∧ tTe t q = true ∧ f p = f q))) → ∃ b' : Bool, (∀ K, gM_isWanted_L76 (nI p) τ K (n + 1) (zb b) (nI q) = K (zb b')) ∧ (b' = true ↔ (b = true ∧ ∀ u, q ≤ u → u < p → ¬ (tTe t p = true ∧ tTe t u = true ∧ f p = f u))) := by
        intro b1 k1 k2
        obtain ⟨b', q1, q2⟩ := ih (q + 1) b1 (by omega) (by omega)
        refine ⟨b', fun K => (k1 K).trans (q1 K), ?_⟩
        rw [q2, k2]
        constructor
        · rintro ⟨⟨h3, h4⟩, h5⟩
          refine ⟨h3, fun u h6 h7 => ?_⟩
          by_cases g : u = q
          · rw [g]; exact h4
          · exact h5 u (by omega) h7
        · rintro ⟨h3, h4⟩
          exact ⟨⟨h3, h4 q (Nat.le_refl _) hq⟩, fun u h6 h7 => h4 u (by omega) h7⟩
      have step : ∀ K, gM_isWanted_L76 (nI p) τ K (n + 1) (zb b) (nI q) = (if zb b = 0 then (gM_isWanted_L76 (nI p) τ K n (0 : Int32) (nI (q + 1))) else (if zb (tTe t p) = 0 then (gM_isWanted_L76 (nI p) τ K n (1 : Int32) (nI (q + 1))) else (if zb (tTe t q) = 0 then (gM_isWanted_L76 (nI p) τ K n (1 : Int32) (nI (q + 1))) else (if nI (f p) = nI (f q) then (gM_isWanted_L76 (nI p) τ K n (0 : Int32) (nI (q + 1))) else (gM_isWanted_L76 (nI p) τ K n (1 : Int32) (nI (q + 1))))))) := fun K => by
        rw [gM_isWanted_L76, if_neg (nI_ge hq (by omega))]
        simp only [if_pos ip, if_pos iq, cp, cq, mp, mq, fp, fq, nI_1]
      cases hb : b with
      | false => rw [hb] at go step; exact go false (fun K => by rw [step, if_pos (by rfl)]; rfl) (by simp)
      | true =>
        rw [hb] at go step
        rcases Bool.eq_false_or_eq_true (tTe t p) with hTp | hTp
        · rcases Bool.eq_false_or_eq_true (tTe t q) with hTq | hTq
          · by_cases g : f p = f q
            · exact go false (fun K => by rw [step, hTp, hTq, if_neg (by decide), if_neg (by decide), if_neg (by decide), if_pos (by rw [g])]; rfl) (by simp [hTp, hTq, g])
            · exact go true (fun K => by rw [step, hTp, hTq, if_neg (by decide), if_neg (by decide), if_neg (by decide), if_neg (fun x => g ((z_eq (by omega) (by omega)).mp x))]; rfl) (by simp [g])
          · exact go true (fun K => by rw [step, hTp, hTq, if_neg (by decide), if_neg (by decide), if_pos (by rfl)]; rfl) (by simp [hTq])
        · exact go true (fun K => by rw [step, hTp, if_neg (by decide), if_pos (by rfl)]; rfl) (by simp [hTp])
theorem p_w65 {t : Nt} (O : NtOK t) {τ : nS} (hM : RM τ t) {f : Nat → Nat} (hf : ∀ j, j < tN t → τ 10 j = nI (f j) ∧ f j < 9) : ∀ (n p : Nat) (b : Bool), p ≤ tN t → tN t < p + n → ∃ b' : Bool, (∀ K, gM_isWanted_L65 τ K n (zb b) (nI p) = K (zb b')) ∧ (b' = true ↔ (b = true ∧ ∀ v, p ≤ v → v < tN t → ∀ u, u < v → ¬ (tTe t v = true ∧ tTe t u = true ∧ f v = f u))) := by
  have hN := O.1
  intro n
  induction n with
  | zero => intro p b h1 h2; omega
  | succ n ih =>
    intro p b h1 h2
    by_cases e : p = tN t
    · subst e
      refine ⟨b, fun K => ?_, ⟨fun h => ⟨h, fun u h3 h4 => by omega⟩, fun h => h.1⟩⟩
      rw [gM_isWanted_L65, hM.1, if_pos (nI_le (Nat.le_refl _) (by omega))]
    · have hp : p < tN t := by omega
      obtain ⟨b1, q1, q2⟩ := p_w76 O hM hf hp nFU 0 b (Nat.zero_le _) (by unfold nFU; omega)
      obtain ⟨b', r1, r2⟩ := ih (p + 1) b1 (by omega) (by omega)
      refine ⟨b', fun K => ?_, ?_⟩
      · rw [gM_isWanted_L65, hM.1, if_neg (nI_ge hp (by omega)), z_0, q1, nI_1]
        exact r1 K
      · rw [r2, q2]
        constructor
        · rintro ⟨⟨h3, h4⟩, h5⟩
          refine ⟨h3, fun v h6 h7 => ?_⟩
          by_cases g : v = p
          · subst g; exact fun u hu => h4 u (by omega) hu
          · exact h5 v (by omega) h7
        · rintro ⟨h3, h4⟩
          exact ⟨⟨h3, fun u _ hu => h4 p (Nat.le_refl _) hp u hu⟩, fun v h6 h7 => h4 v (by omega) h7⟩
theorem p_w143 {t : Nt} (O : NtOK t) {τ : nS} (hM : RM τ t) {f : Nat → Nat} (hf : ∀ j, j < tN t → τ 10 j = nI (f j) ∧ f j < 9) : ∀ (n s : Nat) (b : Bool), s ≤ tK t → tK t < s + n → ∃ b' : Bool, (∀ K, gM_isWanted_L143 τ K n (zb b) (nI s) = K (zb b')) ∧ (b' = true ↔ (b = true ∧ ∀ u, s ≤ u → u < tK t → ¬ f (tX t u) = f (tY t u))) := by
  have hN := O.1
  have hK := O.2.2.1
  intro n
  induction n with
  | zero => intro s b h1 h2; omega
  | succ n ih =>
    intro s b h1 h2
    by_cases e : s = tK t
    · subst e
      refine ⟨b, fun K => ?_, ⟨fun h => ⟨h, fun u h3 h4 => by omega⟩, fun h => h.1⟩⟩
      rw [gM_isWanted_L143, hM.2.2.1, if_pos (nI_le (Nat.le_refl _) (by omega))]
    · have hs : s < tK t := by omega
      obtain ⟨mx, my⟩ := hM.2.2.2.2.2.2.2 s hs
      obtain ⟨ox, oy, -⟩ := O.2.2.2.2.2.2.1 s hs
      have i8 : inb (nI s) 8 := (z_in (by omega)).mpr (by omega)
      have cs : (nI s).toNatClampNeg = s := z_cl (by omega)
      have ix : inb (nI (tX t s)) 9 := (z_in (by omega)).mpr (by omega)
      have iy : inb (nI (tY t s)) 9 := (z_in (by omega)).mpr (by omega)
      have cx : (nI (tX t s)).toNatClampNeg = tX t s := z_cl (by omega)
      have cy : (nI (tY t s)).toNatClampNeg = tY t s := z_cl (by omega)
      obtain ⟨fx, fx2⟩ := hf _ ox
      obtain ⟨fy, fy2⟩ := hf _ oy
      have step : ∀ K, gM_isWanted_L143 τ K (n + 1) (zb b) (nI s) = (if zb b = 0 then (gM_isWanted_L143 τ K n (0 : Int32) (nI (s + 1))) else (if nI (f (tX t s)) = nI (f (tY t s)) then (gM_isWanted_L143 τ K n (0 : Int32) (nI (s + 1))) else (gM_isWanted_L143 τ K n (1 : Int32) (nI (s + 1))))) := fun K => by
        rw [gM_isWanted_L143, hM.2.2.1, if_neg (nI_ge hs (by omega))]
        simp only [if_pos i8, cs, mx, my, if_pos ix, if_pos iy, cx, cy, fx, fy, nI_1]
      have go : ∀ b1 : Bool, (∀ K, gM_isWanted_L143 τ K (n + 1) (zb b) (nI s) = gM_isWanted_L143 τ K n (zb b1) (nI (s + 1))) → (b1 = true ↔ (b = true ∧ ¬ f (tX t s) = f (tY t s))) → ∃ b' : Bool, (∀ K, gM_isWanted_L143 τ K (n + 1) (zb b) (nI s) = K (zb b')) ∧ (b' = true ↔ (b = true ∧ ∀ u, s ≤ u → u < tK t → ¬ f (tX t u) = f (tY t u))) := by
        intro b1 k1 k2
        obtain ⟨b', q1, q2⟩ := ih (s + 1) b1 (by omega) (by omega)
        refine ⟨b', fun K => (k1 K).trans (q1 K), ?_⟩
        rw [q2, k2]
        constructor
        · rintro ⟨⟨h3, h4⟩, h5⟩
          refine ⟨h3, fun u h6 h7 => ?_⟩
          by_cases g : u = s
          · rw [g]; exact h4
          · exact h5 u (by omega) h7
        · rintro ⟨h3, h4⟩
          exact ⟨⟨h3, h4 s (Nat.le_refl _) hs⟩, fun u h6 h7 => h4 u (by omega) h7⟩
      cases hb : b with
      | false => rw [hb] at go step; exact go false (fun K => by rw [step, if_pos (by rfl)]; rfl) (by simp)
      | true =>
        rw [hb] at go step
        by_cases g : f (tX t s) = f (tY t s)
        · exact go false (fun K => by rw [step, if_neg (by decide), if_pos (by rw [g])]; rfl) (by simp [g])
        · exact go true (fun K => by rw [step, if_neg (by decide), if_neg (fun x => g ((z_eq (by omega) (by omega)).mp x))]; rfl) (by simp [g])
theorem sM_f {τ0 τ : nS} (h : sM τ0 τ) {i : Nat} (hi : i < 18) : τ 0 i = τ0 0 i := h.2.1 i hi
theorem QM_two {t : Nt} (O : NtOK t) {τ0 : nS} (hM : RM τ0 t) (h14 : τ0 0 14 = 0) {x y : Nat} (h15 : τ0 0 15 = nI x) (h16 : τ0 0 16 = nI y) (hx : x < tN t) (hy : y < tN t) : QM t τ0 (w_two x y, tCost t false) := by
  have hN := O.1
  intro τ f k hs hf hk
  have hMτ := hM.keep hs.eq
  refine ⟨?_, p_sum O hMτ hf (b := false) (by rw [sM_f hs (by decide), h14]; decide), by have := tCost_le O (b := false) (f := f); show tCost t false f < 2 ^ 31; omega⟩
  obtain ⟨fx, fx2⟩ := hf x hx
  obtain ⟨fy, fy2⟩ := hf y hy
  unfold gM_isWanted
  rw [sM_f hs (by decide), h14, if_pos rfl, sM_f hs (by decide), h15, sM_f hs (by decide), h16, if_pos ((z_in (by omega)).mpr (by omega)), if_pos ((z_in (by omega)).mpr (by omega)), z_cl (by omega), z_cl (by omega), fx, fy]
  show _ = some (zb (w_two x y f k))
  unfold w_two
  by_cases g : f x = f y
  · rw [if_pos (by rw [g]), zb_f (by simpa using g)]
  · rw [if_neg (fun z => g ((z_eq (by omega) (by omega)).mp z)), zb_t (by simpa using g)]
theorem QM_ends {t : Nt} (O : NtOK t) {τ0 : nS} (hM : RM τ0 t) (h14 : τ0 0 14 = 1) : QM t τ0 (w_ends t, tCost t false) := by
  intro τ f k hs hf hk
  have hMτ := hM.keep hs.eq
  refine ⟨?_, p_sum O hMτ hf (b := false) (by rw [sM_f hs (by decide), h14]; decide), by have := tCost_le O (b := false) (f := f); show tCost t false f < 2 ^ 31; omega⟩
  obtain ⟨b', q1, q2⟩ := p_w65 O hMτ hf nFU 0 true (Nat.zero_le _) (by have := O.1; unfold nFU; omega)
  unfold gM_isWanted
  rw [sM_f hs (by decide), h14, if_neg (by decide), if_pos rfl, show (1 : Int32) = zb true from rfl, z_0, q1, if_pos (by rcases zb_z b' with h | h; exact Or.inl h; exact Or.inr h)]
  show _ = some (zb (w_ends t f k))
  have e : b' = w_ends t f k := by
    unfold w_ends
    rw [Bool.eq_iff_iff, q2, decide_eq_true_iff]
    constructor
    · rintro ⟨-, h⟩ p hp q hq; exact h p (by omega) hp q hq
    · intro h; exact ⟨rfl, fun v _ hv u hu => h v hv u hu⟩
  rw [e]
theorem QM_apart {t : Nt} (O : NtOK t) {τ0 : nS} (hM : RM τ0 t) (h14 : τ0 0 14 = 2) : QM t τ0 (w_apart t, tCost t false) := by
  intro τ f k hs hf hk
  have hMτ := hM.keep hs.eq
  refine ⟨?_, p_sum O hMτ hf (b := false) (by rw [sM_f hs (by decide), h14]; decide), by have := tCost_le O (b := false) (f := f); show tCost t false f < 2 ^ 31; omega⟩
  obtain ⟨b', q1, q2⟩ := p_w143 O hMτ hf nFU 0 true (Nat.zero_le _) (by have := O.2.2.1; unfold nFU; omega)
  unfold gM_isWanted
  rw [sM_f hs (by decide), h14, if_neg (by decide), if_neg (by decide), if_pos rfl, show (1 : Int32) = zb true from rfl, z_0, q1, if_pos (by rcases zb_z b' with h | h; exact Or.inl h; exact Or.inr h)]
  show _ = some (zb (w_apart t f k))
  have e : b' = w_apart t f k := by
    unfold w_apart
    rw [Bool.eq_iff_iff, q2, decide_eq_true_iff]
    constructor
    · rintro ⟨-, h⟩ s hs; exact h s (by omega) hs
    · intro h; exact ⟨rfl, fun u _ hu => h u hu⟩
  rw [e]
theorem QM_pieces {t : Nt} (O : NtOK t) {τ0 : nS} (hM : RM τ0 t) (h14 : τ0 0 14 = 3) {k0 : Nat} (h17 : τ0 0 17 = nI k0) (hk0 : k0 ≤ 9) : QM t τ0 (w_pieces k0, tCost t false) := by
  intro τ f k hs hf hk
  have hMτ := hM.keep hs.eq
  refine ⟨?_, p_sum O hMτ hf (b := false) (by rw [sM_f hs (by decide), h14]; decide), by have := tCost_le O (b := false) (f := f); show tCost t false f < 2 ^ 31; omega⟩
  unfold gM_isWanted
  rw [sM_f hs (by decide), h14, if_neg (by decide), if_neg (by decide), if_neg (by decide), if_pos rfl, sM_f hs (by decide), h17]
  show _ = some (zb (w_pieces k0 f k))
  unfold w_pieces
  by_cases g : k = k0
  · rw [if_pos (by rw [g]), zb_t g]
  · rw [if_neg (fun z => g ((z_eq (by omega) (by omega)).mp z)), zb_f g]
theorem QM_liked {t : Nt} (O : NtOK t) {τ0 : nS} (hM : RM τ0 t) (h14 : τ0 0 14 = 4) : QM t τ0 (w_all, tCost t true) := by
  intro τ f k hs hf hk
  have hMτ := hM.keep hs.eq
  refine ⟨?_, p_sum O hMτ hf (b := true) (by rw [sM_f hs (by decide), h14]; decide), by have := tCost_le O (b := true) (f := f); show tCost t true f < 2 ^ 31; omega⟩
  unfold gM_isWanted
  rw [sM_f hs (by decide), h14, if_neg (by decide), if_neg (by decide), if_neg (by decide), if_neg (by decide)]
  rfl
/-! gone through -/
theorem p_goes {t : Nt} (O : NtOK t) {τ : nS} (hM : RM τ t) (what num : Int32) {Q : Qn} (hQ : QM t (nst (nst (nst (nst τ 0 14 what) 0 20 num) 0 18 1000000) 0 19 0) Q) : ∃ τ' : nS, gM_goesThrough what num τ = some τ' ∧ eqM τ τ' ∧ LA t τ' ((rgL (tN t) 0 0 (fun _ => 0)).foldl (fun A x => leafM t Q num x A) (1000000, 0, τ 11, τ 12)) := by
  have e1 : eqM τ (nst (nst (nst (nst τ 0 14 what) 0 20 num) 0 18 1000000) 0 19 0) := (((eqM0 (by decide)).tr (eqM0 (by decide))).tr (eqM0 (by decide))).tr (eqM0 (by decide))
  have hM1 := hM.keep e1
  have h20 : (nst (nst (nst (nst τ 0 14 what) 0 20 num) 0 18 1000000) 0 19 0) 0 20 = num := by rw [n_n (by decide), n_n (by decide), n_s]
  obtain ⟨τ', q1, q2, q3, q4⟩ := p_parts O hM1 hQ (tN t) 11 0 0 (fun _ => 0) (nst (nst (nst (nst τ 0 14 what) 0 20 num) 0 18 1000000) 0 19 0) (1000000, 0, τ 11, τ 12) (by omega) (by have := O.1; omega) (Nat.le_refl _) ⟨fun _ _ _ => rfl, fun _ _ => rfl, rfl⟩ (fun j hj => by omega) (show 1000000 < 2 ^ 31 by decide) ⟨by rw [n_n (by decide), n_s]; rfl, by rw [n_s]; rfl, fun j _ => by rw [n_o (by decide), n_o (by decide), n_o (by decide), n_o (by decide)], fun l _ => by rw [n_o (by decide), n_o (by decide), n_o (by decide), n_o (by decide)]⟩
  rw [h20] at q4
  refine ⟨τ', ?_, e1.tr q2.eq, q4⟩
  unfold gM_goesThrough
  have q1' : gM_parts 11 (0 : Int32) (0 : Int32) (nst (nst (nst (nst τ 0 14 what) 0 20 num) 0 18 1000000) 0 19 0) = some τ' := q1
  rw [q1']
  rfl
