def bt (x : Int32) (i : Nat) : Bool := x.toBitVec.getLsbD i
theorem b_ext {x y : Int32} (h : ∀ i, i < 32 → bt x i = bt y i) : x = y := Int32.toBitVec_inj.mp (BitVec.eq_of_getLsbD_eq (fun i hi => h i hi))
theorem b_or (x y : Int32) (i : Nat) : bt (x ||| y) i = (bt x i || bt y i) := by unfold bt; rw [Int32.toBitVec_or, BitVec.getLsbD_or]
theorem b_and (x y : Int32) (i : Nat) : bt (x &&& y) i = (bt x i && bt y i) := by unfold bt; rw [Int32.toBitVec_and, BitVec.getLsbD_and]
theorem b_xor (x y : Int32) (i : Nat) : bt (x ^^^ y) i = (bt x i ^^ bt y i) := by unfold bt; rw [Int32.toBitVec_xor, BitVec.getLsbD_xor]
theorem b_big {x : Int32} {i : Nat} (h : 32 ≤ i) : bt x i = false := BitVec.getLsbD_of_ge _ _ h
theorem b_m1 : ∀ i, i < 32 → bt (-1) i = true := by decide +kernel
theorem b_0 (i : Nat) : bt 0 i = false := BitVec.getLsbD_zero
theorem s_l : ∀ n, n < 32 → ((nI n &&& 31).toBitVec.smod 32).toNat = n := by decide +kernel
theorem b_shl (n : Nat) (hn : n < 32) (x : Int32) {i : Nat} (hi : i < 32) : bt (x <<< (nI n &&& 31)) i = (decide (n ≤ i) && bt x (i - n)) := by
  unfold bt
  rw [Int32.toBitVec_shiftLeft]
  show (x.toBitVec <<< ((nI n &&& 31).toBitVec.smod 32).toNat).getLsbD i = _
  rw [s_l n hn, BitVec.getLsbD_shiftLeft]
  rcases Nat.lt_or_ge i n with h | h
  · simp [h, Nat.not_le.mpr h]
  · simp [hi, h, Nat.not_lt.mpr h]
theorem b_sshr (n : Nat) (hn : n < 32) (x : Int32) {i : Nat} (hi : i < 32) : bt (x >>> (nI n &&& 31)) i = if n + i < 32 then bt x (n + i) else bt x 31 := by
  unfold bt
  rw [Int32.toBitVec_shiftRight]
  show (x.toBitVec.sshiftRight ((nI n &&& 31).toBitVec.smod 32).toNat).getLsbD i = _
  rw [s_l n hn, BitVec.getLsbD_sshiftRight, BitVec.msb_eq_getLsbD_last]
  simp [hi]
/-! small numbers -/
theorem z_cl {i : Nat} (h : i < 2 ^ 31) : (nI i).toNatClampNeg = i := nI_clamp h
theorem z_in {i n : Nat} (h : i < 2 ^ 31) : inb (nI i) n ↔ i < n := by
  unfold inb
  rw [nI_toInt h]
  omega
theorem z_of {x : Int32} {n : Nat} (h : inb x n) (hn : n < 2 ^ 31) : ∃ j : Nat, j < n ∧ x = nI j := vp_in_of (inb_vp h) hn
theorem z_0 : (0 : Int32) = nI 0 := rfl
theorem z_1 : (1 : Int32) = nI 1 := rfl
theorem z_le {a b : Nat} (ha : a < 2 ^ 31) (hb : b < 2 ^ 31) : nI a ≤ nI b ↔ a ≤ b := nI_leI ha hb
theorem z_lt {a b : Nat} (ha : a < 2 ^ 31) (hb : b < 2 ^ 31) : nI a < nI b ↔ a < b := nI_ltI ha hb
theorem z_eq {a b : Nat} (ha : a < 2 ^ 31) (hb : b < 2 ^ 31) : nI a = nI b ↔ a = b := nI_eq ha hb
/-- a number is below 0, or as many as n, or the j-th of n -/
theorem z_ix (x : Int32) {n : Nat} (hn : n < 2 ^ 31) : (x < 0 ∨ nI n ≤ x) ∨ ∃ j : Nat, j < n ∧ x = nI j := by
  rcases pk_ix x hn with h | h | h
  · exact Or.inl (Or.inl h)
  · exact Or.inl (Or.inr h)
  · exact Or.inr h
/-! stores -/
theorem n_o {σ : nS} {c i c' : Nat} {v : Int32} (h : c' ≠ c) : nst σ c i v c' = σ c' := by simp [nst, h]
theorem n_s {σ : nS} {c i : Nat} {v : Int32} : nst σ c i v c i = v := by simp [nst, upd]
theorem n_n {σ : nS} {c i i' : Nat} {v : Int32} (h : i' ≠ i) : nst σ c i v c i' = σ c i' := by simp [nst, upd, h]
theorem n_g (σ : nS) (c i c' i' : Nat) (v : Int32) : nst σ c i v c' i' = if c' = c ∧ i' = i then v else σ c' i' := by
  by_cases h : c' = c
  · subst h
    by_cases g : i' = i
    · subst g; simp [n_s]
    · simp [n_n g, g]
  · rw [n_o h]; simp [h]
/-! bits -/
theorem h_b0 (x : Int32) : (x &&& 1) = 0 ↔ bt x 0 = false := by
  constructor
  · intro h
    have := congrArg (fun y => bt y 0) h
    simp only [b_and, b_0] at this
    have h1 : bt 1 0 = true := by decide
    rw [h1] at this
    simpa using this
  · intro h
    apply b_ext
    intro i hi
    rw [b_and, b_0]
    by_cases h0 : i = 0
    · subst h0; simp [h]
    · have h1 : bt 1 i = false := by
        have : ∀ i, i < 32 → i ≠ 0 → bt 1 i = false := by decide +kernel
        exact this i hi h0
      simp [h1]
theorem h_bit (x : Int32) {k : Nat} (hk : k < 32) : ((x >>> (nI k &&& 31)) &&& (1 : Int32)) = 0 ↔ bt x k = false := by
  rw [h_b0, b_sshr k hk x (by omega)]
  simp [hk]
theorem h_sh {k i : Nat} (hk : k < 32) : bt ((1 : Int32) <<< (nI k &&& 31)) i = decide (i = k) := by
  by_cases hi : i < 32
  · rw [b_shl k hk 1 hi]
    have h1 : ∀ j, j < 32 → bt 1 j = decide (j = 0) := by decide +kernel
    by_cases h : k ≤ i
    · rw [h1 (i - k) (by omega)]
      simp [h]
      constructor <;> intro h2 <;> omega
    · simp [h]
      omega
  · rw [b_big (by omega)]
    simp
    omega
theorem h_not (x : Int32) {i : Nat} (hi : i < 32) : bt (x ^^^ (-1 : Int32)) i = !bt x i := by
  rw [b_xor, b_m1 i hi]
  simp
theorem h_z (x : Int32) : x = 0 ↔ ∀ i, i < 32 → bt x i = false := by
  constructor
  · intro h i _; rw [h, b_0]
  · intro h; apply b_ext; intro i hi; rw [h i hi, b_0]
/-- the answer 0 or 1 -/
def zb (b : Bool) : Int32 := if b then 1 else 0
theorem zb_0 (b : Bool) : zb b = 0 ↔ b = false := by cases b <;> decide
theorem zb_1 (b : Bool) : zb b = 1 ↔ b = true := by cases b <;> decide
theorem zb_z (b : Bool) : zb b = 0 ∨ zb b = 1 := by cases b <;> decide
theorem zb_eq (a b : Bool) : zb a = zb b ↔ a = b := by cases a <;> cases b <;> decide
theorem zb_and (b : Bool) : zb b &&& 1 = zb b := by cases b <;> decide
theorem p_holds (x : Int32) {k : Nat} (hk : k < 32) (σ : nS) : gC_holds x (nI k) σ = some (zb (bt x k)) := by
  unfold gC_holds
  by_cases h : bt x k = false
  · rw [if_pos ((h_bit x hk).mpr h), h]; rfl
  · rw [if_neg (fun g => h ((h_bit x hk).mp g))]
    simp at h
    rw [h]; rfl
