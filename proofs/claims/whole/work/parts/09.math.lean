/-! PURE WORDS for what the methods answer and leave (nothing of the machine) -/
def sp_b (P : Prop) [Decidable P] : Int32 := if P then 1 else 0
theorem sp_bt {P : Prop} [Decidable P] (h : P) : sp_b P = 1 := if_pos h
theorem sp_bf {P : Prop} [Decidable P] (h : ¬ P) : sp_b P = 0 := if_neg h
theorem sp_bn {P : Prop} [Decidable P] : narrow .boolean (.int (sp_b P)) = .int (sp_b P) := by
  by_cases h : P
  · rw [sp_bt h]; decide
  · rw [sp_bf h]; decide
theorem sp_b0 {P : Prop} [Decidable P] (h : sp_b P = 0) : ¬ P := fun q => by
  rw [sp_bt q] at h
  exact absurd h (by decide)
theorem sp_b1 {P : Prop} [Decidable P] (h : ¬ sp_b P = 0) : P := by
  by_cases q : P
  · exact q
  · exact absurd (sp_bf q) h
/-- a place of a row of n -/
abbrev sp_in (x : Int32) (n : Nat) : Prop := 0 ≤ x.toInt ∧ x.toInt < (n : Int)
theorem sp_in_nI {x : Int32} {n : Nat} (h : sp_in x n) (hn : n < 2 ^ 31) : ∃ j : Nat, j < n ∧ x = nI j := by
  obtain ⟨h1, h2⟩ := h
  refine ⟨x.toInt.toNat, by omega, Int32.toInt_inj.mp ?_⟩
  rw [nI_toInt (by omega)]
  omega
theorem sp_lt0 {x : Int32} : x < 0 ↔ x.toInt < 0 := by
  rw [Int32.lt_iff_toInt_lt]
  have h0 : (0 : Int32).toInt = 0 := by decide
  rw [h0]
theorem sp_le0 {x : Int32} : 0 ≤ x ↔ 0 ≤ x.toInt := by
  rw [Int32.le_iff_toInt_le]
  have h0 : (0 : Int32).toInt = 0 := by decide
  rw [h0]
theorem sp_len {x : Int32} {n : Nat} (hn : n < 2 ^ 31) : nI n ≤ x ↔ (n : Int) ≤ x.toInt := by
  rw [Int32.le_iff_toInt_le, nI_toInt hn]
theorem sp_ltn {x : Int32} {n : Nat} (hn : n < 2 ^ 31) : x < nI n ↔ x.toInt < (n : Int) := by
  rw [Int32.lt_iff_toInt_lt, nI_toInt hn]
theorem sp_nlt {x : Int32} {n : Nat} (hn : n < 2 ^ 31) : nI n < x ↔ (n : Int) < x.toInt := by
  rw [Int32.lt_iff_toInt_lt, nI_toInt hn]
theorem sp_nle {x : Int32} {n : Nat} (hn : n < 2 ^ 31) : x ≤ nI n ↔ x.toInt ≤ (n : Int) := by
  rw [Int32.le_iff_toInt_le, nI_toInt hn]
/-- the first place from i on, among k, that has v -/
def sp_ff (f : Nat → Int32) (v : Int32) : Nat → Nat → Int32
  | 0, _ => -1
  | k + 1, i => if f i = v then nI i else sp_ff f v k (i + 1)
/-- the last place below k that has v -/
def sp_lf (f : Nat → Int32) (v : Int32) : Nat → Int32
  | 0 => -1
  | k + 1 => if f k = v then nI k else sp_lf f v k
/-- how many below k have v -/
def sp_ct (f : Nat → Int32) (v : Int32) : Nat → Nat
  | 0 => 0
  | k + 1 => if f k = v then sp_ct f v k + 1 else sp_ct f v k
theorem sp_ct_le (f : Nat → Int32) (v : Int32) : ∀ k, sp_ct f v k ≤ k
  | 0 => Nat.le_refl 0
  | k + 1 => by
    have := sp_ct_le f v k
    unfold sp_ct
    split <;> omega
def sp_mx (f : Nat → Int32) : Nat → Int32
  | 0 => -2147483648
  | k + 1 => if sp_mx f k < f k then f k else sp_mx f k
def sp_mn (f : Nat → Int32) : Nat → Int32
  | 0 => 2147483647
  | k + 1 => if f k < sp_mn f k then f k else sp_mn f k
/-- does one of k values of g, from j on, stand in f below n -/
def sp_sh (f : Nat → Int32) (n : Nat) (g : Nat → Int32) : Nat → Nat → Int32
  | 0, _ => 0
  | k + 1, j => if sp_ff f (g j) n 0 = -1 then sp_sh f n g k (j + 1) else 1
/-- does g's row of m stand in f at s -/
abbrev sp_st (f g : Nat → Int32) (m s : Nat) : Prop := ∀ j, j < m → f (s + j) = g j
def sp_fp (f g : Nat → Int32) (m : Nat) : Nat → Nat → Int32
  | 0, _ => -1
  | k + 1, s => if sp_st f g m s then nI s else sp_fp f g m k (s + 1)
def sp_lp (f g : Nat → Int32) (m : Nat) : Nat → Int32
  | 0 => -1
  | k + 1 => if sp_st f g m k then nI k else sp_lp f g m k
/-- a row that rises -/
abbrev sp_up (f : Nat → Int32) (n : Nat) : Prop := ∀ k, k < n - 1 → f k < f (k + 1)
def sp_nb (f : Nat → Int32) (v : Int32) : Nat → Nat → Nat
  | 0, i => i
  | k + 1, i => if f i < v then sp_nb f v k (i + 1) else i
def sp_z (f : Nat → Int32) (n w : Nat) : Nat → Int32 := fun k => if n ≤ k ∧ k < w then 0 else f k
def sp_fl (f : Nat → Int32) (n : Nat) (v : Int32) : Nat → Int32 := fun k => if k < n then v else f k
/-- a reversed stretch -/
def sp_rv (f : Nat → Int32) (a b : Nat) : Nat → Int32 := fun k => if a ≤ k ∧ k < b then f (a + b - 1 - k) else f k
/-- the same, t steps on its way -/
def sp_rt (f : Nat → Int32) (a b t : Nat) : Nat → Int32 := fun k => if (a ≤ k ∧ k < a + t) ∨ (b ≤ k + t ∧ k < b) then f (a + b - 1 - k) else f k
theorem sp_rt0 (f : Nat → Int32) (a b : Nat) : sp_rt f a b 0 = f := by
  funext k
  unfold sp_rt
  rw [if_neg (by omega)]
theorem sp_rt_end {f : Nat → Int32} {a b t : Nat} (h : a ≤ b) (h1 : 2 * t ≤ b - a) (h2 : b - a ≤ 2 * t + 1) : sp_rt f a b t = sp_rv f a b := by
  funext k
  unfold sp_rt sp_rv
  by_cases h3 : a ≤ k ∧ k < b
  · rw [if_pos h3]
    by_cases h4 : (a ≤ k ∧ k < a + t) ∨ (b ≤ k + t ∧ k < b)
    · rw [if_pos h4]
    · rw [if_neg h4]
      congr 1
      omega
  · rw [if_neg h3, if_neg (by omega)]
theorem sp_rt_step {f : Nat → Int32} {a b t : Nat} (h : a + t + 1 < b - t) : upd (upd (sp_rt f a b t) (a + t) (sp_rt f a b t (b - 1 - t))) (b - 1 - t) (sp_rt f a b t (a + t)) = sp_rt f a b (t + 1) := by
  have e1 : sp_rt f a b t (a + t) = f (a + t) := by unfold sp_rt; rw [if_neg (by omega)]
  have e2 : sp_rt f a b t (b - 1 - t) = f (b - 1 - t) := by unfold sp_rt; rw [if_neg (by omega)]
  rw [e1, e2]
  funext k
  unfold upd
  by_cases h1 : k = b - 1 - t
  · rw [if_pos h1]
    unfold sp_rt
    rw [if_pos (by omega)]
    congr 1
    omega
  · rw [if_neg h1]
    by_cases h2 : k = a + t
    · rw [if_pos h2]
      unfold sp_rt
      rw [if_pos (by omega)]
      congr 1
      omega
    · rw [if_neg h2]
      unfold sp_rt
      by_cases h3 : (a ≤ k ∧ k < a + t) ∨ (b ≤ k + t ∧ k < b)
      · rw [if_pos h3, if_pos (by omega)]
      · rw [if_neg h3, if_neg (by omega)]
