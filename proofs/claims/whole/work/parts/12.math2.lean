/-! PURE WORDS for the reference's loops, and that they are the class's -/
theorem sp_m1 {k : Nat} (hk : k < 2 ^ 31) : ¬ nI k = -1 := by
  intro h
  have h1 := congrArg Int32.toInt h
  rw [nI_toInt hk] at h1
  have h2 : (-1 : Int32).toInt = -1 := by decide
  rw [h2] at h1
  omega
/-! two rows that agree below n -/
abbrev sp_eq (n : Nat) (f g : Nat → Int32) : Prop := ∀ k, k < n → f k = g k
theorem sp_ff_eq {f g : Nat → Int32} {n : Nat} (h : sp_eq n f g) (v : Int32) : ∀ k s, s + k ≤ n → sp_ff f v k s = sp_ff g v k s
  | 0, _, _ => rfl
  | k + 1, s, hs => by
    unfold sp_ff
    rw [h s (by omega), sp_ff_eq h v k (s + 1) (by omega)]
theorem sp_lf_eq {f g : Nat → Int32} {n : Nat} (h : sp_eq n f g) (v : Int32) : ∀ k, k ≤ n → sp_lf f v k = sp_lf g v k
  | 0, _ => rfl
  | k + 1, hs => by
    unfold sp_lf
    rw [h k (by omega), sp_lf_eq h v k (by omega)]
theorem sp_ct_eq {f g : Nat → Int32} {n : Nat} (h : sp_eq n f g) (v : Int32) : ∀ k, k ≤ n → sp_ct f v k = sp_ct g v k
  | 0, _ => rfl
  | k + 1, hs => by
    unfold sp_ct
    rw [h k (by omega), sp_ct_eq h v k (by omega)]
theorem sp_mx_eq {f g : Nat → Int32} {n : Nat} (h : sp_eq n f g) : ∀ k, k ≤ n → sp_mx f k = sp_mx g k
  | 0, _ => rfl
  | k + 1, hs => by
    unfold sp_mx
    rw [h k (by omega), sp_mx_eq h k (by omega)]
theorem sp_mn_eq {f g : Nat → Int32} {n : Nat} (h : sp_eq n f g) : ∀ k, k ≤ n → sp_mn f k = sp_mn g k
  | 0, _ => rfl
  | k + 1, hs => by
    unfold sp_mn
    rw [h k (by omega), sp_mn_eq h k (by omega)]
/-- search -/
def mo_se (f : Nat → Int32) (v : Int32) (n : Nat) : Nat → Int32
  | 0 => -1
  | k + 1 => if f k = v then nI n - nI k else mo_se f v n k
theorem mo_se_lf (f : Nat → Int32) (v : Int32) (n : Nat) : ∀ k, k < 2 ^ 31 → mo_se f v n k = if sp_lf f v k < 0 then -1 else nI n - sp_lf f v k
  | 0, _ => by
    unfold mo_se sp_lf
    rw [if_pos (by decide)]
  | k + 1, hk => by
    unfold mo_se sp_lf
    by_cases h : f k = v
    · rw [if_pos h, if_pos h, if_neg (nI_pos (by omega))]
    · rw [if_neg h, if_neg h]
      exact mo_se_lf f v n k (by omega)
/-- find, the last one up to p -/
def mo_fl (f : Nat → Int32) (v : Int32) (p : Nat) : Nat → Int32
  | 0 => -1
  | k + 1 => if f k = v ∧ k ≤ p then nI k else mo_fl f v p k
theorem mo_fl_lo (f : Nat → Int32) (v : Int32) (p : Nat) : ∀ k, k ≤ p + 1 → mo_fl f v p k = sp_lf f v k
  | 0, _ => rfl
  | k + 1, hk => by
    unfold mo_fl sp_lf
    by_cases h : f k = v
    · rw [if_pos h, if_pos ⟨h, by omega⟩]
    · rw [if_neg h, if_neg (fun q => h q.1)]
      exact mo_fl_lo f v p k (by omega)
theorem mo_fl_lf (f : Nat → Int32) (v : Int32) (p : Nat) : ∀ j, mo_fl f v p (p + 1 + j) = sp_lf f v (p + 1)
  | 0 => mo_fl_lo f v p (p + 1) (Nat.le_refl _)
  | j + 1 => by
    show mo_fl f v p ((p + 1 + j) + 1) = _
    unfold mo_fl
    rw [if_neg (by omega)]
    exact mo_fl_lf f v p j
/-- find, the first one from p on -/
def mo_ff (f : Nat → Int32) (v : Int32) (p : Nat) : Nat → Int32
  | 0 => -1
  | k + 1 => if f k = v ∧ p ≤ k ∧ mo_ff f v p k = -1 then nI k else mo_ff f v p k
theorem sp_ff_end (f : Nat → Int32) (v : Int32) : ∀ k s, s + k < 2 ^ 31 → sp_ff f v (k + 1) s = if sp_ff f v k s = -1 then (if f (s + k) = v then nI (s + k) else -1) else sp_ff f v k s
  | 0, s, _ => by
    show (if f s = v then nI s else -1) = if (-1 : Int32) = -1 then (if f (s + 0) = v then nI (s + 0) else -1) else -1
    rw [if_pos rfl, Nat.add_zero]
  | k + 1, s, hk => by
    have ih := sp_ff_end f v k (s + 1) (by omega)
    have e : sp_ff f v (k + 2) s = if f s = v then nI s else sp_ff f v (k + 1) (s + 1) := rfl
    have e2 : sp_ff f v (k + 1) s = if f s = v then nI s else sp_ff f v k (s + 1) := rfl
    rw [e, e2]
    by_cases h : f s = v
    · rw [if_pos h, if_pos h, if_neg (sp_m1 (by omega))]
    · rw [if_neg h, if_neg h, ih, show s + 1 + k = s + (k + 1) by omega]
theorem mo_ff_lo (f : Nat → Int32) (v : Int32) (p : Nat) : ∀ k, k ≤ p → mo_ff f v p k = -1
  | 0, _ => rfl
  | k + 1, hk => by
    unfold mo_ff
    rw [if_neg (by omega)]
    exact mo_ff_lo f v p k (by omega)
theorem mo_ff_sp (f : Nat → Int32) (v : Int32) (p : Nat) : ∀ j, p + j < 2 ^ 31 → mo_ff f v p (p + j) = sp_ff f v j p
  | 0, _ => mo_ff_lo f v p p (Nat.le_refl _)
  | j + 1, hj => by
    have ih := mo_ff_sp f v p j (by omega)
    show mo_ff f v p ((p + j) + 1) = _
    unfold mo_ff
    rw [ih, sp_ff_end f v j p (by omega)]
    by_cases h1 : sp_ff f v j p = -1
    · rw [if_pos h1]
      by_cases h2 : f (p + j) = v
      · rw [if_pos h2, if_pos ⟨h2, by omega, h1⟩]
      · rw [if_neg h2, if_neg (fun q => h2 q.1), h1]
    · rw [if_neg h1, if_neg (fun q => h1 q.2.2)]
/-- stands somewhere, is counted -/
theorem sp_ff_ct (f : Nat → Int32) (v : Int32) : ∀ k, k < 2 ^ 31 → (sp_ff f v k 0 = -1 ↔ sp_ct f v k = 0)
  | 0, _ => ⟨fun _ => rfl, fun _ => rfl⟩
  | k + 1, hk => by
    have ih := sp_ff_ct f v k (by omega)
    rw [sp_ff_end f v k 0 (by omega), Nat.zero_add]
    unfold sp_ct
    by_cases h1 : sp_ff f v k 0 = -1
    · rw [if_pos h1]
      by_cases h2 : f k = v
      · rw [if_pos h2, if_pos h2]
        exact ⟨fun q => absurd q (sp_m1 (by omega)), fun q => by omega⟩
      · rw [if_neg h2, if_neg h2]
        exact ⟨fun _ => ih.mp h1, fun _ => rfl⟩
    · rw [if_neg h1]
      have h3 : ¬ sp_ct f v k = 0 := fun q => h1 (ih.mpr q)
      refine ⟨fun q => absurd q h1, fun q => ?_⟩
      split at q <;> omega
/-- the row of m stands first at .. -/
def mo_fp (f g : Nat → Int32) (m : Nat) : Nat → Int32
  | 0 => -1
  | k + 1 => if mo_fp f g m k < 0 ∧ sp_st f g m k then nI k else mo_fp f g m k
theorem sp_fp_end (f g : Nat → Int32) (m : Nat) : ∀ k s, s + k < 2 ^ 31 → sp_fp f g m (k + 1) s = if sp_fp f g m k s < 0 then (if sp_st f g m (s + k) then nI (s + k) else -1) else sp_fp f g m k s
  | 0, s, _ => by
    show (if sp_st f g m s then nI s else -1) = if (-1 : Int32) < 0 then (if sp_st f g m (s + 0) then nI (s + 0) else -1) else -1
    rw [if_pos (show (-1 : Int32) < 0 by decide), Nat.add_zero]
  | k + 1, s, hk => by
    have ih := sp_fp_end f g m k (s + 1) (by omega)
    have e : sp_fp f g m (k + 2) s = if sp_st f g m s then nI s else sp_fp f g m (k + 1) (s + 1) := rfl
    have e2 : sp_fp f g m (k + 1) s = if sp_st f g m s then nI s else sp_fp f g m k (s + 1) := rfl
    rw [e, e2]
    by_cases h : sp_st f g m s
    · rw [if_pos h, if_pos h, if_neg (nI_pos (by omega))]
    · rw [if_neg h, if_neg h, ih, show s + 1 + k = s + (k + 1) by omega]
theorem sp_fp_neg (f g : Nat → Int32) (m : Nat) : ∀ k s, s + k < 2 ^ 31 → sp_fp f g m k s < 0 → sp_fp f g m k s = -1
  | 0, _, _, _ => rfl
  | k + 1, s, hk, h => by
    have e2 : sp_fp f g m (k + 1) s = if sp_st f g m s then nI s else sp_fp f g m k (s + 1) := rfl
    rw [e2] at h ⊢
    by_cases h1 : sp_st f g m s
    · rw [if_pos h1] at h
      exact absurd h (nI_pos (by omega))
    · rw [if_neg h1] at h ⊢
      exact sp_fp_neg f g m k (s + 1) (by omega) h
theorem mo_fp_sp (f g : Nat → Int32) (m : Nat) : ∀ k, k < 2 ^ 31 → mo_fp f g m k = sp_fp f g m k 0
  | 0, _ => rfl
  | k + 1, hk => by
    have ih := mo_fp_sp f g m k (by omega)
    unfold mo_fp
    rw [ih, sp_fp_end f g m k 0 (by omega), Nat.zero_add]
    by_cases h1 : sp_fp f g m k 0 < 0
    · rw [if_pos h1]
      by_cases h2 : sp_st f g m k
      · rw [if_pos h2, if_pos ⟨h1, h2⟩]
      · rw [if_neg h2, if_neg (fun q => h2 q.2)]
        exact sp_fp_neg f g m k 0 (by omega) h1
    · rw [if_neg h1, if_neg (fun q => h1 q.1)]
/-- the greatest, the least, from the first one on -/
def mo_mx (f : Nat → Int32) : Nat → Int32
  | 0 => f 0
  | k + 1 => if mo_mx f k < f (k + 1) then f (k + 1) else mo_mx f k
def mo_mn (f : Nat → Int32) : Nat → Int32
  | 0 => f 0
  | k + 1 => if f (k + 1) < mo_mn f k then f (k + 1) else mo_mn f k
theorem mo_mx_sp (f : Nat → Int32) : ∀ k, mo_mx f k = sp_mx f (k + 1)
  | 0 => by
    show f 0 = if (-2147483648 : Int32) < f 0 then f 0 else -2147483648
    by_cases h : (-2147483648 : Int32) < f 0
    · rw [if_pos h]
    · rw [if_neg h]
      rw [Int32.lt_iff_toInt_lt] at h
      apply Int32.toInt_inj.mp
      have h1 : (-2147483648 : Int32).toInt = -2147483648 := by decide
      have h2 := Int32.le_toInt (f 0)
      rw [h1] at h ⊢
      omega
  | k + 1 => by
    have ih := mo_mx_sp f k
    show (if mo_mx f k < f (k + 1) then f (k + 1) else mo_mx f k) = if sp_mx f (k + 1) < f (k + 1) then f (k + 1) else sp_mx f (k + 1)
    rw [ih]
theorem mo_mn_sp (f : Nat → Int32) : ∀ k, mo_mn f k = sp_mn f (k + 1)
  | 0 => by
    show f 0 = if f 0 < (2147483647 : Int32) then f 0 else 2147483647
    by_cases h : f 0 < (2147483647 : Int32)
    · rw [if_pos h]
    · rw [if_neg h]
      rw [Int32.lt_iff_toInt_lt] at h
      apply Int32.toInt_inj.mp
      have h1 : (2147483647 : Int32).toInt = 2147483647 := by decide
      have h2 := Int32.toInt_lt (f 0)
      rw [h1] at h ⊢
      omega
  | k + 1 => by
    have ih := mo_mn_sp f k
    show (if f (k + 1) < mo_mn f k then f (k + 1) else mo_mn f k) = if f (k + 1) < sp_mn f (k + 1) then f (k + 1) else sp_mn f (k + 1)
    rw [ih]
/-- how many lie below v -/
def mo_bl (f : Nat → Int32) (v : Int32) : Nat → Nat
  | 0 => 0
  | k + 1 => if f k < v then mo_bl f v k + 1 else mo_bl f v k
theorem sp_lt_trans {a b c : Int32} (h1 : a < b) (h2 : b < c) : a < c := by
  rw [Int32.lt_iff_toInt_lt] at *
  omega
theorem sp_up_lt {f : Nat → Int32} {n : Nat} (h : sp_up f n) : ∀ d i, i + d + 1 < n → f i < f (i + d + 1)
  | 0, i, hi => h i (by omega)
  | d + 1, i, hi => sp_lt_trans (sp_up_lt h d i (by omega)) (h (i + d + 1) (by omega))
/-- in a row that rises, those below v are the first ones -/
theorem mo_bl_all {f : Nat → Int32} {n : Nat} {v : Int32} (h : sp_up f n) : ∀ k, k < n → f k < v → mo_bl f v (k + 1) = k + 1
  | 0, hk, hv => by
    show (if f 0 < v then 0 + 1 else 0) = 1
    rw [if_pos hv]
  | k + 1, hk, hv => by
    have h1 : f k < v := sp_lt_trans (h k (by omega)) hv
    have ih := mo_bl_all h k (by omega) h1
    show (if f (k + 1) < v then mo_bl f v (k + 1) + 1 else mo_bl f v (k + 1)) = k + 1 + 1
    rw [if_pos hv, ih]
theorem mo_bl_stay {f : Nat → Int32} {n : Nat} {v : Int32} (h : sp_up f n) {i : Nat} (hi : i < n) (hv : ¬ f i < v) : ∀ d, i + d ≤ n → mo_bl f v (i + d) = mo_bl f v i
  | 0, _ => rfl
  | d + 1, hd => by
    have ih := mo_bl_stay h hi hv d (by omega)
    show (if f (i + d) < v then mo_bl f v (i + d) + 1 else mo_bl f v (i + d)) = _
    have h2 : ¬ f (i + d) < v := by
      intro q
      cases d with
      | zero => exact hv q
      | succ d => exact hv (sp_lt_trans (sp_up_lt h d i (by omega)) q)
    rw [if_neg h2, ih]
theorem mo_bl_nb {f : Nat → Int32} {n : Nat} {v : Int32} (h : sp_up f n) : ∀ k i, i + k = n → mo_bl f v i = i → sp_nb f v k i = mo_bl f v n
  | 0, i, hi, hb => by
    have : i = n := by omega
    subst this
    exact hb.symm
  | k + 1, i, hi, hb => by
    show (if f i < v then sp_nb f v k (i + 1) else i) = _
    by_cases h1 : f i < v
    · rw [if_pos h1]
      exact mo_bl_nb h k (i + 1) (by omega) (mo_bl_all h i (by omega) h1)
    · rw [if_neg h1]
      have := mo_bl_stay h (show i < n by omega) h1 (k + 1) (by omega)
      rw [show i + (k + 1) = n by omega] at this
      rw [this, hb]
