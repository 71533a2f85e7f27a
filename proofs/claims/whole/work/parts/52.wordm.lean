/-! words: how many, where they begin, how long they are, where the open one begins -/
abbrev wd_S : Type := Nat × (Nat → Nat) × (Nat → Nat) × Nat
abbrev wd_cu (f : Nat → Int32) (a b c : Int32) (p : Nat) : Prop := f p = a ∨ f p = b ∨ f p = c
def wd_close (p : Nat) (S : wd_S) : wd_S := if S.2.2.2 < p then (S.1 + 1, va_up S.2.1 S.1 S.2.2.2, va_up S.2.2.1 S.1 (p - S.2.2.2), p) else (S.1, S.2.1, S.2.2.1, p)
def wd_skip (p : Nat) (S : wd_S) : wd_S := (S.1, S.2.1, S.2.2.1, p)
def wd (f : Nat → Int32) (a b c t : Int32) : Nat → wd_S
  | 0 => (0, fun _ => 0, fun _ => 0, 0)
  | p + 1 => if wd_cu f a b c p then (if t = 0 then wd_skip (p + 1) (wd_close p (wd f a b c t p)) else wd_close (p + 1) (wd_close p (wd f a b c t p))) else wd f a b c t p
theorem wd_no {f : Nat → Int32} {a b c t : Int32} {p : Nat} (h : ¬ wd_cu f a b c p) : wd f a b c t (p + 1) = wd f a b c t p := if_neg h
theorem wd_cut {f : Nat → Int32} {a b c t : Int32} {p : Nat} (h : wd_cu f a b c p) (ht : t = 0) : wd f a b c t (p + 1) = wd_skip (p + 1) (wd_close p (wd f a b c t p)) := by
  show (if wd_cu f a b c p then (if t = 0 then _ else _) else _) = _
  rw [if_pos h, if_pos ht]
theorem wd_kept {f : Nat → Int32} {a b c t : Int32} {p : Nat} (h : wd_cu f a b c p) (ht : ¬ t = 0) : wd f a b c t (p + 1) = wd_close (p + 1) (wd_close p (wd f a b c t p)) := by
  show (if wd_cu f a b c p then (if t = 0 then _ else _) else _) = _
  rw [if_pos h, if_neg ht]
theorem wd_close_beg (p : Nat) (S : wd_S) : (wd_close p S).2.2.2 = p := by
  unfold wd_close
  split <;> rfl
/-- where word j begins among the bytes of all words -/
def wd_st (ln : Nat → Nat) : Nat → Nat
  | 0 => 0
  | j + 1 => wd_st ln j + ln j
theorem wd_st_up (ln : Nat → Nat) (W m : Nat) : ∀ j, j ≤ W → wd_st (va_up ln W m) j = wd_st ln j
  | 0, _ => rfl
  | j + 1, h => by
    have ih := wd_st_up ln W m j (by omega)
    show wd_st (va_up ln W m) j + va_up ln W m j = wd_st ln j + ln j
    rw [ih]
    unfold va_up
    rw [if_neg (by omega)]
theorem wd_st_mono (ln : Nat → Nat) : ∀ d j, wd_st ln j ≤ wd_st ln (j + d)
  | 0, _ => Nat.le_refl _
  | d + 1, j => Nat.le_trans (wd_st_mono ln d j) (Nat.le_add_right _ _)
/-- the desk's two rows hold the words -/
def wd_R (f : Nat → Int32) (p : Nat) (S : wd_S) (bN : Nat) (bF : Nat → Int32) (eN : Nat) (eF : Nat → Int32) : Prop :=
  eN = S.1 ∧ S.2.2.2 ≤ p ∧ S.1 ≤ S.2.2.2 ∧ wd_st S.2.2.1 S.1 ≤ S.2.2.2 ∧ bN = wd_st S.2.2.1 S.1 + (p - S.2.2.2) ∧ (∀ i, i < p - S.2.2.2 → bF (wd_st S.2.2.1 S.1 + i) = f (S.2.2.2 + i)) ∧
  ∀ j, j < S.1 → eF j = nI (wd_st S.2.2.1 (j + 1)) ∧ 1 ≤ S.2.2.1 j ∧ S.2.1 j + S.2.2.1 j ≤ p ∧ ∀ i, i < S.2.2.1 j → bF (wd_st S.2.2.1 j + i) = f (S.2.1 j + i)
theorem wd_R.pre {f : Nat → Int32} {p : Nat} {S : wd_S} {bN eN : Nat} {bF eF : Nat → Int32} (h : wd_R f p S bN bF eN eF) : (eN = 0 → wd_st S.2.2.1 S.1 = 0) ∧ (0 < eN → eF (eN - 1) = nI (wd_st S.2.2.1 S.1)) ∧ wd_st S.2.2.1 S.1 ≤ bN ∧ bN ≤ p ∧ eN ≤ p ∧ (wd_st S.2.2.1 S.1 < bN → eN < p) := by
  obtain ⟨h1, h2, h3, h4, h5, h6, h7⟩ := h
  refine ⟨fun q => ?_, fun q => ?_, by omega, by omega, by omega, fun q => by omega⟩
  · rw [show S.1 = 0 by omega]
    rfl
  · have := (h7 (eN - 1) (by omega)).1
    rw [show eN - 1 + 1 = S.1 by omega] at this
    exact this
theorem wd_R.zero (f : Nat → Int32) (bF eF : Nat → Int32) (a b c t : Int32) : wd_R f 0 (wd f a b c t 0) 0 bF 0 eF :=
  ⟨rfl, Nat.le_refl _, Nat.le_refl _, Nat.le_refl _, rfl, fun i hi => absurd hi (Nat.not_lt_zero i), fun j hj => absurd hj (Nat.not_lt_zero j)⟩
/-- one byte more -/
theorem wd_R.add {f : Nat → Int32} {p : Nat} {S : wd_S} {bN eN : Nat} {bF eF : Nat → Int32} (h : wd_R f p S bN bF eN eF) : wd_R f (p + 1) S (bN + 1) (upd bF bN (f p)) eN eF := by
  obtain ⟨h1, h2, h3, h4, h5, h6, h7⟩ := h
  refine ⟨h1, by omega, h3, h4, by omega, fun i hi => ?_, fun j hj => ?_⟩
  · unfold upd
    by_cases q : wd_st S.2.2.1 S.1 + i = bN
    · rw [if_pos q]
      congr 1
      omega
    · rw [if_neg q]
      exact h6 i (by omega)
  · obtain ⟨g1, g2, g3, g4⟩ := h7 j hj
    refine ⟨g1, g2, by omega, fun i hi => ?_⟩
    have hm := wd_st_mono S.2.2.1 (S.1 - (j + 1)) (j + 1)
    rw [show j + 1 + (S.1 - (j + 1)) = S.1 by omega] at hm
    have hs : wd_st S.2.2.1 (j + 1) = wd_st S.2.2.1 j + S.2.2.1 j := rfl
    unfold upd
    rw [if_neg (by omega)]
    exact g4 i hi
/-- the open word is closed, where it isn't empty -/
theorem wd_R.close {f : Nat → Int32} {p : Nat} {S : wd_S} {bN eN : Nat} {bF eF : Nat → Int32} (h : wd_R f p S bN bF eN eF) : wd_R f p (wd_close p S) bN bF (if wd_st S.2.2.1 S.1 < bN then eN + 1 else eN) (if wd_st S.2.2.1 S.1 < bN then upd eF eN (nI bN) else eF) := by
  obtain ⟨h1, h2, h3, h4, h5, h6, h7⟩ := h
  obtain ⟨W, bg, ln, g⟩ := S
  dsimp only at *
  unfold wd_close
  dsimp only
  by_cases q : g < p
  · rw [if_pos q, if_pos (by omega), if_pos (by omega)]
    have hW : wd_st (va_up ln W (p - g)) W = wd_st ln W := wd_st_up ln W (p - g) W (Nat.le_refl _)
    have hl : va_up ln W (p - g) W = p - g := if_pos rfl
    have hS : wd_st (va_up ln W (p - g)) (W + 1) = wd_st ln W + (p - g) := by
      show wd_st (va_up ln W (p - g)) W + va_up ln W (p - g) W = _
      rw [hW, hl]
    refine ⟨by omega, Nat.le_refl _, by dsimp only; omega, by dsimp only; omega, by dsimp only; omega, fun i hi => absurd hi (by dsimp only; omega), fun j hj => ?_⟩
    dsimp only at hj ⊢
    by_cases hjW : j = W
    · subst hjW
      rw [hS, hl, hW]
      have hb : va_up bg j g j = g := if_pos rfl
      rw [hb]
      refine ⟨?_, by omega, by omega, fun i hi => h6 i hi⟩
      unfold upd
      rw [if_pos (by omega), h5]
    · have hj2 : j < W := by omega
      obtain ⟨g1, g2, g3, g4⟩ := h7 j hj2
      have hb : va_up bg W g j = bg j := if_neg hjW
      have hl2 : va_up ln W (p - g) j = ln j := if_neg hjW
      rw [wd_st_up ln W (p - g) (j + 1) (by omega), wd_st_up ln W (p - g) j (by omega), hb, hl2]
      refine ⟨?_, g2, g3, g4⟩
      unfold upd
      rw [if_neg (by omega)]
      exact g1
  · rw [if_neg q, if_neg (by omega), if_neg (by omega)]
    have hg : g = p := by omega
    subst hg
    exact ⟨h1, Nat.le_refl _, h3, h4, h5, h6, h7⟩
/-- the sign that cut is left out -/
theorem wd_R.skip {f : Nat → Int32} {p : Nat} {S : wd_S} {bN eN : Nat} {bF eF : Nat → Int32} (h : wd_R f p S bN bF eN eF) (hb : S.2.2.2 = p) : wd_R f (p + 1) (wd_skip (p + 1) S) bN bF eN eF := by
  obtain ⟨h1, h2, h3, h4, h5, h6, h7⟩ := h
  obtain ⟨W, bg, ln, g⟩ := S
  dsimp only at *
  unfold wd_skip
  refine ⟨h1, Nat.le_refl _, by dsimp only; omega, by dsimp only; omega, by dsimp only; omega, fun i hi => absurd hi (by dsimp only; omega), fun j hj => ?_⟩
  obtain ⟨g1, g2, g3, g4⟩ := h7 j hj
  exact ⟨g1, g2, by dsimp only; omega, g4⟩
theorem wd_close_id {p : Nat} {S : wd_S} (hb : S.2.2.2 = p) : wd_close p S = S := by
  unfold wd_close
  rw [if_neg (by omega)]
  obtain ⟨W, bg, ln, g⟩ := S
  dsimp only at hb ⊢
  rw [hb]
/-- bounds, from the reference's side alone -/
theorem wd_bd (f : Nat → Int32) (a b c t : Int32) : ∀ p, (wd f a b c t p).2.2.2 ≤ p ∧ (wd f a b c t p).1 ≤ (wd f a b c t p).2.2.2
  | 0 => ⟨Nat.le_refl _, Nat.le_refl _⟩
  | p + 1 => by
    obtain ⟨h1, h2⟩ := wd_bd f a b c t p
    have key : ∀ S : wd_S, S.2.2.2 ≤ p → S.1 ≤ S.2.2.2 → (wd_close p S).2.2.2 = p ∧ (wd_close p S).1 ≤ p := by
      intro S g1 g2
      refine ⟨wd_close_beg p S, ?_⟩
      unfold wd_close
      split
      · show S.1 + 1 ≤ p
        omega
      · show S.1 ≤ p
        omega
    obtain ⟨k1, k2⟩ := key _ h1 h2
    by_cases hc : wd_cu f a b c p
    · by_cases ht : t = 0
      · rw [wd_cut hc ht]
        show p + 1 ≤ p + 1 ∧ _ ≤ p + 1
        exact ⟨Nat.le_refl _, Nat.le_succ_of_le k2⟩
      · rw [wd_kept hc ht]
        generalize wd_close p (wd f a b c t p) = S at k1 k2 ⊢
        refine ⟨by rw [wd_close_beg]; exact Nat.le_refl _, ?_⟩
        rw [wd_close_beg]
        unfold wd_close
        split
        · show S.1 + 1 ≤ p + 1
          omega
        · show S.1 ≤ p + 1
          omega
    · rw [wd_no hc]
      exact ⟨by omega, h2⟩
/-- the reference's arrays -/
def wd_ov (v : Nat → Int32) (W : Nat) (g : Nat → Nat) : Nat → Int32 := fun j => if j < W then nI (g j) else v j
theorem wd_ov0 (v : Nat → Int32) (g : Nat → Nat) : wd_ov v 0 g = v := by
  funext j
  unfold wd_ov
  rw [if_neg (by omega)]
theorem wd_ov_step (v : Nat → Int32) (W : Nat) (g : Nat → Nat) (x : Nat) : upd (wd_ov v W g) W (nI x) = wd_ov v (W + 1) (va_up g W x) := by
  funext j
  unfold upd wd_ov va_up
  by_cases h : j = W
  · rw [if_pos h, if_pos (by omega), if_pos h]
  · rw [if_neg h, if_neg h]
    by_cases h2 : j < W
    · rw [if_pos h2, if_pos (by omega)]
    · rw [if_neg h2, if_neg (by omega)]
