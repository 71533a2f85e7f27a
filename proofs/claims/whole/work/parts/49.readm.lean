/-- the value of the sign at i, 64: none; how many signs lead -/
def rd_w (f : Nat → Int32) (z : Bool) (i : Nat) : Nat := wh_i (f i) z 64 0
def rd_l (f : Nat → Int32) (z : Bool) : Nat → Nat → Nat
  | 0, i => i
  | k + 1, i => if rd_w f z i = 64 then i else rd_l f z k (i + 1)
theorem rd_l_is {f : Nat → Int32} {z : Bool} {k i : Nat} (h : rd_w f z i = 64) : rd_l f z (k + 1) i = i := if_pos h
theorem rd_l_ne {f : Nat → Int32} {z : Bool} {k i : Nat} (h : ¬ rd_w f z i = 64) : rd_l f z (k + 1) i = rd_l f z k (i + 1) := if_neg h
theorem rd_l_le (f : Nat → Int32) (z : Bool) : ∀ k i, i ≤ rd_l f z k i ∧ rd_l f z k i ≤ i + k
  | 0, i => ⟨Nat.le_refl i, Nat.le_refl i⟩
  | k + 1, i => by
    unfold rd_l
    have := rd_l_le f z k (i + 1)
    split <;> omega
theorem rd_w_le (f : Nat → Int32) (z : Bool) (i : Nat) : rd_w f z i ≤ 64 := wh_le (f i) z 64 0
theorem rd_l_lt (f : Nat → Int32) (z : Bool) : ∀ k i j, i ≤ j → j < rd_l f z k i → rd_w f z j < 64
  | 0, i, j, h1, h2 => absurd h2 (by show ¬ j < i; omega)
  | k + 1, i, j, h1, h2 => by
    unfold rd_l at h2
    have hl := rd_w_le f z i
    by_cases h : rd_w f z i = 64
    · rw [if_pos h] at h2
      omega
    · rw [if_neg h] at h2
      by_cases h3 : j = i
      · subst h3
        omega
      · exact rd_l_lt f z k (i + 1) j (by omega) h2
theorem rd_sx {f : Nat → Int32} {n i : Nat} (hb : ck_o f n) (hi : i < n) (z : Bool) : sx_i (f i) z = if rd_w f z i = 64 then -1 else nI (rd_w f z i) := by
  obtain ⟨h1, h2⟩ := hb i hi
  unfold rd_w
  rw [h1]
  exact sx_wh _ h2 z
/-- may a row of n end so behind q signs -/
abbrev rd_ok (f : Nat → Int32) (n q : Nat) : Prop := ¬ q % 4 = 1 ∧ (n - q = 0 ∨ (¬ q % 4 = 0 ∧ n - q = 4 - q % 4)) ∧ ∀ k, k < n → q ≤ k → f k = 61
/-- the bits that are read -/
def rd_t (w : Nat → Nat) (p : Nat) : Nat := w (p / 6) / 2 ^ (5 - p % 6) % 2
def rd_h (w : Nat → Nat) (p : Nat) : Nat → Nat
  | 0 => 0
  | u + 1 => 2 * rd_h w p u + rd_t w (p + u)
def rd_B (w : Nat → Nat) : Nat → Nat
  | 0 => 0
  | p + 1 => rd_B w p * 64 + w p
theorem rd_t_at (w : Nat → Nat) (a c : Nat) (hc : c < 24) : rd_t w (24 * a + c) = w (4 * a + c / 6) / 2 ^ (5 - c % 6) % 2 := by
  unfold rd_t
  rw [show (24 * a + c) / 6 = 4 * a + c / 6 by omega, show (24 * a + c) % 6 = c % 6 by omega]
theorem rd_h_lt (w : Nat → Nat) (p : Nat) : ∀ k, rd_h w p k < 2 ^ k
  | 0 => by
    show (0 : Nat) < 2 ^ 0
    decide
  | k + 1 => by
    have h1 := rd_h_lt w p k
    have h2 : rd_t w (p + k) < 2 := Nat.mod_lt _ (by decide)
    show 2 * rd_h w p k + rd_t w (p + k) < 2 ^ (k + 1)
    rw [Nat.pow_succ]
    omega
theorem rd_eq0 {w : Nat → Nat} (a : Nat) (h0 : w (4 * a + 0) < 64) (h1 : w (4 * a + 1) < 64) (B : Nat) : (B * 4096 + w (4 * a + 0) * 64 + w (4 * a + 1)) / 2 ^ 4 % 256 = rd_h w (24 * a + 0) 8 := by
  have e : rd_h w (24 * a + 0) 8 = (2 * (2 * (2 * (2 * (2 * (2 * (2 * (2 * 0 + rd_t w (24 * a + 0)) + rd_t w (24 * a + 1)) + rd_t w (24 * a + 2)) + rd_t w (24 * a + 3)) + rd_t w (24 * a + 4)) + rd_t w (24 * a + 5)) + rd_t w (24 * a + 6)) + rd_t w (24 * a + 7)) := rfl
  rw [e, rd_t_at w a 0 (by decide), rd_t_at w a 1 (by decide), rd_t_at w a 2 (by decide), rd_t_at w a 3 (by decide), rd_t_at w a 4 (by decide), rd_t_at w a 5 (by decide), rd_t_at w a 6 (by decide), rd_t_at w a 7 (by decide)]
  simp only [Nat.reduceDiv, Nat.reduceMod, Nat.reduceSub, Nat.reducePow]
  generalize w (4 * a + 0) = b0 at *
  generalize w (4 * a + 1) = b1 at *
  omega
theorem rd_eq1 {w : Nat → Nat} (a : Nat) (h0 : w (4 * a + 1) < 64) (h1 : w (4 * a + 2) < 64) (B : Nat) : (B * 4096 + w (4 * a + 1) * 64 + w (4 * a + 2)) / 2 ^ 2 % 256 = rd_h w (24 * a + 8) 8 := by
  have e : rd_h w (24 * a + 8) 8 = (2 * (2 * (2 * (2 * (2 * (2 * (2 * (2 * 0 + rd_t w (24 * a + 8)) + rd_t w (24 * a + 9)) + rd_t w (24 * a + 10)) + rd_t w (24 * a + 11)) + rd_t w (24 * a + 12)) + rd_t w (24 * a + 13)) + rd_t w (24 * a + 14)) + rd_t w (24 * a + 15)) := rfl
  rw [e, rd_t_at w a 8 (by decide), rd_t_at w a 9 (by decide), rd_t_at w a 10 (by decide), rd_t_at w a 11 (by decide), rd_t_at w a 12 (by decide), rd_t_at w a 13 (by decide), rd_t_at w a 14 (by decide), rd_t_at w a 15 (by decide)]
  simp only [Nat.reduceDiv, Nat.reduceMod, Nat.reduceSub, Nat.reducePow]
  generalize w (4 * a + 1) = b0 at *
  generalize w (4 * a + 2) = b1 at *
  omega
theorem rd_eq2 {w : Nat → Nat} (a : Nat) (h0 : w (4 * a + 2) < 64) (h1 : w (4 * a + 3) < 64) (B : Nat) : (B * 4096 + w (4 * a + 2) * 64 + w (4 * a + 3)) / 2 ^ 0 % 256 = rd_h w (24 * a + 16) 8 := by
  have e : rd_h w (24 * a + 16) 8 = (2 * (2 * (2 * (2 * (2 * (2 * (2 * (2 * 0 + rd_t w (24 * a + 16)) + rd_t w (24 * a + 17)) + rd_t w (24 * a + 18)) + rd_t w (24 * a + 19)) + rd_t w (24 * a + 20)) + rd_t w (24 * a + 21)) + rd_t w (24 * a + 22)) + rd_t w (24 * a + 23)) := rfl
  rw [e, rd_t_at w a 16 (by decide), rd_t_at w a 17 (by decide), rd_t_at w a 18 (by decide), rd_t_at w a 19 (by decide), rd_t_at w a 20 (by decide), rd_t_at w a 21 (by decide), rd_t_at w a 22 (by decide), rd_t_at w a 23 (by decide)]
  simp only [Nat.reduceDiv, Nat.reduceMod, Nat.reduceSub, Nat.reducePow]
  generalize w (4 * a + 2) = b0 at *
  generalize w (4 * a + 3) = b1 at *
  omega
theorem rd_val {w : Nat → Nat} {p : Nat} (hp : ¬ p % 4 = 0) (h : ∀ j, j < p + 1 → w j < 64) : rd_B w (p + 1) / 2 ^ (6 - 2 * (p % 4)) % 256 = rd_h w (8 * (p - (p + 3) / 4)) 8 := by
  obtain ⟨a, i, hi, rfl⟩ : ∃ a i, i < 3 ∧ p = 4 * a + (i + 1) := ⟨p / 4, p % 4 - 1, by omega, by omega⟩
  have e : rd_B w (4 * a + (i + 1) + 1) = rd_B w (4 * a + i) * 4096 + w (4 * a + i) * 64 + w (4 * a + (i + 1)) := by
    show (rd_B w (4 * a + i) * 64 + w (4 * a + i)) * 64 + w (4 * a + (i + 1)) = _
    omega
  rw [e]
  have h0 := h (4 * a + i) (by omega)
  have h1 := h (4 * a + (i + 1)) (by omega)
  rcases (show i = 0 ∨ i = 1 ∨ i = 2 by omega) with rfl | rfl | rfl
  · rw [show 8 * (4 * a + (0 + 1) - (4 * a + (0 + 1) + 3) / 4) = 24 * a + 0 by omega, show (4 * a + (0 + 1)) % 4 = 1 by omega]
    exact rd_eq0 a h0 h1 _
  · rw [show 8 * (4 * a + (1 + 1) - (4 * a + (1 + 1) + 3) / 4) = 24 * a + 8 by omega, show (4 * a + (1 + 1)) % 4 = 2 by omega]
    exact rd_eq1 a h0 h1 _
  · rw [show 8 * (4 * a + (2 + 1) - (4 * a + (2 + 1) + 3) / 4) = 24 * a + 16 by omega, show (4 * a + (2 + 1)) % 4 = 3 by omega]
    exact rd_eq2 a h0 h1 _
/-- c bytes laid over u -/
def rd_F (u : Nat → Int32) (w : Nat → Nat) (c : Nat) : Nat → Int32 := fun k => if k < c then nI (rd_h w (8 * k) 8) else u k
theorem rd_F0 (u : Nat → Int32) (w : Nat → Nat) : rd_F u w 0 = u := by
  funext k
  unfold rd_F
  rw [if_neg (by omega)]
theorem rd_F_step (u : Nat → Int32) (w : Nat → Nat) (c : Nat) : upd (rd_F u w c) c (nI (rd_h w (8 * c) 8)) = rd_F u w (c + 1) := by
  funext k
  unfold upd rd_F
  by_cases h : k = c
  · subst h
    rw [if_pos rfl, if_pos (by omega)]
  · rw [if_neg h]
    by_cases h2 : k < c
    · rw [if_pos h2, if_pos (by omega)]
    · rw [if_neg h2, if_neg (by omega)]
theorem rd_mod (B : Nat) : nI B = nI (B % 2 ^ 32) := by
  apply Int32.toBitVec_inj.mp
  show BitVec.ofNat 32 B = BitVec.ofNat 32 (B % 2 ^ 32)
  apply BitVec.eq_of_toNat_eq
  simp
theorem rd_ush : ∀ i, i < 4 → ((((6 : Int32) - 2 * nI i).toUInt32 &&& Int32.toUInt32 31).toBitVec % 32).toNat = 6 - 2 * i := by decide +kernel
theorem rd_shr : ∀ q, q < 6 → ((nI (5 - q) &&& 31).toBitVec.smod 32).toNat = 5 - q := by decide +kernel
theorem rd_out (B : Nat) {i : Nat} (hi : i < 4) : ((nI B).toUInt32 >>> (((6 : Int32) - 2 * nI i).toUInt32 &&& Int32.toUInt32 31)).toInt32 &&& 255 = nI (B / 2 ^ (6 - 2 * i) % 256) := by
  have hm := Nat.mod_lt B (show 0 < 2 ^ 32 by decide)
  have hd := Nat.div_le_self (B % 2 ^ 32) (2 ^ (6 - 2 * i))
  rw [rd_mod B, pk_ushrN hm _ (6 - 2 * i) (rd_ush i hi), pk_andN (by omega) 8 (by decide)]
  congr 1
  rcases (show i = 0 ∨ i = 1 ∨ i = 2 ∨ i = 3 by omega) with rfl | rfl | rfl | rfl
  · show B % 4294967296 / 64 % 256 = B / 64 % 256
    omega
  · show B % 4294967296 / 16 % 256 = B / 16 % 256
    omega
  · show B % 4294967296 / 4 % 256 = B / 4 % 256
    omega
  · show B % 4294967296 / 1 % 256 = B / 1 % 256
    omega
theorem rd_or (B : Nat) {c : Nat} (hc : c < 64) : nI B <<< (6 &&& 31) ||| nI c = nI (B * 64 + c) := by
  have e : nI B <<< (6 &&& 31) = nI (B * 64) := by
    apply Int32.toBitVec_inj.mp
    rw [Int32.toBitVec_shiftLeft]
    have e2 : (((6 : Int32) &&& 31).toBitVec.smod 32) = 6#32 := by decide +kernel
    rw [e2]
    show (BitVec.ofNat 32 B) <<< (6 : Nat) = BitVec.ofNat 32 (B * 64)
    apply BitVec.eq_of_toNat_eq
    rw [BitVec.toNat_shiftLeft, BitVec.toNat_ofNat, BitVec.toNat_ofNat, Nat.shiftLeft_eq]
    omega
  rw [e, sp_or]
  congr 1
  rw [show B * 64 = B <<< 6 from (Nat.shiftLeft_eq B 6).symm, ← Nat.shiftLeft_add_eq_or_of_lt (by omega)]
