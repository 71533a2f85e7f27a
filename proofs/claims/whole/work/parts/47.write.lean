theorem sp_or (a b : Nat) : nI a ||| nI b = nI (a ||| b) := by
  apply Int32.toBitVec_inj.mp
  rw [Int32.toBitVec_or]
  show BitVec.ofNat 32 a ||| BitVec.ofNat 32 b = BitVec.ofNat 32 (a ||| b)
  apply BitVec.eq_of_toNat_eq
  simp [BitVec.toNat_or, Nat.or_mod_two_pow]
/-- a byte, 0 behind the end; a bit; k bits from p on -/
def wr_b (f : Nat → Int32) (n q : Nat) : Nat := if q < n then ck_b f q else 0
def wr_t (f : Nat → Int32) (n p : Nat) : Nat := wr_b f n (p / 8) / 2 ^ (7 - p % 8) % 2
def wr_h (f : Nat → Int32) (n p : Nat) : Nat → Nat
  | 0 => 0
  | k + 1 => 2 * wr_h f n p k + wr_t f n (p + k)
def wr_B (f : Nat → Int32) (n q : Nat) : Nat → Nat
  | 0 => 0
  | i + 1 => wr_B f n q i * 256 + wr_b f n (q + i)
theorem wr_b_lt {f : Nat → Int32} {n : Nat} (hb : ck_o f n) (q : Nat) : wr_b f n q < 256 := by
  unfold wr_b
  split
  · next h => exact (hb q h).2
  · decide
theorem wr_t_le (f : Nat → Int32) (n p : Nat) : wr_t f n p < 2 := Nat.mod_lt _ (by decide)
theorem wr_h_lt (f : Nat → Int32) (n p : Nat) : ∀ k, wr_h f n p k < 2 ^ k
  | 0 => by
    show (0 : Nat) < 2 ^ 0
    decide
  | k + 1 => by
    have h1 := wr_h_lt f n p k
    have h2 := wr_t_le f n (p + k)
    show 2 * wr_h f n p k + wr_t f n (p + k) < 2 ^ (k + 1)
    rw [Nat.pow_succ]
    omega
theorem wr_B_lt {f : Nat → Int32} {n : Nat} (hb : ck_o f n) (q : Nat) : ∀ i, wr_B f n q i < 256 ^ i
  | 0 => by
    show (0 : Nat) < 256 ^ 0
    decide
  | i + 1 => by
    have h1 := wr_B_lt hb q i
    have h2 := wr_b_lt hb (q + i)
    show wr_B f n q i * 256 + wr_b f n (q + i) < 256 ^ (i + 1)
    rw [Nat.pow_succ]
    omega
theorem wr_t_at (f : Nat → Int32) (n g c : Nat) (hc : c < 24) : wr_t f n (24 * g + c) = wr_b f n (3 * g + c / 8) / 2 ^ (7 - c % 8) % 2 := by
  unfold wr_t
  rw [show (24 * g + c) / 8 = 3 * g + c / 8 by omega, show (24 * g + c) % 8 = c % 8 by omega]
theorem wr_eq0 {f : Nat → Int32} {n : Nat} (hb : ck_o f n) (g : Nat) : wr_B f n (3 * g) 3 / 2 ^ 18 % 64 = wr_h f n (24 * g + 0) 6 := by
  have e : wr_h f n (24 * g + 0) 6 = (2 * (2 * (2 * (2 * (2 * (2 * 0 + wr_t f n (24 * g + 0)) + wr_t f n (24 * g + 1)) + wr_t f n (24 * g + 2)) + wr_t f n (24 * g + 3)) + wr_t f n (24 * g + 4)) + wr_t f n (24 * g + 5)) := rfl
  have eB : wr_B f n (3 * g) 3 = ((0 * 256 + wr_b f n (3 * g + 0)) * 256 + wr_b f n (3 * g + 1)) * 256 + wr_b f n (3 * g + 2) := rfl
  have h0 := wr_b_lt hb (3 * g + 0)
  have h1 := wr_b_lt hb (3 * g + 1)
  have h2 := wr_b_lt hb (3 * g + 2)
  rw [e, eB, wr_t_at f n g 0 (by decide), wr_t_at f n g 1 (by decide), wr_t_at f n g 2 (by decide), wr_t_at f n g 3 (by decide), wr_t_at f n g 4 (by decide), wr_t_at f n g 5 (by decide)]
  simp only [Nat.reduceDiv, Nat.reduceMod, Nat.reduceSub, Nat.reducePow]
  generalize wr_b f n (3 * g + 0) = b0 at *
  generalize wr_b f n (3 * g + 1) = b1 at *
  generalize wr_b f n (3 * g + 2) = b2 at *
  omega
theorem wr_eq1 {f : Nat → Int32} {n : Nat} (hb : ck_o f n) (g : Nat) : wr_B f n (3 * g) 3 / 2 ^ 12 % 64 = wr_h f n (24 * g + 6) 6 := by
  have e : wr_h f n (24 * g + 6) 6 = (2 * (2 * (2 * (2 * (2 * (2 * 0 + wr_t f n (24 * g + 6)) + wr_t f n (24 * g + 7)) + wr_t f n (24 * g + 8)) + wr_t f n (24 * g + 9)) + wr_t f n (24 * g + 10)) + wr_t f n (24 * g + 11)) := rfl
  have eB : wr_B f n (3 * g) 3 = ((0 * 256 + wr_b f n (3 * g + 0)) * 256 + wr_b f n (3 * g + 1)) * 256 + wr_b f n (3 * g + 2) := rfl
  have h0 := wr_b_lt hb (3 * g + 0)
  have h1 := wr_b_lt hb (3 * g + 1)
  have h2 := wr_b_lt hb (3 * g + 2)
  rw [e, eB, wr_t_at f n g 6 (by decide), wr_t_at f n g 7 (by decide), wr_t_at f n g 8 (by decide), wr_t_at f n g 9 (by decide), wr_t_at f n g 10 (by decide), wr_t_at f n g 11 (by decide)]
  simp only [Nat.reduceDiv, Nat.reduceMod, Nat.reduceSub, Nat.reducePow]
  generalize wr_b f n (3 * g + 0) = b0 at *
  generalize wr_b f n (3 * g + 1) = b1 at *
  generalize wr_b f n (3 * g + 2) = b2 at *
  omega
theorem wr_eq2 {f : Nat → Int32} {n : Nat} (hb : ck_o f n) (g : Nat) : wr_B f n (3 * g) 3 / 2 ^ 6 % 64 = wr_h f n (24 * g + 12) 6 := by
  have e : wr_h f n (24 * g + 12) 6 = (2 * (2 * (2 * (2 * (2 * (2 * 0 + wr_t f n (24 * g + 12)) + wr_t f n (24 * g + 13)) + wr_t f n (24 * g + 14)) + wr_t f n (24 * g + 15)) + wr_t f n (24 * g + 16)) + wr_t f n (24 * g + 17)) := rfl
  have eB : wr_B f n (3 * g) 3 = ((0 * 256 + wr_b f n (3 * g + 0)) * 256 + wr_b f n (3 * g + 1)) * 256 + wr_b f n (3 * g + 2) := rfl
  have h0 := wr_b_lt hb (3 * g + 0)
  have h1 := wr_b_lt hb (3 * g + 1)
  have h2 := wr_b_lt hb (3 * g + 2)
  rw [e, eB, wr_t_at f n g 12 (by decide), wr_t_at f n g 13 (by decide), wr_t_at f n g 14 (by decide), wr_t_at f n g 15 (by decide), wr_t_at f n g 16 (by decide), wr_t_at f n g 17 (by decide)]
  simp only [Nat.reduceDiv, Nat.reduceMod, Nat.reduceSub, Nat.reducePow]
  generalize wr_b f n (3 * g + 0) = b0 at *
  generalize wr_b f n (3 * g + 1) = b1 at *
  generalize wr_b f n (3 * g + 2) = b2 at *
  omega
theorem wr_eq3 {f : Nat → Int32} {n : Nat} (hb : ck_o f n) (g : Nat) : wr_B f n (3 * g) 3 / 2 ^ 0 % 64 = wr_h f n (24 * g + 18) 6 := by
  have e : wr_h f n (24 * g + 18) 6 = (2 * (2 * (2 * (2 * (2 * (2 * 0 + wr_t f n (24 * g + 18)) + wr_t f n (24 * g + 19)) + wr_t f n (24 * g + 20)) + wr_t f n (24 * g + 21)) + wr_t f n (24 * g + 22)) + wr_t f n (24 * g + 23)) := rfl
  have eB : wr_B f n (3 * g) 3 = ((0 * 256 + wr_b f n (3 * g + 0)) * 256 + wr_b f n (3 * g + 1)) * 256 + wr_b f n (3 * g + 2) := rfl
  have h0 := wr_b_lt hb (3 * g + 0)
  have h1 := wr_b_lt hb (3 * g + 1)
  have h2 := wr_b_lt hb (3 * g + 2)
  rw [e, eB, wr_t_at f n g 18 (by decide), wr_t_at f n g 19 (by decide), wr_t_at f n g 20 (by decide), wr_t_at f n g 21 (by decide), wr_t_at f n g 22 (by decide), wr_t_at f n g 23 (by decide)]
  simp only [Nat.reduceDiv, Nat.reduceMod, Nat.reduceSub, Nat.reducePow]
  generalize wr_b f n (3 * g + 0) = b0 at *
  generalize wr_b f n (3 * g + 1) = b1 at *
  generalize wr_b f n (3 * g + 2) = b2 at *
  omega
theorem wr_eq {f : Nat → Int32} {n : Nat} (hb : ck_o f n) (g i : Nat) (hi : i < 4) : wr_B f n (3 * g) 3 / 2 ^ (18 - 6 * i) % 64 = wr_h f n (6 * (4 * g + i)) 6 := by
  rcases (show i = 0 ∨ i = 1 ∨ i = 2 ∨ i = 3 by omega) with rfl | rfl | rfl | rfl
  · rw [show 6 * (4 * g + 0) = 24 * g + 0 by omega]; exact wr_eq0 hb g
  · rw [show 6 * (4 * g + 1) = 24 * g + 6 by omega]; exact wr_eq1 hb g
  · rw [show 6 * (4 * g + 2) = 24 * g + 12 by omega]; exact wr_eq2 hb g
  · rw [show 6 * (4 * g + 3) = 24 * g + 18 by omega]; exact wr_eq3 hb g
/-- q signs laid over u -/
def wr_o (u f : Nat → Int32) (n : Nat) (z : Bool) (q : Nat) : Nat → Int32 := fun k => if k < q then sg_i (nI (wr_h f n (6 * k) 6)) z else u k
theorem wr_o0 (u f : Nat → Int32) (n : Nat) (z : Bool) : wr_o u f n z 0 = u := by
  funext k
  unfold wr_o
  rw [if_neg (by omega)]
theorem wr_o_step (u f : Nat → Int32) (n : Nat) (z : Bool) (q : Nat) : upd (wr_o u f n z q) q (sg_i (nI (wr_h f n (6 * q) 6)) z) = wr_o u f n z (q + 1) := by
  funext k
  unfold upd wr_o
  by_cases h : k = q
  · subst h
    rw [if_pos rfl, if_pos (by omega)]
  · rw [if_neg h]
    by_cases h2 : k < q
    · rw [if_pos h2, if_pos (by omega)]
    · rw [if_neg h2, if_neg (by omega)]
/-- how many signs, with what is filled up -/
def wr_K (n : Nat) : Nat := (8 * n + 5) / 6
def wr_M (n : Nat) (t : Int32) : Nat := if t = 0 then (wr_K n + 3) / 4 * 4 else wr_K n
/-- u more filled up -/
def wr_p (v : Nat → Int32) (a u : Nat) : Nat → Int32 := fun k => if a ≤ k ∧ k < a + u then 61 else v k
theorem wr_p0 (v : Nat → Int32) (a : Nat) : wr_p v a 0 = v := by
  funext k
  unfold wr_p
  rw [if_neg (by omega)]
theorem wr_p_step (v : Nat → Int32) (a u : Nat) : upd (wr_p v a u) (a + u) 61 = wr_p v a (u + 1) := by
  funext k
  unfold upd wr_p
  by_cases h : k = a + u
  · rw [if_pos h, if_pos (by omega)]
  · rw [if_neg h]
    by_cases h2 : a ≤ k ∧ k < a + u
    · rw [if_pos h2, if_pos (by omega)]
    · rw [if_neg h2, if_neg (by omega)]
theorem wr_shr : ∀ q, q < 8 → ((nI (7 - q) &&& 31).toBitVec.smod 32).toNat = 7 - q := by decide +kernel
theorem wr_ush : ∀ i, i < 4 → ((((18 : Int32) - 6 * nI i).toUInt32 &&& Int32.toUInt32 31).toBitVec % 32).toNat = 18 - 6 * i := by decide +kernel
theorem wr_or {B c : Nat} (hB : B < 256 * 256) (hc : c < 256) : nI B <<< (8 &&& 31) ||| nI c = nI (B * 256 + c) := by
  rw [pk_shlN (8 &&& 31) 8 (by decide) (by omega), sp_or]
  congr 1
  rw [← Nat.shiftLeft_eq, ← Nat.shiftLeft_add_eq_or_of_lt (by omega), Nat.shiftLeft_eq]
theorem wr_min {b : Nat} (hb : b < 2 ^ 31) : (if nI b < nI 3 then nI b else nI 3) = nI (min 3 b) := by
  by_cases h : nI b < nI 3
  · rw [if_pos h]
    rw [nI_ltI hb (by decide)] at h
    rw [Nat.min_eq_right (by omega)]
  · rw [if_neg h]
    rw [nI_ltI hb (by decide)] at h
    rw [Nat.min_eq_left (by omega)]
/-- how many of a group's four are laid after i; what lies then -/
def wr_c (t : Int32) (T i : Nat) : Nat := if t = 0 then i else min i (T + 1)
def wr_g (u : Nat → Int32) (a B : Nat) (z : Bool) (T c : Nat) : Nat → Int32 := fun k => if a ≤ k ∧ k < a + c then (if k - a ≤ T then sg_i (nI (B / 2 ^ (18 - 6 * (k - a)) % 64)) z else 61) else u k
theorem wr_g0 (u : Nat → Int32) (a B : Nat) (z : Bool) (T : Nat) : wr_g u a B z T 0 = u := by
  funext k
  unfold wr_g
  rw [if_neg (by omega)]
theorem wr_g_sign {u : Nat → Int32} {a B : Nat} {z : Bool} {T i : Nat} (h : i ≤ T) : upd (wr_g u a B z T i) (a + i) (sg_i (nI (B / 2 ^ (18 - 6 * i) % 64)) z) = wr_g u a B z T (i + 1) := by
  funext k
  unfold upd wr_g
  by_cases h1 : k = a + i
  · rw [if_pos h1, if_pos (by omega), if_pos (by omega), show k - a = i by omega]
  · rw [if_neg h1]
    by_cases h2 : a ≤ k ∧ k < a + i
    · rw [if_pos h2, if_pos (show a ≤ k ∧ k < a + (i + 1) by omega)]
    · rw [if_neg h2, if_neg (show ¬ (a ≤ k ∧ k < a + (i + 1)) by omega)]
theorem wr_g_fill {u : Nat → Int32} {a B : Nat} {z : Bool} {T i : Nat} (h : ¬ i ≤ T) : upd (wr_g u a B z T i) (a + i) 61 = wr_g u a B z T (i + 1) := by
  funext k
  unfold upd wr_g
  by_cases h1 : k = a + i
  · rw [if_pos h1, if_pos (by omega), if_neg (by omega)]
  · rw [if_neg h1]
    by_cases h2 : a ≤ k ∧ k < a + i
    · rw [if_pos h2, if_pos (show a ≤ k ∧ k < a + (i + 1) by omega)]
    · rw [if_neg h2, if_neg (show ¬ (a ≤ k ∧ k < a + (i + 1)) by omega)]
/-- what write leaves in the row of the answer -/
def wr_F (u f : Nat → Int32) (n : Nat) (z : Bool) (t : Int32) : Nat → Int32 := wr_p (wr_o u f n z (wr_K n)) (wr_K n) (wr_M n t - wr_K n)
theorem wr_full {u f : Nat → Int32} {n : Nat} (hb : ck_o f n) {z : Bool} {t : Int32} {g : Nat} : wr_g (wr_o u f n z (4 * g)) (4 * g) (wr_B f n (3 * g) 3) z 3 (wr_c t 3 4) = wr_o u f n z (4 * (g + 1)) := by
  have hc : wr_c t 3 4 = 4 := by
    unfold wr_c
    split <;> rfl
  rw [hc]
  funext k
  unfold wr_g wr_o
  by_cases h1 : 4 * g ≤ k ∧ k < 4 * g + 4
  · rw [if_pos h1, if_pos (by omega), if_pos (by omega), wr_eq hb g (k - 4 * g) (by omega), show 4 * g + (k - 4 * g) = k by omega]
  · rw [if_neg h1]
    by_cases h2 : k < 4 * g
    · rw [if_pos h2, if_pos (by omega)]
    · rw [if_neg h2, if_neg (by omega)]
theorem wr_part {u f : Nat → Int32} {n : Nat} (hb : ck_o f n) {z : Bool} {t : Int32} {g T : Nat} (hn : n = 3 * g + T) (h0 : 0 < T) (h3 : T < 3) : wr_g (wr_o u f n z (4 * g)) (4 * g) (wr_B f n (3 * g) 3) z T (wr_c t T 4) = wr_F u f n z t := by
  have hK : wr_K n = 4 * g + (T + 1) := by unfold wr_K; omega
  have hM : wr_M n t = 4 * g + wr_c t T 4 := by
    unfold wr_M wr_c
    rw [hK]
    split <;> omega
  have hc : T + 1 ≤ wr_c t T 4 := by
    unfold wr_c
    split <;> omega
  unfold wr_F
  rw [hK, hM]
  funext k
  unfold wr_g wr_p wr_o
  by_cases h1 : 4 * g ≤ k ∧ k < 4 * g + wr_c t T 4
  · rw [if_pos h1]
    by_cases h2 : k - 4 * g ≤ T
    · rw [if_pos h2, if_neg (by omega), if_pos (by omega), wr_eq hb g (k - 4 * g) (by omega), show 4 * g + (k - 4 * g) = k by omega]
    · rw [if_neg h2, if_pos (by omega)]
  · rw [if_neg h1]
    by_cases h2 : k < 4 * g
    · rw [if_pos h2, if_neg (by omega), if_pos (by omega)]
    · rw [if_neg h2, if_neg (by omega), if_neg (by omega)]
theorem wr_done {u f : Nat → Int32} {n : Nat} {z : Bool} {t : Int32} {g : Nat} (hn : n = 3 * g) : wr_o u f n z (4 * g) = wr_F u f n z t ∧ wr_M n t = 4 * g := by
  have hK : wr_K n = 4 * g := by unfold wr_K; omega
  have hM : wr_M n t = 4 * g := by
    unfold wr_M
    rw [hK]
    split <;> omega
  refine ⟨?_, hM⟩
  unfold wr_F
  rw [hK, hM, Nat.sub_self, wr_p0]
section WRT
variable {l : Launch} {D : va_G} {cA : ClassId} {d : Nat} {tN oN rN pN bN eN mT mO mW mR mP : Nat} {tF oF rF pF bF eF zT zO zX zB zL zR zP zQ : Nat → Int32} {lo lm : Int64}
set_option maxHeartbeats 4000000 in
set_option maxRecDepth 100000 in
theorem c_Mdl_bit  {i : Nat} (hi : i < 2 ^ 20) (ht : mT ≤ 400) (hb : ck_o zT mT) : gg_K l D cA d y_Mdl_bit b_Mdl_bit 3 (some .int) [.ref 14, .int (nI i)] (hp tN tF oN oF rN rF pN pF bN bF eN eF lo mT mO mW mR mP zT zO zX zB zL zR zP zQ lm) (gg_is (some (.int (nI (wr_t zT mT i)))) (hp tN tF oN oF rN rF pN pF bN bF eN eF lo mT mO mW mR mP zT zO zX zB zL zR zP zQ lm)) := by
  refine gg_K.start (L := [some (.ref 14), some (.int (nI i)), none]) rfl (plainFor_of_name (by decide)) rfl (Nat.le_of_ble_eq_true rfl) ?_
  refine gg_iload_n 1 d_Mdl_bit_0 rfl rfl ?_
  refine gg_bipush (v := nI 8) d_Mdl_bit_1 (by decide) ?_
  refine gg_idiv d_Mdl_bit_3 (by decide) ?_
  rw [pk_div (by omega) (by decide) (by decide)]
  refine gg_istore_n 2 d_Mdl_bit_4 rfl (by decide) rfl ?_
  dsimp only [List.set]
  refine gg_iload_n 2 d_Mdl_bit_5 rfl rfl ?_
  refine gg_aload_n 0 d_Mdl_bit_6 rfl rfl ?_
  refine gg_get f_Mdl_34 d_Mdl_bit_7 rfl rfl ?_
  refine gg_icmp_ge 32 d_Mdl_bit_10 (by decide) (fun c10 => ?_) (fun c10 => ?_)
  · rw [nI_leI (by omega) (by omega)] at c10
    refine gg_iconst (v := 0) d_Mdl_bit_32 (by decide) ?_
    exact gg_ireturn d_Mdl_bit_33 rfl rfl ⟨by unfold wr_t wr_b; first | rw [if_pos (by omega)] | (rw [if_neg (by omega)]; simp; rfl), rfl⟩
  · rw [nI_leI (by omega) (by omega)] at c10
    refine gg_aload_n 0 d_Mdl_bit_13 rfl rfl ?_
    refine gg_get f_Mdl_7 d_Mdl_bit_14 rfl rfl ?_
    refine gg_iload_n 2 d_Mdl_bit_17 rfl rfl ?_
    refine gg_iald d_Mdl_bit_18 rfl (by omega) (by decide) ?_
    rw [(hb (i / 8) (by omega)).1]
    refine gg_bipush (v := nI 7) d_Mdl_bit_19 (by decide) ?_
    refine gg_iload_n 1 d_Mdl_bit_21 rfl rfl ?_
    refine gg_bipush (v := nI 8) d_Mdl_bit_22 (by decide) ?_
    refine gg_irem d_Mdl_bit_24 (by decide) ?_
    rw [pk_rem (by omega) (by decide) (by decide)]
    refine gg_isub d_Mdl_bit_25 ?_
    rw [pk_sub (by omega)]
    have hlt := (hb (i / 8) (by omega)).2
    refine gg_ishr d_Mdl_bit_26 ?_
    rw [pk_shrN (by omega) _ (7 - i % 8) (wr_shr (i % 8) (by omega))]
    refine gg_iconst (v := 1) d_Mdl_bit_27 (by decide) ?_
    refine gg_iand d_Mdl_bit_28 ?_
    rw [pk_andN (by have := Nat.div_le_self (ck_b zT (i / 8)) (2 ^ (7 - i % 8)); omega) 1 (by decide)]
    refine gg_goto 33 d_Mdl_bit_29 (by decide) ?_
    exact gg_ireturn d_Mdl_bit_33 rfl rfl ⟨by unfold wr_t wr_b; first | rw [if_pos (by omega)] | (rw [if_neg (by omega)]; simp; rfl), rfl⟩
set_option maxHeartbeats 4000000 in
set_option maxRecDepth 100000 in
theorem c_Mdl_write  {s t : Int32} {z : Bool} (hz : s = 0 ↔ z = true) (ht : mT ≤ 400) (hb : ck_o zT mT) (hd : 1 ≤ d) : gg_K l D cA d y_Mdl_write b_Mdl_write 6 (some .int) [.ref 14, .int s, .int t] (hp tN tF oN oF rN rF pN pF bN bF eN eF lo mT mO mW mR mP zT zO zX zB zL zR zP zQ lm) (gg_is (some (.int (nI (wr_M mT t)))) (hp tN tF oN oF rN rF pN pF bN bF eN eF lo mT (wr_M mT t) mW mR mP zT (wr_F zO zT mT z t) zX zB zL zR zP zQ lm)) := by
  have hK : wr_K mT ≤ 534 := by unfold wr_K; omega
  have hM5 : wr_M mT t ≤ 536 := by unfold wr_M; split <;> omega
  have pad : ∀ k : Nat, ∀ u, t = 0 → wr_M mT t - (wr_K mT + u) = k → wr_K mT + u ≤ wr_M mT t → gg_G l D cA d R_Mdl b_Mdl_write 6 (some .int) (gg_is (some (.int (nI (wr_M mT t)))) (hp tN tF oN oF rN rF pN pF bN bF eN eF lo mT (wr_M mT t) mW mR mP zT (wr_F zO zT mT z t) zX zB zL zR zP zQ lm)) 83 [some (.ref 14), some (.int s), some (.int t), none, none, none] [] ((hp tN tF oN oF rN rF pN pF bN bF eN eF lo mT (wr_K mT + u) mW mR mP zT (wr_p (wr_o zO zT mT z (wr_K mT)) (wr_K mT) u) zX zB zL zR zP zQ lm)) := by
    intro k
    induction k with
    | zero =>
      intro u ht0 hk hu
      refine gg_iload_n 2 d_Mdl_write_83 rfl rfl ?_
      refine gg_if_ne 120 d_Mdl_write_84 (by decide) (fun c84 => ?_) (fun c84 => ?_)
      · exact absurd ht0 c84
      · refine gg_aload_n 0 d_Mdl_write_87 rfl rfl ?_
        refine gg_get f_Mdl_46 d_Mdl_write_88 rfl rfl ?_
        refine gg_iconst (v := nI 4) d_Mdl_write_91 (by decide) ?_
        refine gg_irem d_Mdl_write_92 (by decide) ?_
        rw [pk_rem (by omega) (by decide) (by decide)]
        refine gg_if_eq 120 d_Mdl_write_93 (by decide) (fun c93 => ?_) (fun c93 => ?_)
        · refine gg_aload_n 0 d_Mdl_write_120 rfl rfl ?_
          refine gg_get f_Mdl_46 d_Mdl_write_121 rfl rfl ?_
          exact gg_ireturn d_Mdl_write_124 rfl rfl ⟨by rw [show wr_K mT + u = wr_M mT t by omega], by unfold wr_F; rw [show wr_M mT t - wr_K mT = u by omega, show wr_M mT t = wr_K mT + u by omega]⟩
        · exact absurd (by rw [show (wr_K mT + u) % 4 = 0 by have : wr_M mT t = (wr_K mT + 3) / 4 * 4 := if_pos ht0; omega]; exact nI_0) c93
    | succ k ih =>
      intro u ht0 hk hu
      refine gg_iload_n 2 d_Mdl_write_83 rfl rfl ?_
      refine gg_if_ne 120 d_Mdl_write_84 (by decide) (fun c84 => ?_) (fun c84 => ?_)
      · exact absurd ht0 c84
      · refine gg_aload_n 0 d_Mdl_write_87 rfl rfl ?_
        refine gg_get f_Mdl_46 d_Mdl_write_88 rfl rfl ?_
        refine gg_iconst (v := nI 4) d_Mdl_write_91 (by decide) ?_
        refine gg_irem d_Mdl_write_92 (by decide) ?_
        rw [pk_rem (by omega) (by decide) (by decide)]
        refine gg_if_eq 120 d_Mdl_write_93 (by decide) (fun c93 => ?_) (fun c93 => ?_)
        · have h9 : wr_M mT t = (wr_K mT + 3) / 4 * 4 := if_pos ht0
          exact absurd c93 (nI_ne0 (by omega) (by omega))
        · refine gg_aload_n 0 d_Mdl_write_96 rfl rfl ?_
          refine gg_get f_Mdl_13 d_Mdl_write_97 rfl rfl ?_
          refine gg_aload_n 0 d_Mdl_write_100 rfl rfl ?_
          refine gg_get f_Mdl_46 d_Mdl_write_101 rfl rfl ?_
          refine gg_bipush (v := 61) d_Mdl_write_104 (by decide) ?_
          refine gg_iast d_Mdl_write_106 rfl (by have h9 : wr_M mT t = (wr_K mT + 3) / 4 * 4 := if_pos ht0; omega) (by decide) ?_
          rw [wr_p_step]
          show gg_G _ _ _ _ _ _ _ _ _ _ _ _ (hp tN tF oN oF rN rF pN pF bN bF eN eF lo mT (wr_K mT + u) mW mR mP zT (wr_p (wr_o zO zT mT z (wr_K mT)) (wr_K mT) (u + 1)) zX zB zL zR zP zQ lm)
          refine gg_aload_n 0 d_Mdl_write_107 rfl rfl ?_
          refine gg_dup d_Mdl_write_108 rfl ?_
          refine gg_get f_Mdl_46 d_Mdl_write_109 rfl rfl ?_
          refine gg_iconst (v := 1) d_Mdl_write_112 (by decide) ?_
          refine gg_iadd d_Mdl_write_113 ?_
          rw [nI_1]
          refine gg_puti u_Mdl_46 d_Mdl_write_114 rfl (Nat.le_of_ble_eq_true rfl) ?_
          dsimp only [List.set]
          show gg_G _ _ _ _ _ _ _ _ _ _ _ _ (hp tN tF oN oF rN rF pN pF bN bF eN eF lo mT (wr_K mT + (u + 1)) mW mR mP zT (wr_p (wr_o zO zT mT z (wr_K mT)) (wr_K mT) (u + 1)) zX zB zL zR zP zQ lm)
          refine gg_goto 83 d_Mdl_write_117 (by decide) ?_
          exact ih (u + 1) ht0 (by omega) (by omega)
  have inner : ∀ k : Nat, ∀ q u, 6 - u = k → u ≤ 6 → q < 600 → (gg_G l D cA d R_Mdl b_Mdl_write 6 (some .int) (gg_is (some (.int (nI (wr_M mT t)))) (hp tN tF oN oF rN rF pN pF bN bF eN eF lo mT (wr_M mT t) mW mR mP zT (wr_F zO zT mT z t) zX zB zL zR zP zQ lm)) 52 [some (.ref 14), some (.int s), some (.int t), some (.int (nI (6 * q))), some (.int (nI (wr_h zT mT (6 * q) 6))), some (.int (nI 6))] [] (hp tN tF oN oF rN rF pN pF bN bF eN eF lo mT q mW mR mP zT (wr_o zO zT mT z q) zX zB zL zR zP zQ lm)) → gg_G l D cA d R_Mdl b_Mdl_write 6 (some .int) (gg_is (some (.int (nI (wr_M mT t)))) (hp tN tF oN oF rN rF pN pF bN bF eN eF lo mT (wr_M mT t) mW mR mP zT (wr_F zO zT mT z t) zX zB zL zR zP zQ lm)) 24 [some (.ref 14), some (.int s), some (.int t), some (.int (nI (6 * q))), some (.int (nI (wr_h zT mT (6 * q) u))), some (.int (nI u))] [] ((hp tN tF oN oF rN rF pN pF bN bF eN eF lo mT q mW mR mP zT (wr_o zO zT mT z q) zX zB zL zR zP zQ lm)) := by
    intro k
    induction k with
    | zero =>
      intro q u hk hu hq hn
      refine gg_iload d_Mdl_write_24 rfl ?_
      refine gg_bipush (v := nI 6) d_Mdl_write_26 (by decide) ?_
      refine gg_icmp_ge 52 d_Mdl_write_28 (by decide) (fun c28 => ?_) (fun c28 => ?_)
      · rw [show u = 6 by omega]
        exact hn
      · exact absurd (nI_le (by omega) (by omega)) c28
    | succ k ih =>
      intro q u hk hu hq hn
      refine gg_iload d_Mdl_write_24 rfl ?_
      refine gg_bipush (v := nI 6) d_Mdl_write_26 (by decide) ?_
      refine gg_icmp_ge 52 d_Mdl_write_28 (by decide) (fun c28 => ?_) (fun c28 => ?_)
      · exact absurd c28 (nI_ge (by omega) (by omega))
      · refine gg_iconst (v := nI 2) d_Mdl_write_31 (by decide) ?_
        refine gg_iload d_Mdl_write_32 rfl ?_
        refine gg_imul d_Mdl_write_34 ?_
        rw [pk_mul]
        refine gg_aload_n 0 d_Mdl_write_35 rfl rfl ?_
        refine gg_iload_n 3 d_Mdl_write_36 rfl rfl ?_
        refine gg_iload d_Mdl_write_37 rfl ?_
        refine gg_iadd d_Mdl_write_39 ?_
        rw [nI_add]
        refine gg_cv1 m_Mdl_49 d_Mdl_write_40 (c_Mdl_bit (d := 0) (by omega) ht hb) rfl rfl rfl rfl (by omega) rfl (Nat.le_of_ble_eq_true rfl) ?_
        refine gg_iadd d_Mdl_write_43 ?_
        refine gg_istore d_Mdl_write_44 (by decide) rfl ?_
        dsimp only [List.set]
        refine gg_iinc (1) d_Mdl_write_46 rfl (by decide) (by decide) rfl ?_
        dsimp only [List.set]
        refine gg_goto 24 d_Mdl_write_49 (by decide) ?_
        rw [nI_1, nI_add]
        exact ih q (u + 1) (by omega) (by omega) hq hn
  have loop : ∀ k : Nat, ∀ q, wr_K mT - q = k → q ≤ wr_K mT → gg_G l D cA d R_Mdl b_Mdl_write 6 (some .int) (gg_is (some (.int (nI (wr_M mT t)))) (hp tN tF oN oF rN rF pN pF bN bF eN eF lo mT (wr_M mT t) mW mR mP zT (wr_F zO zT mT z t) zX zB zL zR zP zQ lm)) 7 [some (.ref 14), some (.int s), some (.int t), some (.int (nI (6 * q))), none, none] [] ((hp tN tF oN oF rN rF pN pF bN bF eN eF lo mT q mW mR mP zT (wr_o zO zT mT z q) zX zB zL zR zP zQ lm)) := by
    intro k
    induction k with
    | zero =>
      intro q hk hq
      refine gg_iload_n 3 d_Mdl_write_7 rfl rfl ?_
      refine gg_bipush (v := nI 8) d_Mdl_write_8 (by decide) ?_
      refine gg_aload_n 0 d_Mdl_write_10 rfl rfl ?_
      refine gg_get f_Mdl_34 d_Mdl_write_11 rfl rfl ?_
      refine gg_imul d_Mdl_write_14 ?_
      rw [pk_mul]
      refine gg_icmp_ge 83 d_Mdl_write_15 (by decide) (fun c15 => ?_) (fun c15 => ?_)
      · rw [show q = wr_K mT by omega]
        refine gg_forget 3 ?_
        dsimp only [List.set]
        by_cases ht0 : t = 0
        · have e0 := pad (wr_M mT t - wr_K mT) 0 ht0 rfl (by have h9 : wr_M mT t = (wr_K mT + 3) / 4 * 4 := if_pos ht0; omega)
          rw [wr_p0] at e0
          exact e0
        · have hM : wr_M mT t = wr_K mT := if_neg ht0
          have hF : wr_F zO zT mT z t = wr_o zO zT mT z (wr_K mT) := by unfold wr_F; rw [hM, Nat.sub_self, wr_p0]
          rw [hM, hF]
          refine gg_iload_n 2 d_Mdl_write_83 rfl rfl ?_
          refine gg_if_ne 120 d_Mdl_write_84 (by decide) (fun c84 => ?_) (fun c84 => ?_)
          · refine gg_aload_n 0 d_Mdl_write_120 rfl rfl ?_
            refine gg_get f_Mdl_46 d_Mdl_write_121 rfl rfl ?_
            exact gg_ireturn d_Mdl_write_124 rfl rfl ⟨rfl, rfl⟩
          · exact absurd c84 ht0
      · exact absurd (nI_le (by unfold wr_K at hk hq; omega) (by omega)) c15
    | succ k ih =>
      intro q hk hq
      refine gg_iload_n 3 d_Mdl_write_7 rfl rfl ?_
      refine gg_bipush (v := nI 8) d_Mdl_write_8 (by decide) ?_
      refine gg_aload_n 0 d_Mdl_write_10 rfl rfl ?_
      refine gg_get f_Mdl_34 d_Mdl_write_11 rfl rfl ?_
      refine gg_imul d_Mdl_write_14 ?_
      rw [pk_mul]
      refine gg_icmp_ge 83 d_Mdl_write_15 (by decide) (fun c15 => ?_) (fun c15 => ?_)
      · exact absurd c15 (nI_ge (by unfold wr_K at hk hq; omega) (by omega))
      · refine gg_iconst (v := 0) d_Mdl_write_18 (by decide) ?_
        refine gg_istore d_Mdl_write_19 (by decide) rfl ?_
        dsimp only [List.set]
        refine gg_iconst (v := 0) d_Mdl_write_21 (by decide) ?_
        refine gg_istore d_Mdl_write_22 (by decide) rfl ?_
        dsimp only [List.set]
        refine inner 6 q 0 rfl (by decide) (by omega) ?_
        refine gg_aload_n 0 d_Mdl_write_52 rfl rfl ?_
        refine gg_get f_Mdl_13 d_Mdl_write_53 rfl rfl ?_
        refine gg_aload_n 0 d_Mdl_write_56 rfl rfl ?_
        refine gg_get f_Mdl_46 d_Mdl_write_57 rfl rfl ?_
        refine gg_iload d_Mdl_write_60 rfl ?_
        refine gg_iload_n 1 d_Mdl_write_62 rfl rfl ?_
        refine gg_cs1 m_Mdl_42 d_Mdl_write_63 (c_Mdl_sign (d := 0) hz) rfl (by omega) rfl (Nat.le_of_ble_eq_true rfl) ?_
        refine gg_iast d_Mdl_write_66 rfl (by omega) (by decide) ?_
        rw [wr_o_step]
        show gg_G _ _ _ _ _ _ _ _ _ _ _ _ (hp tN tF oN oF rN rF pN pF bN bF eN eF lo mT q mW mR mP zT (wr_o zO zT mT z (q + 1)) zX zB zL zR zP zQ lm)
        refine gg_aload_n 0 d_Mdl_write_67 rfl rfl ?_
        refine gg_dup d_Mdl_write_68 rfl ?_
        refine gg_get f_Mdl_46 d_Mdl_write_69 rfl rfl ?_
        refine gg_iconst (v := 1) d_Mdl_write_72 (by decide) ?_
        refine gg_iadd d_Mdl_write_73 ?_
        rw [nI_1]
        refine gg_puti u_Mdl_46 d_Mdl_write_74 rfl (Nat.le_of_ble_eq_true rfl) ?_
        dsimp only [List.set]
        show gg_G _ _ _ _ _ _ _ _ _ _ _ _ (hp tN tF oN oF rN rF pN pF bN bF eN eF lo mT (q + 1) mW mR mP zT (wr_o zO zT mT z (q + 1)) zX zB zL zR zP zQ lm)
        refine gg_iinc (6) d_Mdl_write_77 rfl (by decide) (by decide) rfl ?_
        dsimp only [List.set]
        refine gg_goto 7 d_Mdl_write_80 (by decide) ?_
        rw [show (6 : Int32) = nI 6 from rfl, nI_add]
        refine gg_forget 4 ?_
        refine gg_forget 5 ?_
        dsimp only [List.set]
        exact ih (q + 1) (by omega) (by omega)
  refine gg_K.start (L := [some (.ref 14), some (.int s), some (.int t), none, none, none]) rfl (plainFor_of_name (by decide)) rfl (Nat.le_of_ble_eq_true rfl) ?_
  refine gg_aload_n 0 d_Mdl_write_0 rfl rfl ?_
  refine gg_iconst (v := 0) d_Mdl_write_1 (by decide) ?_
  refine gg_puti u_Mdl_46 d_Mdl_write_2 rfl (Nat.le_of_ble_eq_true rfl) ?_
  dsimp only [List.set]
  show gg_G _ _ _ _ _ _ _ _ _ _ _ _ (hp tN tF oN oF rN rF pN pF bN bF eN eF lo mT 0 mW mR mP zT zO zX zB zL zR zP zQ lm)
  refine gg_iconst (v := 0) d_Mdl_write_5 (by decide) ?_
  refine gg_istore_n 3 d_Mdl_write_6 rfl (by decide) rfl ?_
  dsimp only [List.set]
  have e0 := loop (wr_K mT) 0 rfl (Nat.zero_le _)
  rw [wr_o0] at e0
  exact e0
end WRT
