/-! THE PICTURE: the desk at place 0, its rows at 1 .. 8 and 10 .. 13, its words at 9; the reference at 14, its arrays at 15 .. 22 -/
def hp (tN : Nat) (tF : Nat → Int32) (oN : Nat) (oF : Nat → Int32) (rN : Nat) (rF : Nat → Int32) (pN : Nat) (pF : Nat → Int32) (bN : Nat) (bF : Nat → Int32) (eN : Nat) (eF : Nat → Int32) (lo : Int64) (mT mO mW mR mP : Nat) (zT zO zX zB zL zR zP zQ : Nat → Int32) (lm : Int64) : List gg_C :=
  [.inr (0, [.ref 1, .ref 3, .ref 5, .ref 7, .ref 9, .long lo]), .inr (1, [.ref 2, .int (nI tN)]), .inl (400, tF), .inr (1, [.ref 4, .int (nI oN)]), .inl (536, oF), .inr (1, [.ref 6, .int (nI rN)]), .inl (600, rF), .inr (1, [.ref 8, .int (nI pN)]), .inl (600, pF), .inr (2, [.ref 10, .ref 12]), .inr (1, [.ref 11, .int (nI bN)]), .inl (400, bF), .inr (1, [.ref 13, .int (nI eN)]), .inl (400, eF),
   .inr (3, [.ref 15, .ref 16, .ref 17, .ref 18, .ref 19, .ref 20, .ref 21, .ref 22, .int (nI mT), .int (nI mO), .int (nI mW), .int (nI mR), .int (nI mP), .long lm]), .inl (400, zT), .inl (600, zO), .inl (400, zX), .inl (400, zB), .inl (400, zL), .inl (600, zR), .inl (600, zP), .inl (600, zQ)]
section PIC
variable {l : Launch} {D : va_G} {cA : ClassId} {d : Nat} {tN oN rN pN bN eN mT mO mW mR mP : Nat} {tF oF rF pF bF eF zT zO zX zB zL zR zP zQ : Nat → Int32} {lo lm : Int64}
theorem hr_t (h : tN ≤ 400) : gg_row (hp tN tF oN oF rN rF pN pF bN bF eN eF lo mT mO mW mR mP zT zO zX zB zL zR zP zQ lm) 1 2 400 tN tF := ⟨rfl, rfl, h, by decide⟩
theorem hr_o (h : oN ≤ 536) : gg_row (hp tN tF oN oF rN rF pN pF bN bF eN eF lo mT mO mW mR mP zT zO zX zB zL zR zP zQ lm) 3 4 536 oN oF := ⟨rfl, rfl, h, by decide⟩
theorem hr_r (h : rN ≤ 600) : gg_row (hp tN tF oN oF rN rF pN pF bN bF eN eF lo mT mO mW mR mP zT zO zX zB zL zR zP zQ lm) 5 6 600 rN rF := ⟨rfl, rfl, h, by decide⟩
theorem hr_p (h : pN ≤ 600) : gg_row (hp tN tF oN oF rN rF pN pF bN bF eN eF lo mT mO mW mR mP zT zO zX zB zL zR zP zQ lm) 7 8 600 pN pF := ⟨rfl, rfl, h, by decide⟩
theorem hr_b (h : bN ≤ 400) : gg_row (hp tN tF oN oF rN rF pN pF bN bF eN eF lo mT mO mW mR mP zT zO zX zB zL zR zP zQ lm) 10 11 400 bN bF := ⟨rfl, rfl, h, by decide⟩
theorem hr_e (h : eN ≤ 400) : gg_row (hp tN tF oN oF rN rF pN pF bN bF eN eF lo mT mO mW mR mP zT zO zX zB zL zR zP zQ lm) 12 13 400 eN eF := ⟨rfl, rfl, h, by decide⟩
end PIC
theorem sp_in_of {j n : Nat} (h : j < n) (hn : n < 2 ^ 31) : sp_in (nI j) n := by
  refine ⟨?_, ?_⟩ <;> rw [nI_toInt (by omega)] <;> omega
theorem c_Row_room {l : Launch} {D : va_G} {cA : ClassId} {d : Nat} {h : List gg_C} {r a N n k : Nat} {f : Nat → Int32} (hr : gg_row h r a N n f) (hk : k < 2 ^ 31) : gg_K l D cA d y_Row_hasRoomFor b_Row_hasRoomFor 2 (some .boolean) [.ref r, .int (nI k)] h (gg_is (some (.int (sp_b (k + n ≤ N)))) h) := by
  have e : sp_b ((nI k).toInt ≤ (N : Int) - n) = sp_b (k + n ≤ N) := by
    by_cases q : k + n ≤ N
    · rw [sp_bt q, sp_bt (by rw [nI_toInt hk]; omega)]
    · rw [sp_bf q, sp_bf (by rw [nI_toInt hk]; omega)]
  rw [← e]
  exact c_Row_hasRoomFor hr
/-- how far the t-th byte of an int is shifted -/
def sp_s (t : Nat) : Int32 := Int32.ofInt (24 - 8 * (t : Int))
def sp_by (x : Int32) (t : Nat) : Int32 := (x >>> (sp_s t &&& 31)) &&& 255
theorem sp_s_pos : ∀ t, t < 4 → ¬ sp_s t < 0 := by decide +kernel
theorem sp_s_next : ∀ t, t < 4 → sp_s t + (-8) = sp_s (t + 1) := by decide +kernel
theorem sp_s_mo : ∀ t, t < 4 → (24 : Int32) - 8 * nI t = sp_s t := by decide +kernel
theorem sp_and8 (b : BitVec 32) (s : Nat) (hs : s ≤ 24) : (b >>> s) &&& 255#32 = (b.sshiftRight s) &&& 255#32 := by
  apply BitVec.eq_of_getLsbD_eq
  intro i hi
  rw [BitVec.getLsbD_and, BitVec.getLsbD_and, BitVec.getLsbD_ushiftRight, BitVec.getLsbD_sshiftRight]
  by_cases h8 : i < 8
  · simp [show s + i < 32 by omega, show ¬ 32 ≤ i by omega]
  · have : (255#32).getLsbD i = false := by
      rw [BitVec.getLsbD_ofNat]
      have h1 : (255 : Nat) < 2 ^ i := Nat.lt_of_lt_of_le (by decide : (255 : Nat) < 2 ^ 8) (Nat.pow_le_pow_right (by decide) (by omega))
      rw [Nat.testBit_lt_two_pow h1, Bool.and_false]
    rw [this, Bool.and_false, Bool.and_false]
theorem sp_byu (x : Int32) : ∀ t, t < 4 → (x.toUInt32 >>> ((sp_s t).toUInt32 &&& Int32.toUInt32 31)).toInt32 &&& 255 = sp_by x t := by
  intro t ht
  unfold sp_by
  apply Int32.toBitVec_inj.mp
  rw [Int32.toBitVec_and, Int32.toBitVec_and, Int32.toBitVec_shiftRight]
  have e1 : (x.toUInt32 >>> ((sp_s t).toUInt32 &&& Int32.toUInt32 31)).toInt32.toBitVec = x.toBitVec >>> (24 - 8 * t) := by
    show (x.toUInt32 >>> ((sp_s t).toUInt32 &&& Int32.toUInt32 31)).toBitVec = _
    rw [UInt32.toBitVec_shiftRight]
    have e2 : ∀ t, t < 4 → (((sp_s t).toUInt32 &&& Int32.toUInt32 31).toBitVec % 32).toNat = 24 - 8 * t := by decide +kernel
    show x.toBitVec >>> (_ : BitVec 32) = _
    rw [← e2 t ht]
    rfl
  have e3 : ∀ t, t < 4 → ((sp_s t &&& 31).toBitVec.smod 32).toNat = 24 - 8 * t := by decide +kernel
  rw [e1]
  show _ = x.toBitVec.sshiftRight ((sp_s t &&& 31).toBitVec.smod 32).toNat &&& _
  rw [e3 t ht]
  exact sp_and8 x.toBitVec (24 - 8 * t) (by omega)
/-- four bytes laid behind n -/
def sp_fd (f : Nat → Int32) (n : Nat) (x : Int32) : Nat → Int32 := fun k => if n ≤ k ∧ k < n + 4 then sp_by x (k - n) else f k
def sp_ft (f : Nat → Int32) (n : Nat) (x : Int32) (t : Nat) : Nat → Int32 := fun k => if n ≤ k ∧ k < n + t then sp_by x (k - n) else f k
theorem sp_ft0 (f : Nat → Int32) (n : Nat) (x : Int32) : sp_ft f n x 0 = f := by
  funext k
  unfold sp_ft
  rw [if_neg (by omega)]
theorem sp_ft4 (f : Nat → Int32) (n : Nat) (x : Int32) : sp_ft f n x 4 = sp_fd f n x := rfl
theorem sp_ft_step (f : Nat → Int32) (n : Nat) (x : Int32) (t : Nat) : upd (sp_ft f n x t) (n + t) (sp_by x t) = sp_ft f n x (t + 1) := by
  funext k
  unfold upd sp_ft
  by_cases h : k = n + t
  · rw [if_pos h, if_pos (by omega), show k - n = t by omega]
  · rw [if_neg h]
    by_cases h2 : n ≤ k ∧ k < n + t
    · rw [if_pos h2, if_pos (by omega)]
    · rw [if_neg h2, if_neg (by omega)]
