/-! bytes -/
def ck_b (f : Nat → Int32) (i : Nat) : Nat := (f i).toNatClampNeg
def ck_o (f : Nat → Int32) (n : Nat) : Prop := ∀ i, i < n → f i = nI (ck_b f i) ∧ ck_b f i < 256
/-! the check's number -/
def ck_s (v : Nat) : Nat := if v % 2 = 1 then (v / 2) ^^^ 2197175160 else v / 2
def ck_r : Nat → Nat → Nat
  | 0, v => v
  | k + 1, v => ck_r k (ck_s v)
def ck_a (t : Nat → Nat) : Nat → Nat → Nat → Nat
  | 0, _, v => v
  | k + 1, i, v => ck_a t k (i + 1) (ck_r 8 (v ^^^ t i))
theorem ck_s_lt {v : Nat} (h : v < 2 ^ 32) : ck_s v < 2 ^ 32 := by
  unfold ck_s
  split
  · exact Nat.xor_lt_two_pow (by omega) (by decide)
  · omega
theorem ck_r_lt : ∀ (k : Nat) {v : Nat}, v < 2 ^ 32 → ck_r k v < 2 ^ 32
  | 0, _, h => h
  | k + 1, _, h => ck_r_lt k (ck_s_lt h)
theorem ck_xor (a b : Nat) : lN a ^^^ lN b = lN (a ^^^ b) := by
  apply Int64.toBitVec_inj.mp
  rw [Int64.toBitVec_xor]
  show BitVec.ofNat 64 a ^^^ BitVec.ofNat 64 b = BitVec.ofNat 64 (a ^^^ b)
  apply BitVec.eq_of_toNat_eq
  simp [BitVec.toNat_xor, Nat.xor_mod_two_pow]
theorem ck_and (a : Nat) : lN a &&& 1 = lN (a % 2) := by
  apply Int64.toBitVec_inj.mp
  rw [Int64.toBitVec_and]
  show BitVec.ofNat 64 a &&& BitVec.ofNat 64 1 = BitVec.ofNat 64 (a % 2)
  apply BitVec.eq_of_toNat_eq
  rw [BitVec.toNat_and, BitVec.toNat_ofNat, BitVec.toNat_ofNat, BitVec.toNat_ofNat]
  rw [show (1 : Nat) % 2 ^ 64 = 1 from rfl, Nat.and_one_is_mod]
  omega
theorem ck_ush {a : Nat} (h : a < 2 ^ 32) : ((lN a).toUInt64 >>> ((1 : Int32).toInt64.toUInt64 &&& Int64.toUInt64 63)).toInt64 = lN (a / 2) := by
  apply Int64.toBitVec_inj.mp
  show ((lN a).toUInt64 >>> ((1 : Int32).toInt64.toUInt64 &&& Int64.toUInt64 63)).toBitVec = BitVec.ofNat 64 (a / 2)
  rw [UInt64.toBitVec_shiftRight]
  apply BitVec.eq_of_toNat_eq
  have e : (((1 : Int32).toInt64.toUInt64 &&& Int64.toUInt64 63).toBitVec % 64) = 1#64 := by decide +kernel
  show ((BitVec.ofNat 64 a) >>> (((1 : Int32).toInt64.toUInt64 &&& Int64.toUInt64 63).toBitVec % 64)).toNat = _
  rw [e]
  show ((BitVec.ofNat 64 a) >>> (1 : Nat)).toNat = _
  rw [BitVec.toNat_ushiftRight, BitVec.toNat_ofNat, BitVec.toNat_ofNat, Nat.shiftRight_eq_div_pow]
  omega
theorem ck_div {a : Nat} (h : a < 2 ^ 32) : lN a / 2 = lN (a / 2) := by
  have hT : ∀ b : Nat, b < 2 ^ 32 → (lN b).toInt = (b : Int) := fun b hb => lg_ofNat_toInt (by omega)
  apply Int64.toInt_inj.mp
  have h2 : (2 : Int64).toInt = 2 := by decide
  rw [lg_ldiv_nonneg (by rw [hT a h]; omega) (by rw [h2]; decide), hT a h, hT _ (by omega), h2]
  omega
theorem ck_mod {a : Nat} (h : a < 2 ^ 32) : lN a - lN a / 2 * 2 = lN (a % 2) := by
  rw [ck_div h, show (2 : Int64) = lN 2 from by decide, lN_mul, lN_sub (by omega)]
  congr 1
  omega
theorem ck_c0 (v : Nat) : lg_cmp (lN (v % 2)) 0 = 0 ↔ ¬ v % 2 = 1 := by
  rcases Nat.mod_two_eq_zero_or_one v with h | h <;> rw [h] <;> decide
theorem ck_c1 (v : Nat) : lg_cmp (lN (v % 2)) 1 = 0 ↔ v % 2 = 1 := by
  rcases Nat.mod_two_eq_zero_or_one v with h | h <;> rw [h] <;> decide
theorem ck_s0 {v : Nat} (h : ¬ v % 2 = 1) : ck_s v = v / 2 := if_neg h
theorem ck_s1 {v : Nat} (h : v % 2 = 1) : ck_s v = (v / 2) ^^^ 2197175160 := if_pos h
theorem ck_m : (2197175160 : Int64) = lN 2197175160 := by decide
section CHK
variable {l : Launch} {D : va_G} {cA : ClassId} {d : Nat} {tN oN rN pN bN eN mT mO mW mR mP : Nat} {tF oF rF pF bF eF zT zO zX zB zL zR zP zQ : Nat → Int32} {lo lm : Int64}
set_option maxHeartbeats 4000000 in
set_option maxRecDepth 100000 in
theorem c_Dsk_checkedWith  {h : List gg_C} {w b : Nat} (hw : w < 2 ^ 32) (hb : b < 256) : gg_K l D cA d y_Dsk_checkedWith b_Dsk_checkedWith 7 (some .long) [.long (lN w), .int (nI b)] h (gg_is (some (.long (lN (ck_r 8 (w ^^^ b))))) h) := by
  have loop : ∀ k : Nat, ∀ i v, 8 - i = k → i ≤ 8 → v < 2 ^ 32 → gg_G l D cA d R_Dsk b_Dsk_checkedWith 7 (some .long) (gg_is (some (.long (lN (ck_r k v)))) h) 8 [some (.long (lN w)), none, some (.int (nI b)), some (.long (lN v)), none, some (.int (nI i)), none] [] (h) := by
    intro k
    induction k with
    | zero =>
      intro i v hk hi hv
      refine gg_iload d_Dsk_checkedWith_8 rfl ?_
      refine gg_bipush (v := nI 8) d_Dsk_checkedWith_10 (by decide) ?_
      refine gg_icmp_ge 51 d_Dsk_checkedWith_12 (by decide) (fun c12 => ?_) (fun c12 => ?_)
      · refine gg_lload_n 3 d_Dsk_checkedWith_51 rfl rfl ?_
        exact gg_lreturn d_Dsk_checkedWith_52 rfl ⟨rfl, rfl⟩
      · exact absurd (nI_le (by omega) (by omega)) c12
    | succ k ih =>
      intro i v hk hi hv
      refine gg_iload d_Dsk_checkedWith_8 rfl ?_
      refine gg_bipush (v := nI 8) d_Dsk_checkedWith_10 (by decide) ?_
      refine gg_icmp_ge 51 d_Dsk_checkedWith_12 (by decide) (fun c12 => ?_) (fun c12 => ?_)
      · exact absurd c12 (nI_ge (by omega) (by omega))
      · refine gg_lload_n 3 d_Dsk_checkedWith_15 rfl rfl ?_
        refine gg_lconst (v := 1) d_Dsk_checkedWith_16 (by decide) ?_
        refine gg_land d_Dsk_checkedWith_17 ?_
        refine gg_lconst (v := 0) d_Dsk_checkedWith_18 (by decide) ?_
        rw [ck_and]
        refine gg_lcmp d_Dsk_checkedWith_19 ?_
        refine gg_if_eq 27 d_Dsk_checkedWith_20 (by decide) (fun c20 => ?_) (fun c20 => ?_)
        · rw [ck_c0] at c20
          have hq := ck_s0 c20
          refine gg_iconst (v := 0) d_Dsk_checkedWith_27 (by decide) ?_
          refine gg_istore d_Dsk_checkedWith_28 (by decide) rfl ?_
          dsimp only [List.set]
          refine gg_lload_n 3 d_Dsk_checkedWith_30 rfl rfl ?_
          refine gg_iconst (v := 1) d_Dsk_checkedWith_31 (by decide) ?_
          refine gg_lushr d_Dsk_checkedWith_32 rfl ?_
          rw [ck_ush hv]
          refine gg_lstore_n 3 d_Dsk_checkedWith_33 rfl (by decide) rfl ?_
          dsimp only [List.set]
          refine gg_iload d_Dsk_checkedWith_34 rfl ?_
          refine gg_if_eq 45 d_Dsk_checkedWith_36 (by decide) (fun c36 => ?_) (fun c36 => ?_)
          · first
            | exact absurd c36 (by decide)
            | refine gg_iinc (1) d_Dsk_checkedWith_45 rfl (by decide) (by decide) rfl ?_
              dsimp only [List.set]
              refine gg_goto 8 d_Dsk_checkedWith_48 (by decide) ?_
              rw [nI_1, ← hq]
              refine gg_forget 6 ?_
              dsimp only [List.set]
              exact ih (i + 1) (ck_s v) (by omega) (by omega) (ck_s_lt hv)
          · first
            | exact absurd rfl c36
            | refine gg_lload_n 3 d_Dsk_checkedWith_39 rfl rfl ?_
              refine gg_ldc2 k_142 d_Dsk_checkedWith_40 ?_
              refine gg_lxor d_Dsk_checkedWith_43 ?_
              rw [ck_m, ck_xor]
              refine gg_lstore_n 3 d_Dsk_checkedWith_44 rfl (by decide) rfl ?_
              dsimp only [List.set]
              refine gg_iinc (1) d_Dsk_checkedWith_45 rfl (by decide) (by decide) rfl ?_
              dsimp only [List.set]
              refine gg_goto 8 d_Dsk_checkedWith_48 (by decide) ?_
              rw [nI_1, ← hq]
              refine gg_forget 6 ?_
              dsimp only [List.set]
              exact ih (i + 1) (ck_s v) (by omega) (by omega) (ck_s_lt hv)
        · rw [ck_c0, Decidable.not_not] at c20
          have hq := ck_s1 c20
          refine gg_iconst (v := 1) d_Dsk_checkedWith_23 (by decide) ?_
          refine gg_goto 28 d_Dsk_checkedWith_24 (by decide) ?_
          refine gg_istore d_Dsk_checkedWith_28 (by decide) rfl ?_
          dsimp only [List.set]
          refine gg_lload_n 3 d_Dsk_checkedWith_30 rfl rfl ?_
          refine gg_iconst (v := 1) d_Dsk_checkedWith_31 (by decide) ?_
          refine gg_lushr d_Dsk_checkedWith_32 rfl ?_
          rw [ck_ush hv]
          refine gg_lstore_n 3 d_Dsk_checkedWith_33 rfl (by decide) rfl ?_
          dsimp only [List.set]
          refine gg_iload d_Dsk_checkedWith_34 rfl ?_
          refine gg_if_eq 45 d_Dsk_checkedWith_36 (by decide) (fun c36 => ?_) (fun c36 => ?_)
          · first
            | exact absurd c36 (by decide)
            | refine gg_iinc (1) d_Dsk_checkedWith_45 rfl (by decide) (by decide) rfl ?_
              dsimp only [List.set]
              refine gg_goto 8 d_Dsk_checkedWith_48 (by decide) ?_
              rw [nI_1, ← hq]
              refine gg_forget 6 ?_
              dsimp only [List.set]
              exact ih (i + 1) (ck_s v) (by omega) (by omega) (ck_s_lt hv)
          · first
            | exact absurd rfl c36
            | refine gg_lload_n 3 d_Dsk_checkedWith_39 rfl rfl ?_
              refine gg_ldc2 k_142 d_Dsk_checkedWith_40 ?_
              refine gg_lxor d_Dsk_checkedWith_43 ?_
              rw [ck_m, ck_xor]
              refine gg_lstore_n 3 d_Dsk_checkedWith_44 rfl (by decide) rfl ?_
              dsimp only [List.set]
              refine gg_iinc (1) d_Dsk_checkedWith_45 rfl (by decide) (by decide) rfl ?_
              dsimp only [List.set]
              refine gg_goto 8 d_Dsk_checkedWith_48 (by decide) ?_
              rw [nI_1, ← hq]
              refine gg_forget 6 ?_
              dsimp only [List.set]
              exact ih (i + 1) (ck_s v) (by omega) (by omega) (ck_s_lt hv)
  refine gg_K.start (L := [some (.long (lN w)), none, some (.int (nI b)), none, none, none, none]) rfl (plainFor_of_name (by decide)) rfl (Nat.le_of_ble_eq_true rfl) ?_
  refine gg_lload_n 0 d_Dsk_checkedWith_0 rfl rfl ?_
  refine gg_iload_n 2 d_Dsk_checkedWith_1 rfl rfl ?_
  refine gg_i2l d_Dsk_checkedWith_2 rfl ?_
  refine gg_lxor d_Dsk_checkedWith_3 ?_
  rw [nI_l (by omega), ck_xor]
  refine gg_lstore_n 3 d_Dsk_checkedWith_4 rfl (by decide) rfl ?_
  dsimp only [List.set]
  refine gg_iconst (v := 0) d_Dsk_checkedWith_5 (by decide) ?_
  refine gg_istore d_Dsk_checkedWith_6 (by decide) rfl ?_
  dsimp only [List.set]
  exact loop 8 0 (w ^^^ b) rfl (by decide) (Nat.xor_lt_two_pow hw (by omega))
set_option maxHeartbeats 4000000 in
set_option maxRecDepth 100000 in
theorem c_Dsk_check  {i j : Nat} (hij : i ≤ j) (hj : j ≤ tN) (ht : tN ≤ 400) (hb : ck_o tF tN) (hd : 1 ≤ d) : gg_K l D cA d y_Dsk_check b_Dsk_check 6 (some .long) [.ref 0, .int (nI i), .int (nI j)] (hp tN tF oN oF rN rF pN pF bN bF eN eF lo mT mO mW mR mP zT zO zX zB zL zR zP zQ lm) (gg_is (some (.long (4294967295 - lN (ck_a (ck_b tF) (j - i) i 4294967295)))) (hp tN tF oN oF rN rF pN pF bN bF eN eF lo mT mO mW mR mP zT zO zX zB zL zR zP zQ lm)) := by
  have loop : ∀ k : Nat, ∀ q v, j - q = k → q ≤ j → v < 2 ^ 32 → gg_G l D cA d R_Dsk b_Dsk_check 6 (some .long) (gg_is (some (.long (4294967295 - lN (ck_a (ck_b tF) k q v)))) (hp tN tF oN oF rN rF pN pF bN bF eN eF lo mT mO mW mR mP zT zO zX zB zL zR zP zQ lm)) 31 [some (.ref 0), some (.int (nI i)), some (.int (nI j)), some (.long (lN v)), none, some (.int (nI q))] [] ((hp tN tF oN oF rN rF pN pF bN bF eN eF lo mT mO mW mR mP zT zO zX zB zL zR zP zQ lm)) := by
    intro k
    induction k with
    | zero =>
      intro q v hk hq hv
      refine gg_iload d_Dsk_check_31 rfl ?_
      refine gg_iload_n 2 d_Dsk_check_33 rfl rfl ?_
      refine gg_icmp_ge 57 d_Dsk_check_34 (by decide) (fun c34 => ?_) (fun c34 => ?_)
      · refine gg_ldc2 k_137 d_Dsk_check_57 ?_
        refine gg_lload_n 3 d_Dsk_check_60 rfl rfl ?_
        refine gg_lsub d_Dsk_check_61 ?_
        exact gg_lreturn d_Dsk_check_62 rfl ⟨rfl, rfl⟩
      · exact absurd (nI_le (by omega) (by omega)) c34
    | succ k ih =>
      intro q v hk hq hv
      refine gg_iload d_Dsk_check_31 rfl ?_
      refine gg_iload_n 2 d_Dsk_check_33 rfl rfl ?_
      refine gg_icmp_ge 57 d_Dsk_check_34 (by decide) (fun c34 => ?_) (fun c34 => ?_)
      · exact absurd c34 (nI_ge (by omega) (by omega))
      · refine gg_lload_n 3 d_Dsk_check_37 rfl rfl ?_
        refine gg_aload_n 0 d_Dsk_check_38 rfl rfl ?_
        refine gg_get f_Dsk_14 d_Dsk_check_39 rfl rfl ?_
        refine gg_iload d_Dsk_check_42 rfl ?_
        refine gg_cv1 m_Dsk_80 d_Dsk_check_44 (c_Row_at (d := 0) (hr_t ht) (by omega)) rfl rfl rfl rfl (by omega) rfl (Nat.le_of_ble_eq_true rfl) ?_
        rw [(hb q (by omega)).1]
        refine gg_cs1 m_Dsk_84 d_Dsk_check_47 (c_Dsk_checkedWith (d := 0) hv (hb q (by omega)).2) rfl (by omega) rfl (Nat.le_of_ble_eq_true rfl) ?_
        refine gg_lstore_n 3 d_Dsk_check_50 rfl (by decide) rfl ?_
        dsimp only [List.set]
        refine gg_iinc (1) d_Dsk_check_51 rfl (by decide) (by decide) rfl ?_
        dsimp only [List.set]
        refine gg_goto 31 d_Dsk_check_54 (by decide) ?_
        rw [nI_1]
        exact ih (q + 1) _ (by omega) (by omega) (ck_r_lt 8 (Nat.xor_lt_two_pow hv (by have := (hb q (by omega)).2; omega)))
  refine gg_K.start (L := [some (.ref 0), some (.int (nI i)), some (.int (nI j)), none, none, none]) rfl (plainFor_of_name (by decide)) rfl (Nat.le_of_ble_eq_true rfl) ?_
  refine gg_iload_n 1 d_Dsk_check_0 rfl rfl ?_
  refine gg_if_lt 20 d_Dsk_check_1 (by decide) (fun c1 => ?_) (fun c1 => ?_)
  · exact absurd c1 (nI_pos (by omega))
  · refine gg_iload_n 2 d_Dsk_check_4 rfl rfl ?_
    refine gg_iload_n 1 d_Dsk_check_5 rfl rfl ?_
    refine gg_icmp_lt 20 d_Dsk_check_6 (by decide) (fun c6 => ?_) (fun c6 => ?_)
    · exact absurd c6 (nI_nlt hij (by omega))
    · refine gg_iload_n 2 d_Dsk_check_9 rfl rfl ?_
      refine gg_aload_n 0 d_Dsk_check_10 rfl rfl ?_
      refine gg_get f_Dsk_14 d_Dsk_check_11 rfl rfl ?_
      refine gg_cv1 m_Dsk_45 d_Dsk_check_14 (c_Row_length (d := 0) (hr_t (by omega))) rfl rfl rfl rfl (by omega) rfl (Nat.le_of_ble_eq_true rfl) ?_
      refine gg_icmp_le 24 d_Dsk_check_17 (by decide) (fun c17 => ?_) (fun c17 => ?_)
      · refine gg_ldc2 k_137 d_Dsk_check_24 ?_
        refine gg_lstore_n 3 d_Dsk_check_27 rfl (by decide) rfl ?_
        dsimp only [List.set]
        refine gg_iload_n 1 d_Dsk_check_28 rfl rfl ?_
        refine gg_istore d_Dsk_check_29 (by decide) rfl ?_
        dsimp only [List.set]
        exact loop (j - i) i 4294967295 rfl hij (by decide)
      · exact absurd (nI_le hj (by omega)) c17
set_option maxHeartbeats 4000000 in
set_option maxRecDepth 100000 in
theorem c_Dsk_check_bad  {x y : Int32} (hx : ¬ (0 ≤ x.toInt ∧ x.toInt ≤ y.toInt ∧ y.toInt ≤ (tN : Int))) (ht : tN ≤ 400) (hd : 1 ≤ d) : gg_K l D cA d y_Dsk_check b_Dsk_check 6 (some .long) [.ref 0, .int x, .int y] (hp tN tF oN oF rN rF pN pF bN bF eN eF lo mT mO mW mR mP zT zO zX zB zL zR zP zQ lm) (gg_is (some (.long 1099511627776)) (hp tN tF oN oF rN rF pN pF bN bF eN eF lo mT mO mW mR mP zT zO zX zB zL zR zP zQ lm)) := by
  refine gg_K.start (L := [some (.ref 0), some (.int x), some (.int y), none, none, none]) rfl (plainFor_of_name (by decide)) rfl (Nat.le_of_ble_eq_true rfl) ?_
  refine gg_iload_n 1 d_Dsk_check_0 rfl rfl ?_
  refine gg_if_lt 20 d_Dsk_check_1 (by decide) (fun c1 => ?_) (fun c1 => ?_)
  · refine gg_ldc2 k_136 d_Dsk_check_20 ?_
    exact gg_lreturn d_Dsk_check_23 rfl ⟨rfl, rfl⟩
  · refine gg_iload_n 2 d_Dsk_check_4 rfl rfl ?_
    refine gg_iload_n 1 d_Dsk_check_5 rfl rfl ?_
    refine gg_icmp_lt 20 d_Dsk_check_6 (by decide) (fun c6 => ?_) (fun c6 => ?_)
    · refine gg_ldc2 k_136 d_Dsk_check_20 ?_
      exact gg_lreturn d_Dsk_check_23 rfl ⟨rfl, rfl⟩
    · refine gg_iload_n 2 d_Dsk_check_9 rfl rfl ?_
      refine gg_aload_n 0 d_Dsk_check_10 rfl rfl ?_
      refine gg_get f_Dsk_14 d_Dsk_check_11 rfl rfl ?_
      refine gg_cv1 m_Dsk_45 d_Dsk_check_14 (c_Row_length (d := 0) (hr_t (by omega))) rfl rfl rfl rfl (by omega) rfl (Nat.le_of_ble_eq_true rfl) ?_
      refine gg_icmp_le 24 d_Dsk_check_17 (by decide) (fun c17 => ?_) (fun c17 => ?_)
      · rw [sp_lt0] at c1
        rw [Int32.lt_iff_toInt_lt] at c6
        rw [sp_nle (by omega)] at c17
        omega
      · refine gg_ldc2 k_136 d_Dsk_check_20 ?_
        exact gg_lreturn d_Dsk_check_23 rfl ⟨rfl, rfl⟩
set_option maxHeartbeats 4000000 in
set_option maxRecDepth 100000 in
theorem c_Mdl_check  {i j : Nat} (hij : i ≤ j) (hj : j ≤ mT) (ht : mT ≤ 400) (hb : ck_o zT mT) : gg_K l D cA d y_Mdl_check b_Mdl_check 8 (some .long) [.ref 14, .int (nI i), .int (nI j)] (hp tN tF oN oF rN rF pN pF bN bF eN eF lo mT mO mW mR mP zT zO zX zB zL zR zP zQ lm) (gg_is (some (.long (4294967295 - lN (ck_a (ck_b zT) (j - i) i 4294967295)))) (hp tN tF oN oF rN rF pN pF bN bF eN eF lo mT mO mW mR mP zT zO zX zB zL zR zP zQ lm)) := by
  have inner : ∀ k : Nat, ∀ p q u v, 8 - u = k → u ≤ 8 → v < 2 ^ 32 → (∀ v2 : Nat, v2 < 2 ^ 32 → v2 = ck_r k v → gg_G l D cA d R_Mdl b_Mdl_check 8 (some .long) (gg_is (some (.long (4294967295 - lN p))) (hp tN tF oN oF rN rF pN pF bN bF eN eF lo mT mO mW mR mP zT zO zX zB zL zR zP zQ lm)) 28 [some (.ref 14), some (.int (nI i)), some (.int (nI j)), some (.long (lN v2)), none, some (.int (nI (q + 1))), none, none] [] (hp tN tF oN oF rN rF pN pF bN bF eN eF lo mT mO mW mR mP zT zO zX zB zL zR zP zQ lm)) → gg_G l D cA d R_Mdl b_Mdl_check 8 (some .long) (gg_is (some (.long (4294967295 - lN p))) (hp tN tF oN oF rN rF pN pF bN bF eN eF lo mT mO mW mR mP zT zO zX zB zL zR zP zQ lm)) 48 [some (.ref 14), some (.int (nI i)), some (.int (nI j)), some (.long (lN v)), none, some (.int (nI q)), some (.int (nI u)), none] [] ((hp tN tF oN oF rN rF pN pF bN bF eN eF lo mT mO mW mR mP zT zO zX zB zL zR zP zQ lm)) := by
    intro k
    induction k with
    | zero =>
      intro p q u v hk hu hv hn
      refine gg_iload d_Mdl_check_48 rfl ?_
      refine gg_bipush (v := nI 8) d_Mdl_check_50 (by decide) ?_
      refine gg_icmp_ge 95 d_Mdl_check_52 (by decide) (fun c52 => ?_) (fun c52 => ?_)
      · refine gg_iinc (1) d_Mdl_check_95 rfl (by decide) (by decide) rfl ?_
        dsimp only [List.set]
        refine gg_goto 28 d_Mdl_check_98 (by decide) ?_
        rw [nI_1]
        refine gg_forget 6 ?_
        dsimp only [List.set]
        exact hn v hv rfl
      · exact absurd (nI_le (by omega) (by omega)) c52
    | succ k ih =>
      intro p q u v hk hu hv hn
      refine gg_iload d_Mdl_check_48 rfl ?_
      refine gg_bipush (v := nI 8) d_Mdl_check_50 (by decide) ?_
      refine gg_icmp_ge 95 d_Mdl_check_52 (by decide) (fun c52 => ?_) (fun c52 => ?_)
      · exact absurd c52 (nI_ge (by omega) (by omega))
      · refine gg_lload_n 3 d_Mdl_check_55 rfl rfl ?_
        refine gg_ldc2 k_440 d_Mdl_check_56 ?_
        refine gg_lrem d_Mdl_check_59 (by decide) ?_
        refine gg_lconst (v := 1) d_Mdl_check_60 (by decide) ?_
        rw [ck_mod hv]
        refine gg_lcmp d_Mdl_check_61 ?_
        refine gg_if_ne 69 d_Mdl_check_62 (by decide) (fun c62 => ?_) (fun c62 => ?_)
        · rw [ck_c1] at c62
          have hq := ck_s0 c62
          refine gg_iconst (v := 0) d_Mdl_check_69 (by decide) ?_
          refine gg_istore d_Mdl_check_70 (by decide) rfl ?_
          dsimp only [List.set]
          refine gg_lload_n 3 d_Mdl_check_72 rfl rfl ?_
          refine gg_ldc2 k_440 d_Mdl_check_73 ?_
          refine gg_ldiv d_Mdl_check_76 (by decide) ?_
          rw [ck_div hv]
          refine gg_lstore_n 3 d_Mdl_check_77 rfl (by decide) rfl ?_
          dsimp only [List.set]
          refine gg_iload d_Mdl_check_78 rfl ?_
          refine gg_if_eq 89 d_Mdl_check_80 (by decide) (fun c80 => ?_) (fun c80 => ?_)
          · first
            | exact absurd c80 (by decide)
            | refine gg_iinc (1) d_Mdl_check_89 rfl (by decide) (by decide) rfl ?_
              dsimp only [List.set]
              refine gg_goto 48 d_Mdl_check_92 (by decide) ?_
              rw [nI_1, ← hq]
              refine gg_forget 7 ?_
              dsimp only [List.set]
              exact ih p q (u + 1) (ck_s v) (by omega) (by omega) (ck_s_lt hv) hn
          · first
            | exact absurd rfl c80
            | refine gg_lload_n 3 d_Mdl_check_83 rfl rfl ?_
              refine gg_ldc2 k_441 d_Mdl_check_84 ?_
              refine gg_lxor d_Mdl_check_87 ?_
              rw [ck_m, ck_xor]
              refine gg_lstore_n 3 d_Mdl_check_88 rfl (by decide) rfl ?_
              dsimp only [List.set]
              refine gg_iinc (1) d_Mdl_check_89 rfl (by decide) (by decide) rfl ?_
              dsimp only [List.set]
              refine gg_goto 48 d_Mdl_check_92 (by decide) ?_
              rw [nI_1, ← hq]
              refine gg_forget 7 ?_
              dsimp only [List.set]
              exact ih p q (u + 1) (ck_s v) (by omega) (by omega) (ck_s_lt hv) hn
        · rw [ck_c1] at c62
          have hq := ck_s1 c62
          refine gg_iconst (v := 1) d_Mdl_check_65 (by decide) ?_
          refine gg_goto 70 d_Mdl_check_66 (by decide) ?_
          refine gg_istore d_Mdl_check_70 (by decide) rfl ?_
          dsimp only [List.set]
          refine gg_lload_n 3 d_Mdl_check_72 rfl rfl ?_
          refine gg_ldc2 k_440 d_Mdl_check_73 ?_
          refine gg_ldiv d_Mdl_check_76 (by decide) ?_
          rw [ck_div hv]
          refine gg_lstore_n 3 d_Mdl_check_77 rfl (by decide) rfl ?_
          dsimp only [List.set]
          refine gg_iload d_Mdl_check_78 rfl ?_
          refine gg_if_eq 89 d_Mdl_check_80 (by decide) (fun c80 => ?_) (fun c80 => ?_)
          · first
            | exact absurd c80 (by decide)
            | refine gg_iinc (1) d_Mdl_check_89 rfl (by decide) (by decide) rfl ?_
              dsimp only [List.set]
              refine gg_goto 48 d_Mdl_check_92 (by decide) ?_
              rw [nI_1, ← hq]
              refine gg_forget 7 ?_
              dsimp only [List.set]
              exact ih p q (u + 1) (ck_s v) (by omega) (by omega) (ck_s_lt hv) hn
          · first
            | exact absurd rfl c80
            | refine gg_lload_n 3 d_Mdl_check_83 rfl rfl ?_
              refine gg_ldc2 k_441 d_Mdl_check_84 ?_
              refine gg_lxor d_Mdl_check_87 ?_
              rw [ck_m, ck_xor]
              refine gg_lstore_n 3 d_Mdl_check_88 rfl (by decide) rfl ?_
              dsimp only [List.set]
              refine gg_iinc (1) d_Mdl_check_89 rfl (by decide) (by decide) rfl ?_
              dsimp only [List.set]
              refine gg_goto 48 d_Mdl_check_92 (by decide) ?_
              rw [nI_1, ← hq]
              refine gg_forget 7 ?_
              dsimp only [List.set]
              exact ih p q (u + 1) (ck_s v) (by omega) (by omega) (ck_s_lt hv) hn
  have loop : ∀ k : Nat, ∀ q v, j - q = k → q ≤ j → v < 2 ^ 32 → gg_G l D cA d R_Mdl b_Mdl_check 8 (some .long) (gg_is (some (.long (4294967295 - lN (ck_a (ck_b zT) k q v)))) (hp tN tF oN oF rN rF pN pF bN bF eN eF lo mT mO mW mR mP zT zO zX zB zL zR zP zQ lm)) 28 [some (.ref 14), some (.int (nI i)), some (.int (nI j)), some (.long (lN v)), none, some (.int (nI q)), none, none] [] ((hp tN tF oN oF rN rF pN pF bN bF eN eF lo mT mO mW mR mP zT zO zX zB zL zR zP zQ lm)) := by
    intro k
    induction k with
    | zero =>
      intro q v hk hq hv
      refine gg_iload d_Mdl_check_28 rfl ?_
      refine gg_iload_n 2 d_Mdl_check_30 rfl rfl ?_
      refine gg_icmp_ge 101 d_Mdl_check_31 (by decide) (fun c31 => ?_) (fun c31 => ?_)
      · refine gg_ldc2 k_439 d_Mdl_check_101 ?_
        refine gg_lload_n 3 d_Mdl_check_104 rfl rfl ?_
        refine gg_lsub d_Mdl_check_105 ?_
        exact gg_lreturn d_Mdl_check_106 rfl ⟨rfl, rfl⟩
      · exact absurd (nI_le (by omega) (by omega)) c31
    | succ k ih =>
      intro q v hk hq hv
      refine gg_iload d_Mdl_check_28 rfl ?_
      refine gg_iload_n 2 d_Mdl_check_30 rfl rfl ?_
      refine gg_icmp_ge 101 d_Mdl_check_31 (by decide) (fun c31 => ?_) (fun c31 => ?_)
      · exact absurd c31 (nI_ge (by omega) (by omega))
      · refine gg_lload_n 3 d_Mdl_check_34 rfl rfl ?_
        refine gg_aload_n 0 d_Mdl_check_35 rfl rfl ?_
        refine gg_get f_Mdl_7 d_Mdl_check_36 rfl rfl ?_
        refine gg_iload d_Mdl_check_39 rfl ?_
        refine gg_iald d_Mdl_check_41 rfl (by omega) (by decide) ?_
        rw [(hb q (by omega)).1]
        refine gg_i2l d_Mdl_check_42 rfl ?_
        refine gg_lxor d_Mdl_check_43 ?_
        rw [nI_l (by have := (hb q (by omega)).2; omega), ck_xor]
        refine gg_lstore_n 3 d_Mdl_check_44 rfl (by decide) rfl ?_
        dsimp only [List.set]
        refine gg_iconst (v := 0) d_Mdl_check_45 (by decide) ?_
        refine gg_istore d_Mdl_check_46 (by decide) rfl ?_
        dsimp only [List.set]
        refine inner 8 _ q 0 _ rfl (by decide) (Nat.xor_lt_two_pow hv (by have := (hb q (by omega)).2; omega)) (fun v2 hv2 e2 => ?_)
        have e0 := ih (q + 1) v2 (by omega) (by omega) hv2
        rw [e2] at e0 ⊢
        exact e0
  refine gg_K.start (L := [some (.ref 14), some (.int (nI i)), some (.int (nI j)), none, none, none, none, none]) rfl (plainFor_of_name (by decide)) rfl (Nat.le_of_ble_eq_true rfl) ?_
  refine gg_iload_n 1 d_Mdl_check_0 rfl rfl ?_
  refine gg_if_lt 17 d_Mdl_check_1 (by decide) (fun c1 => ?_) (fun c1 => ?_)
  · exact absurd c1 (nI_pos (by omega))
  · refine gg_iload_n 1 d_Mdl_check_4 rfl rfl ?_
    refine gg_iload_n 2 d_Mdl_check_5 rfl rfl ?_
    refine gg_icmp_gt 17 d_Mdl_check_6 (by decide) (fun c6 => ?_) (fun c6 => ?_)
    · exact absurd c6 (nI_nlt hij (by omega))
    · refine gg_iload_n 2 d_Mdl_check_9 rfl rfl ?_
      refine gg_aload_n 0 d_Mdl_check_10 rfl rfl ?_
      refine gg_get f_Mdl_34 d_Mdl_check_11 rfl rfl ?_
      refine gg_icmp_le 21 d_Mdl_check_14 (by decide) (fun c14 => ?_) (fun c14 => ?_)
      · refine gg_ldc2 k_439 d_Mdl_check_21 ?_
        refine gg_lstore_n 3 d_Mdl_check_24 rfl (by decide) rfl ?_
        dsimp only [List.set]
        refine gg_iload_n 1 d_Mdl_check_25 rfl rfl ?_
        refine gg_istore d_Mdl_check_26 (by decide) rfl ?_
        dsimp only [List.set]
        exact loop (j - i) i 4294967295 rfl hij (by decide)
      · exact absurd (nI_le hj (by omega)) c14
set_option maxHeartbeats 4000000 in
set_option maxRecDepth 100000 in
theorem c_Mdl_check_bad  {x y : Int32} (hx : ¬ (0 ≤ x.toInt ∧ x.toInt ≤ y.toInt ∧ y.toInt ≤ (mT : Int))) (ht : mT ≤ 400) : gg_K l D cA d y_Mdl_check b_Mdl_check 8 (some .long) [.ref 14, .int x, .int y] (hp tN tF oN oF rN rF pN pF bN bF eN eF lo mT mO mW mR mP zT zO zX zB zL zR zP zQ lm) (gg_is (some (.long 1099511627776)) (hp tN tF oN oF rN rF pN pF bN bF eN eF lo mT mO mW mR mP zT zO zX zB zL zR zP zQ lm)) := by
  refine gg_K.start (L := [some (.ref 14), some (.int x), some (.int y), none, none, none, none, none]) rfl (plainFor_of_name (by decide)) rfl (Nat.le_of_ble_eq_true rfl) ?_
  refine gg_iload_n 1 d_Mdl_check_0 rfl rfl ?_
  refine gg_if_lt 17 d_Mdl_check_1 (by decide) (fun c1 => ?_) (fun c1 => ?_)
  · refine gg_ldc2 k_438 d_Mdl_check_17 ?_
    exact gg_lreturn d_Mdl_check_20 rfl ⟨rfl, rfl⟩
  · refine gg_iload_n 1 d_Mdl_check_4 rfl rfl ?_
    refine gg_iload_n 2 d_Mdl_check_5 rfl rfl ?_
    refine gg_icmp_gt 17 d_Mdl_check_6 (by decide) (fun c6 => ?_) (fun c6 => ?_)
    · refine gg_ldc2 k_438 d_Mdl_check_17 ?_
      exact gg_lreturn d_Mdl_check_20 rfl ⟨rfl, rfl⟩
    · refine gg_iload_n 2 d_Mdl_check_9 rfl rfl ?_
      refine gg_aload_n 0 d_Mdl_check_10 rfl rfl ?_
      refine gg_get f_Mdl_34 d_Mdl_check_11 rfl rfl ?_
      refine gg_icmp_le 21 d_Mdl_check_14 (by decide) (fun c14 => ?_) (fun c14 => ?_)
      · rw [sp_lt0] at c1
        rw [Int32.lt_iff_toInt_lt] at c6
        rw [sp_nle (by omega)] at c14
        omega
      · refine gg_ldc2 k_438 d_Mdl_check_17 ?_
        exact gg_lreturn d_Mdl_check_20 rfl ⟨rfl, rfl⟩
end CHK
