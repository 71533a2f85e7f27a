/-! more of CourierDesk$Row -/
theorem sp_sh_e {f g : Nat → Int32} {n k j : Nat} (h : sp_ff f (g j) n 0 = -1) : sp_sh f n g (k + 1) j = sp_sh f n g k (j + 1) := if_pos h
theorem sp_sh_n {f g : Nat → Int32} {n k j : Nat} (h : ¬ sp_ff f (g j) n 0 = -1) : sp_sh f n g (k + 1) j = 1 := if_neg h
theorem sp_fp_ne {f g : Nat → Int32} {m k s : Nat} (h : ¬ sp_st f g m s) : sp_fp f g m (k + 1) s = sp_fp f g m k (s + 1) := if_neg h
theorem sp_fp_is {f g : Nat → Int32} {m k s : Nat} (h : sp_st f g m s) : sp_fp f g m (k + 1) s = nI s := if_pos h
theorem sp_lp_ne {f g : Nat → Int32} {m k : Nat} (h : ¬ sp_st f g m k) : sp_lp f g m (k + 1) = sp_lp f g m k := if_neg h
theorem sp_lp_is {f g : Nat → Int32} {m k : Nat} (h : sp_st f g m k) : sp_lp f g m (k + 1) = nI k := if_pos h
theorem sp_nb_lt {f : Nat → Int32} {v : Int32} {k i : Nat} (h : f i < v) : sp_nb f v (k + 1) i = sp_nb f v k (i + 1) := if_pos h
theorem sp_nb_ge {f : Nat → Int32} {v : Int32} {k i : Nat} (h : ¬ f i < v) : sp_nb f v (k + 1) i = i := if_neg h
theorem sp_slt {a b i : Nat} (ha : a < 2 ^ 30) (hb : b < 2 ^ 30) (hi : i < 2 ^ 30) : nI a - nI b < nI i ↔ (a : Int) - b < i := by
  rw [Int32.lt_iff_toInt_lt, pk_sub_toInt ha hb, nI_toInt (by omega)]
/-- floorMod by a number that isn't negative -/
def sp_fm (x : Int32) (n : Nat) : Nat := (x.toInt % (n : Int)).toNat
theorem sp_fm_lt (x : Int32) {n : Nat} (h : 0 < n) : sp_fm x n < n := by
  unfold sp_fm
  have h1 := Int.emod_nonneg x.toInt (show (n : Int) ≠ 0 by omega)
  have h2 := Int.emod_lt_of_pos x.toInt (show (0 : Int) < n by omega)
  omega
theorem sp_xneg {x : Int32} {n : Nat} (hn : n < 2 ^ 31) : 0 ≤ (x ^^^ nI n) ↔ 0 ≤ x.toInt := by
  have e : ∀ z : Int32, (0 ≤ z.toInt) ↔ z.toBitVec.msb = false := by
    intro z
    rw [BitVec.msb_eq_toInt]
    show 0 ≤ z.toBitVec.toInt ↔ _
    simp
  rw [sp_le0, e, e, Int32.toBitVec_xor, BitVec.msb_xor]
  have h : (nI n).toBitVec.msb = false := by
    rw [← e, nI_toInt hn]
    omega
  rw [h, Bool.xor_false]
theorem sp_fm_pos {x : Int32} {n : Nat} (hx : 0 ≤ x.toInt) (h0 : 0 < n) (hn : n < 2 ^ 31) : x - x / nI n * nI n = nI (sp_fm x n) := by
  apply Int32.toInt_inj.mp
  have h1 := sp_fm_lt x h0
  rw [rem_toInt, nI_toInt hn, nI_toInt (by omega), Int.tmod_eq_emod_of_nonneg hx]
  unfold sp_fm
  have := Int.emod_nonneg x.toInt (show (n : Int) ≠ 0 by omega)
  omega
theorem sp_tmod_neg {a b : Int} (ha : a < 0) (hb : 0 < b) : a.tmod b = if a % b = 0 then 0 else a % b - b := by
  have e : a.tmod b = -((-a) % b) := by
    rw [← Int.tmod_eq_emod_of_nonneg (by omega), Int.neg_tmod, Int.neg_neg]
  rw [e]
  have h1 := Int.emod_nonneg a (show b ≠ 0 by omega)
  have h2 := Int.emod_lt_of_pos a hb
  have h3 := Int.emod_nonneg (-a) (show b ≠ 0 by omega)
  have h4 := Int.emod_lt_of_pos (-a) hb
  have h5 := Int.mul_ediv_add_emod a b
  have h6 := Int.mul_ediv_add_emod (-a) b
  have h7 : b * (a / b + (-a) / b) + (a % b + (-a) % b) = 0 := by rw [Int.mul_add]; omega
  have h8 : ∃ q : Int, a % b + (-a) % b = b * q := ⟨-(a / b + (-a) / b), by rw [Int.mul_neg]; omega⟩
  obtain ⟨q, hq⟩ := h8
  have hq0 : 0 ≤ q := by
    rcases Int.lt_or_le q 0 with z | z
    · have : b * q < 0 := Int.mul_neg_of_pos_of_neg hb z
      omega
    · exact z
  have hq2 : q < 2 := by
    rcases Int.lt_or_le q 2 with z | z
    · exact z
    · have : b * 2 ≤ b * q := Int.mul_le_mul_of_nonneg_left z (by omega)
      omega
  split
  · have : q = 0 := by
      rcases (show q = 0 ∨ q = 1 by omega) with z | z
      · exact z
      · subst z; omega
    subst this
    omega
  · have : q = 1 := by
      rcases (show q = 0 ∨ q = 1 by omega) with z | z
      · subst z; omega
      · exact z
    subst this
    omega
theorem sp_fm_neg {x : Int32} {n : Nat} (hx : ¬ 0 ≤ x.toInt) (h0 : 0 < n) (hn : n < 2 ^ 31) : (x - x / nI n * nI n).toInt = if x.toInt % (n : Int) = 0 then 0 else x.toInt % (n : Int) - n := by
  rw [rem_toInt, nI_toInt hn]
  exact sp_tmod_neg (by omega) (by omega)
theorem sp_fm_neg0 {x : Int32} {n : Nat} (hx : ¬ 0 ≤ x.toInt) (h0 : 0 < n) (hn : n < 2 ^ 31) (hz : x - x / nI n * nI n = 0) : x - x / nI n * nI n = nI (sp_fm x n) := by
  have h1 := sp_fm_neg hx h0 hn
  rw [hz] at h1
  have h2 : (0 : Int32).toInt = 0 := by decide
  rw [h2] at h1
  have h3 := Int.emod_lt_of_pos x.toInt (show (0 : Int) < n by omega)
  have h4 : x.toInt % (n : Int) = 0 := by
    split at h1
    · assumption
    · omega
  rw [hz]
  unfold sp_fm
  rw [h4]
  rfl
theorem sp_fm_neg1 {x : Int32} {n : Nat} (hx : ¬ 0 ≤ x.toInt) (h0 : 0 < n) (hn : n < 2 ^ 31) (hz : ¬ x - x / nI n * nI n = 0) : x - x / nI n * nI n + nI n = nI (sp_fm x n) := by
  have h1 := sp_fm_neg hx h0 hn
  have h2 : (0 : Int32).toInt = 0 := by decide
  have h3 := Int.emod_lt_of_pos x.toInt (show (0 : Int) < n by omega)
  have h5 := Int.emod_nonneg x.toInt (show (n : Int) ≠ 0 by omega)
  have h4 : ¬ x.toInt % (n : Int) = 0 := by
    intro q
    rw [if_pos q] at h1
    exact hz (Int32.toInt_inj.mp (by rw [h1, h2]))
  rw [if_neg h4] at h1
  apply Int32.toInt_inj.mp
  have h6 := sp_fm_lt x h0
  rw [Int32.toInt_add, h1, nI_toInt hn, nI_toInt (by omega)]
  unfold sp_fm
  rw [Int.bmod_eq_of_le (by omega) (by omega)]
  omega
set_option maxHeartbeats 4000000 in
set_option maxRecDepth 100000 in
theorem c_Mth_max {l : Launch} {D : va_G} {cA : ClassId} {d : Nat} {h : List gg_C} {x y : Int32}  : gg_K l D cA d y_Mth_max b_Mth_max 2 (some .int) [.int x, .int y] h (gg_is (some (.int (if x < y then y else x))) h) := by
  refine gg_K.start (L := [some (.int x), some (.int y)]) rfl (by decide +kernel) rfl (Nat.le_of_ble_eq_true rfl) ?_
  refine gg_iload_n 0 d_Mth_max_0 rfl rfl ?_
  refine gg_iload_n 1 d_Mth_max_1 rfl rfl ?_
  refine gg_icmp_lt 9 d_Mth_max_2 (by decide) (fun c2 => ?_) (fun c2 => ?_)
  · rw [if_pos c2]
    refine gg_iload_n 1 d_Mth_max_9 rfl rfl ?_
    exact gg_ireturn d_Mth_max_10 rfl rfl ⟨rfl, rfl⟩
  · rw [if_neg c2]
    refine gg_iload_n 0 d_Mth_max_5 rfl rfl ?_
    refine gg_goto 10 d_Mth_max_6 (by decide) ?_
    exact gg_ireturn d_Mth_max_10 rfl rfl ⟨rfl, rfl⟩
set_option maxHeartbeats 4000000 in
set_option maxRecDepth 100000 in
theorem c_Mth_min {l : Launch} {D : va_G} {cA : ClassId} {d : Nat} {h : List gg_C} {x y : Int32}  : gg_K l D cA d y_Mth_min b_Mth_min 2 (some .int) [.int x, .int y] h (gg_is (some (.int (if y < x then y else x))) h) := by
  refine gg_K.start (L := [some (.int x), some (.int y)]) rfl (by decide +kernel) rfl (Nat.le_of_ble_eq_true rfl) ?_
  refine gg_iload_n 0 d_Mth_min_0 rfl rfl ?_
  refine gg_iload_n 1 d_Mth_min_1 rfl rfl ?_
  refine gg_icmp_gt 9 d_Mth_min_2 (by decide) (fun c2 => ?_) (fun c2 => ?_)
  · rw [if_pos c2]
    refine gg_iload_n 1 d_Mth_min_9 rfl rfl ?_
    exact gg_ireturn d_Mth_min_10 rfl rfl ⟨rfl, rfl⟩
  · rw [if_neg c2]
    refine gg_iload_n 0 d_Mth_min_5 rfl rfl ?_
    refine gg_goto 10 d_Mth_min_6 (by decide) ?_
    exact gg_ireturn d_Mth_min_10 rfl rfl ⟨rfl, rfl⟩
set_option maxHeartbeats 4000000 in
set_option maxRecDepth 100000 in
theorem c_Mth_floorMod {l : Launch} {D : va_G} {cA : ClassId} {d : Nat} {h : List gg_C} {x : Int32} {n : Nat} (h0 : 0 < n) (hn : n < 2 ^ 31) : gg_K l D cA d y_Mth_floorMod b_Mth_floorMod 3 (some .int) [.int x, .int (nI n)] h (gg_is (some (.int (nI (sp_fm x n)))) h) := by
  refine gg_K.start (L := [some (.int x), some (.int (nI n)), none]) rfl (by decide +kernel) rfl (Nat.le_of_ble_eq_true rfl) ?_
  refine gg_iload_n 0 d_Mth_floorMod_0 rfl rfl ?_
  refine gg_iload_n 1 d_Mth_floorMod_1 rfl rfl ?_
  refine gg_irem d_Mth_floorMod_2 (nI_ne0 h0 hn) ?_
  refine gg_istore_n 2 d_Mth_floorMod_3 rfl (by decide) rfl ?_
  dsimp only [List.set]
  refine gg_iload_n 0 d_Mth_floorMod_4 rfl rfl ?_
  refine gg_iload_n 1 d_Mth_floorMod_5 rfl rfl ?_
  refine gg_ixor d_Mth_floorMod_6 ?_
  refine gg_if_ge 18 d_Mth_floorMod_7 (by decide) (fun c7 => ?_) (fun c7 => ?_)
  · rw [sp_xneg hn] at c7
    rw [sp_fm_pos c7 h0 hn]
    refine gg_iload_n 2 d_Mth_floorMod_18 rfl rfl ?_
    exact gg_ireturn d_Mth_floorMod_19 rfl rfl ⟨rfl, rfl⟩
  · rw [sp_xneg hn] at c7
    refine gg_iload_n 2 d_Mth_floorMod_10 rfl rfl ?_
    refine gg_if_eq 18 d_Mth_floorMod_11 (by decide) (fun c11 => ?_) (fun c11 => ?_)
    · rw [sp_fm_neg0 c7 h0 hn c11]
      refine gg_iload_n 2 d_Mth_floorMod_18 rfl rfl ?_
      exact gg_ireturn d_Mth_floorMod_19 rfl rfl ⟨rfl, rfl⟩
    · have e1 := sp_fm_neg1 c7 h0 hn c11
      refine gg_iload_n 2 d_Mth_floorMod_14 rfl rfl ?_
      refine gg_iload_n 1 d_Mth_floorMod_15 rfl rfl ?_
      refine gg_iadd d_Mth_floorMod_16 ?_
      rw [e1]
      exact gg_ireturn d_Mth_floorMod_17 rfl rfl ⟨rfl, rfl⟩
set_option maxHeartbeats 4000000 in
set_option maxRecDepth 100000 in
theorem c_Arr_rangeCheck {l : Launch} {D : va_G} {cA : ClassId} {d : Nat} {h : List gg_C} {N i j : Nat} (hij : i ≤ j) (hj : j ≤ N) (hN : N < 2 ^ 31) : gg_K l D cA d y_Arr_rangeCheck b_Arr_rangeCheck 3 none [.int (nI N), .int (nI i), .int (nI j)] h (gg_is none h) := by
  refine gg_K.start (L := [some (.int (nI N)), some (.int (nI i)), some (.int (nI j))]) rfl (by decide +kernel) rfl (Nat.le_of_ble_eq_true rfl) ?_
  refine gg_iload_n 1 d_Arr_rangeCheck_0 rfl rfl ?_
  refine gg_iload_n 2 d_Arr_rangeCheck_1 rfl rfl ?_
  refine gg_icmp_le 46 d_Arr_rangeCheck_2 (by decide) (fun c2 => ?_) (fun c2 => ?_)
  · refine gg_iload_n 1 d_Arr_rangeCheck_46 rfl rfl ?_
    refine gg_if_ge 59 d_Arr_rangeCheck_47 (by decide) (fun c47 => ?_) (fun c47 => ?_)
    · refine gg_iload_n 2 d_Arr_rangeCheck_59 rfl rfl ?_
      refine gg_iload_n 0 d_Arr_rangeCheck_60 rfl rfl ?_
      refine gg_icmp_le 73 d_Arr_rangeCheck_61 (by decide) (fun c61 => ?_) (fun c61 => ?_)
      · exact gg_return d_Arr_rangeCheck_73 rfl ⟨rfl, rfl⟩
      · exact absurd (nI_le hj hN) c61
    · exact absurd (nI_pos' (by omega)) c47
  · exact absurd (nI_le hij (by omega)) c2
set_option maxHeartbeats 4000000 in
set_option maxRecDepth 100000 in
theorem c_Arr_fill {l : Launch} {D : va_G} {cA : ClassId} {d : Nat} {h : List gg_C} {a N n : Nat} {f : Nat → Int32} {v : Int32} (ho : h[a]? = some (.inl (N, f))) (hn : n ≤ N) (hN : N < 2 ^ 31) (hd : 1 ≤ d) : gg_K l D cA d y_Arr_fill b_Arr_fill 5 none [.ref a, .int (nI 0), .int (nI n), .int v] h (gg_is none (h.set a (.inl (N, sp_fl f n v)))) := by
  have hl : a < h.length := (List.getElem?_eq_some_iff.mp ho).1
  have loop : ∀ k : Nat, ∀ i, n - i = k → i ≤ n → gg_G l D cA d R_Arr b_Arr_fill 5 none (gg_is none (h.set a (.inl (N, sp_fl f n v)))) 10 [some (.ref a), some (.int (nI 0)), some (.int (nI n)), some (.int v), some (.int (nI i))] [] (h.set a (.inl (N, sp_fl f i v))) := by
    intro k
    induction k with
    | zero =>
      intro i hk hi
      refine gg_iload d_Arr_fill_10 rfl ?_
      refine gg_iload_n 2 d_Arr_fill_12 rfl rfl ?_
      refine gg_icmp_ge 27 d_Arr_fill_13 (by decide) (fun c13 => ?_) (fun c13 => ?_)
      · exact gg_return d_Arr_fill_27 rfl ⟨rfl, by rw [show i = n by omega]⟩
      · exact absurd (nI_le (by omega) (by omega)) c13
    | succ k ih =>
      intro i hk hi
      refine gg_iload d_Arr_fill_10 rfl ?_
      refine gg_iload_n 2 d_Arr_fill_12 rfl rfl ?_
      refine gg_icmp_ge 27 d_Arr_fill_13 (by decide) (fun c13 => ?_) (fun c13 => ?_)
      · exact absurd c13 (nI_ge (by omega) (by omega))
      · refine gg_aload_n 0 d_Arr_fill_16 rfl rfl ?_
        refine gg_iload d_Arr_fill_17 rfl ?_
        refine gg_iload_n 3 d_Arr_fill_19 rfl rfl ?_
        refine gg_iast d_Arr_fill_20 (List.getElem?_set_self hl) (by omega) hN ?_
        rw [List.set_set, sp_fl_step]
        refine gg_iinc (1) d_Arr_fill_21 rfl (by decide) (by decide) rfl ?_
        dsimp only [List.set]
        refine gg_goto 10 d_Arr_fill_24 (by decide) ?_
        rw [nI_1]
        exact ih (i + 1) (by omega) (by omega)
  refine gg_K.start (L := [some (.ref a), some (.int (nI 0)), some (.int (nI n)), some (.int v), none]) rfl (by decide +kernel) rfl (Nat.le_of_ble_eq_true rfl) ?_
  refine gg_aload_n 0 d_Arr_fill_0 rfl rfl ?_
  refine gg_alen d_Arr_fill_1 ho ?_
  refine gg_iload_n 1 d_Arr_fill_2 rfl rfl ?_
  refine gg_iload_n 2 d_Arr_fill_3 rfl rfl ?_
  refine gg_cs0 m_Arr_13 d_Arr_fill_4 (c_Arr_rangeCheck (d := 0) (Nat.zero_le n) hn hN) rfl (by omega) rfl (Nat.le_of_ble_eq_true rfl) ?_
  refine gg_iload_n 1 d_Arr_fill_7 rfl rfl ?_
  refine gg_istore d_Arr_fill_8 (by decide) rfl ?_
  dsimp only [List.set]
  have e0 := loop n 0 rfl (Nat.zero_le n)
  rw [sp_fl_0, gg_id ho] at e0
  exact e0
set_option maxHeartbeats 4000000 in
set_option maxRecDepth 100000 in
theorem c_Row_fill {l : Launch} {D : va_G} {cA : ClassId} {d : Nat} {h : List gg_C} {r a N n : Nat} {f : Nat → Int32} {v : Int32} (hr : gg_row h r a N n f) (hd : 2 ≤ d) : gg_K l D cA d y_Row_fill b_Row_fill 2 none [.ref r, .int v] h (gg_is none (h.set a (.inl (N, sp_fl f n v)))) := by
  have hN := hr.2.2
  refine gg_K.start (L := [some (.ref r), some (.int v)]) rfl (plainFor_of_name (by decide)) rfl (Nat.le_of_ble_eq_true rfl) ?_
  refine gg_aload_n 0 d_Row_fill_0 rfl rfl ?_
  refine gg_get f_Row_7 d_Row_fill_1 hr.1 rfl ?_
  refine gg_iconst (v := nI 0) d_Row_fill_4 (by decide) ?_
  refine gg_aload_n 0 d_Row_fill_5 rfl rfl ?_
  refine gg_get f_Row_13 d_Row_fill_6 hr.1 rfl ?_
  refine gg_iload_n 1 d_Row_fill_9 rfl rfl ?_
  refine gg_cs0 m_Row_23 d_Row_fill_10 (c_Arr_fill (d := 1) hr.2.1 hr.2.2.1 (by omega) (by omega)) rfl (by omega) rfl (Nat.le_of_ble_eq_true rfl) ?_
  exact gg_return d_Row_fill_13 rfl ⟨rfl, rfl⟩
set_option maxHeartbeats 4000000 in
set_option maxRecDepth 100000 in
theorem c_Row_reverse {l : Launch} {D : va_G} {cA : ClassId} {d : Nat} {h : List gg_C} {r a N n : Nat} {f : Nat → Int32} {a0 b0 : Nat} (hr : gg_row h r a N n f) (hab : a0 ≤ b0) (hb : b0 ≤ N) (hd : 1 ≤ d) : gg_K l D cA d y_Row_reverse b_Row_reverse 5 none [.ref r, .int (nI a0), .int (nI b0)] h (gg_is none (h.set a (.inl (N, sp_rv f a0 b0)))) := by
  have hN := hr.2.2
  rcases Nat.eq_zero_or_pos b0 with hz | hz
  · subst hz
    have ha0 : a0 = 0 := by omega
    subst ha0
    refine gg_K.start (L := [some (.ref r), some (.int (nI 0)), some (.int (nI 0)), none, none]) rfl (plainFor_of_name (by decide)) rfl (Nat.le_of_ble_eq_true rfl) ?_
    refine gg_iload_n 1 d_Row_reverse_0 rfl rfl ?_
    refine gg_istore_n 3 d_Row_reverse_1 rfl (by decide) rfl ?_
    dsimp only [List.set]
    refine gg_iload_n 2 d_Row_reverse_2 rfl rfl ?_
    refine gg_iconst (v := 1) d_Row_reverse_3 (by decide) ?_
    refine gg_isub d_Row_reverse_4 ?_
    refine gg_istore d_Row_reverse_5 (by decide) rfl ?_
    dsimp only [List.set]
    refine gg_iload_n 3 d_Row_reverse_7 rfl rfl ?_
    refine gg_iload d_Row_reverse_8 rfl ?_
    refine gg_icmp_ge 29 d_Row_reverse_10 (by decide) (fun c10 => ?_) (fun c10 => ?_)
    · exact gg_return d_Row_reverse_29 rfl ⟨rfl, by rw [← sp_rt_end (t := 0) hab (by omega) (by omega), sp_rt0, gg_id hr.2.1]⟩
    · exact absurd (by decide) c10
  · have loop : ∀ k : Nat, ∀ t, b0 ≤ a0 + 2 * t + k → 2 * t ≤ b0 - a0 → gg_G l D cA d R_Row b_Row_reverse 5 none (gg_is none (h.set a (.inl (N, sp_rv f a0 b0)))) 7 [some (.ref r), some (.int (nI a0)), some (.int (nI b0)), some (.int (nI (a0 + t))), some (.int (nI (b0 - 1 - t)))] [] (h.set a (.inl (N, sp_rt f a0 b0 t))) := by
      intro k
      induction k with
      | zero =>
        intro t hk ht
        have hq := hr.arr (sp_rt f a0 b0 t)
        refine gg_iload_n 3 d_Row_reverse_7 rfl rfl ?_
        refine gg_iload d_Row_reverse_8 rfl ?_
        refine gg_icmp_ge 29 d_Row_reverse_10 (by decide) (fun c10 => ?_) (fun c10 => ?_)
        · rw [nI_leI (by omega) (by omega)] at c10
          exact gg_return d_Row_reverse_29 rfl ⟨rfl, by rw [sp_rt_end hab ht (by omega)]⟩
        · exact absurd (nI_le (by omega) (by omega)) c10
      | succ k ih =>
        intro t hk ht
        have hq := hr.arr (sp_rt f a0 b0 t)
        refine gg_iload_n 3 d_Row_reverse_7 rfl rfl ?_
        refine gg_iload d_Row_reverse_8 rfl ?_
        refine gg_icmp_ge 29 d_Row_reverse_10 (by decide) (fun c10 => ?_) (fun c10 => ?_)
        · rw [nI_leI (by omega) (by omega)] at c10
          exact gg_return d_Row_reverse_29 rfl ⟨rfl, by rw [sp_rt_end hab ht (by omega)]⟩
        · rw [nI_leI (by omega) (by omega)] at c10
          refine gg_aload_n 0 d_Row_reverse_13 rfl rfl ?_
          refine gg_iload_n 3 d_Row_reverse_14 rfl rfl ?_
          refine gg_iload d_Row_reverse_15 rfl ?_
          refine gg_cv0 m_Row_29 d_Row_reverse_17 (c_Row_exchange (d := 0) hq (by omega) (by omega)) hq.1 rfl rfl rfl (by omega) rfl (Nat.le_of_ble_eq_true rfl) ?_
          rw [List.set_set, sp_rt_step (by omega)]
          refine gg_iinc (1) d_Row_reverse_20 rfl (by decide) (by decide) rfl ?_
          dsimp only [List.set]
          refine gg_iinc (-1) d_Row_reverse_23 rfl (by decide) (by decide) rfl ?_
          dsimp only [List.set]
          refine gg_goto 7 d_Row_reverse_26 (by decide) ?_
          rw [nI_1, sb_m1 (by omega), show b0 - 1 - t - 1 = b0 - 1 - (t + 1) by omega, Nat.add_assoc]
          exact ih (t + 1) (by omega) (by omega)
    refine gg_K.start (L := [some (.ref r), some (.int (nI a0)), some (.int (nI b0)), none, none]) rfl (plainFor_of_name (by decide)) rfl (Nat.le_of_ble_eq_true rfl) ?_
    refine gg_iload_n 1 d_Row_reverse_0 rfl rfl ?_
    refine gg_istore_n 3 d_Row_reverse_1 rfl (by decide) rfl ?_
    dsimp only [List.set]
    refine gg_iload_n 2 d_Row_reverse_2 rfl rfl ?_
    refine gg_iconst (v := 1) d_Row_reverse_3 (by decide) ?_
    refine gg_isub d_Row_reverse_4 ?_
    refine gg_istore d_Row_reverse_5 (by decide) rfl ?_
    dsimp only [List.set]
    have e0 := loop (b0 - a0) 0 (by omega) (by omega)
    rw [sp_rt0, gg_id hr.2.1] at e0
    rw [sp_pred hz]
    exact e0
set_option maxHeartbeats 4000000 in
set_option maxRecDepth 100000 in
theorem c_Row_rotate0 {l : Launch} {D : va_G} {cA : ClassId} {d : Nat} {h : List gg_C} {r a N n : Nat} {f : Nat → Int32} {x : Int32} (hr : gg_row h r a N n f) (hn : n = 0) : gg_K l D cA d y_Row_rotate b_Row_rotate 3 none [.ref r, .int x] h (gg_is none h) := by
  have hN := hr.2.2
  subst hn
  refine gg_K.start (L := [some (.ref r), some (.int x), none]) rfl (plainFor_of_name (by decide)) rfl (Nat.le_of_ble_eq_true rfl) ?_
  refine gg_aload_n 0 d_Row_rotate_0 rfl rfl ?_
  refine gg_get f_Row_13 d_Row_rotate_1 hr.1 rfl ?_
  refine gg_if_ne 8 d_Row_rotate_4 (by decide) (fun c4 => ?_) (fun c4 => ?_)
  · exact absurd nI_0 c4
  · exact gg_return d_Row_rotate_7 rfl ⟨rfl, rfl⟩
set_option maxHeartbeats 4000000 in
set_option maxRecDepth 100000 in
theorem c_Row_rotate {l : Launch} {D : va_G} {cA : ClassId} {d : Nat} {h : List gg_C} {r a N n : Nat} {f : Nat → Int32} {x : Int32} (hr : gg_row h r a N n f) (hn : 0 < n) (hd : 2 ≤ d) : gg_K l D cA d y_Row_rotate b_Row_rotate 3 none [.ref r, .int x] h (gg_is none (h.set a (.inl (N, sp_rv (sp_rv (sp_rv f 0 n) 0 (sp_fm x n)) (sp_fm x n) n)))) := by
  have hN := hr.2.2
  have hp := sp_fm_lt x hn
  have q1 := hr.arr (sp_rv f 0 n)
  have q2 := hr.arr (sp_rv (sp_rv f 0 n) 0 (sp_fm x n))
  refine gg_K.start (L := [some (.ref r), some (.int x), none]) rfl (plainFor_of_name (by decide)) rfl (Nat.le_of_ble_eq_true rfl) ?_
  refine gg_aload_n 0 d_Row_rotate_0 rfl rfl ?_
  refine gg_get f_Row_13 d_Row_rotate_1 hr.1 rfl ?_
  refine gg_if_ne 8 d_Row_rotate_4 (by decide) (fun c4 => ?_) (fun c4 => ?_)
  · refine gg_iload_n 1 d_Row_rotate_8 rfl rfl ?_
    refine gg_aload_n 0 d_Row_rotate_9 rfl rfl ?_
    refine gg_get f_Row_13 d_Row_rotate_10 hr.1 rfl ?_
    refine gg_cs1 m_Row_33 d_Row_rotate_13 (c_Mth_floorMod (d := 0) hn (by omega)) rfl (by omega) rfl (Nat.le_of_ble_eq_true rfl) ?_
    refine gg_istore_n 2 d_Row_rotate_16 rfl (by decide) rfl ?_
    dsimp only [List.set]
    refine gg_aload_n 0 d_Row_rotate_17 rfl rfl ?_
    refine gg_iconst (v := nI 0) d_Row_rotate_18 (by decide) ?_
    refine gg_aload_n 0 d_Row_rotate_19 rfl rfl ?_
    refine gg_get f_Row_13 d_Row_rotate_20 hr.1 rfl ?_
    refine gg_cv0 m_Row_39 d_Row_rotate_23 (c_Row_reverse (d := 1) hr (Nat.zero_le n) (by omega) (by omega)) hr.1 rfl rfl rfl (by omega) rfl (Nat.le_of_ble_eq_true rfl) ?_
    refine gg_aload_n 0 d_Row_rotate_26 rfl rfl ?_
    refine gg_iconst (v := nI 0) d_Row_rotate_27 (by decide) ?_
    refine gg_iload_n 2 d_Row_rotate_28 rfl rfl ?_
    refine gg_cv0 m_Row_39 d_Row_rotate_29 (c_Row_reverse (d := 1) q1 (Nat.zero_le _) (by omega) (by omega)) q1.1 rfl rfl rfl (by omega) rfl (Nat.le_of_ble_eq_true rfl) ?_
    rw [List.set_set]
    refine gg_aload_n 0 d_Row_rotate_32 rfl rfl ?_
    refine gg_iload_n 2 d_Row_rotate_33 rfl rfl ?_
    refine gg_aload_n 0 d_Row_rotate_34 rfl rfl ?_
    refine gg_get f_Row_13 d_Row_rotate_35 q2.1 rfl ?_
    refine gg_cv0 m_Row_39 d_Row_rotate_38 (c_Row_reverse (d := 1) q2 (by omega) (by omega) (by omega)) q2.1 rfl rfl rfl (by omega) rfl (Nat.le_of_ble_eq_true rfl) ?_
    rw [List.set_set]
    exact gg_return d_Row_rotate_41 rfl ⟨rfl, rfl⟩
  · exact absurd c4 (nI_ne0 hn (by omega))
set_option maxHeartbeats 4000000 in
set_option maxRecDepth 100000 in
theorem c_Row_greatest {l : Launch} {D : va_G} {cA : ClassId} {d : Nat} {h : List gg_C} {r a N n : Nat} {f : Nat → Int32} (hr : gg_row h r a N n f) (hd : 1 ≤ d) : gg_K l D cA d y_Row_greatest b_Row_greatest 3 (some .int) [.ref r] h (gg_is (some (.int (sp_mx f n))) h) := by
  have hN := hr.2.2
  have loop : ∀ k : Nat, ∀ i, n - i = k → i ≤ n → gg_G l D cA d R_Row b_Row_greatest 3 (some .int) (gg_is (some (.int (sp_mx f n))) h) 5 [some (.ref r), some (.int (sp_mx f i)), some (.int (nI i))] [] (h) := by
    intro k
    induction k with
    | zero =>
      intro i hk hi
      refine gg_iload_n 2 d_Row_greatest_5 rfl rfl ?_
      refine gg_aload_n 0 d_Row_greatest_6 rfl rfl ?_
      refine gg_get f_Row_13 d_Row_greatest_7 hr.1 rfl ?_
      refine gg_icmp_ge 30 d_Row_greatest_10 (by decide) (fun c10 => ?_) (fun c10 => ?_)
      · refine gg_iload_n 1 d_Row_greatest_30 rfl rfl ?_
        exact gg_ireturn d_Row_greatest_31 rfl rfl ⟨by rw [show i = n by omega], rfl⟩
      · exact absurd (nI_le (by omega) (by omega)) c10
    | succ k ih =>
      intro i hk hi
      refine gg_iload_n 2 d_Row_greatest_5 rfl rfl ?_
      refine gg_aload_n 0 d_Row_greatest_6 rfl rfl ?_
      refine gg_get f_Row_13 d_Row_greatest_7 hr.1 rfl ?_
      refine gg_icmp_ge 30 d_Row_greatest_10 (by decide) (fun c10 => ?_) (fun c10 => ?_)
      · exact absurd c10 (nI_ge (by omega) (by omega))
      · refine gg_iload_n 1 d_Row_greatest_13 rfl rfl ?_
        refine gg_aload_n 0 d_Row_greatest_14 rfl rfl ?_
        refine gg_get f_Row_7 d_Row_greatest_15 hr.1 rfl ?_
        refine gg_iload_n 2 d_Row_greatest_18 rfl rfl ?_
        refine gg_iald d_Row_greatest_19 hr.2.1 (by omega) (by omega) ?_
        refine gg_cs1 m_Row_45 d_Row_greatest_20 (c_Mth_max (d := 0)) rfl (by omega) rfl (Nat.le_of_ble_eq_true rfl) ?_
        refine gg_istore_n 1 d_Row_greatest_23 rfl (by decide) rfl ?_
        dsimp only [List.set]
        refine gg_iinc (1) d_Row_greatest_24 rfl (by decide) (by decide) rfl ?_
        dsimp only [List.set]
        refine gg_goto 5 d_Row_greatest_27 (by decide) ?_
        rw [nI_1]
        exact ih (i + 1) (by omega) (by omega)
  refine gg_K.start (L := [some (.ref r), none, none]) rfl (plainFor_of_name (by decide)) rfl (Nat.le_of_ble_eq_true rfl) ?_
  refine gg_ldc k_304 d_Row_greatest_0 ?_
  refine gg_istore_n 1 d_Row_greatest_2 rfl (by decide) rfl ?_
  dsimp only [List.set]
  refine gg_iconst (v := 0) d_Row_greatest_3 (by decide) ?_
  refine gg_istore_n 2 d_Row_greatest_4 rfl (by decide) rfl ?_
  dsimp only [List.set]
  exact loop n 0 rfl (Nat.zero_le n)
set_option maxHeartbeats 4000000 in
set_option maxRecDepth 100000 in
theorem c_Row_least {l : Launch} {D : va_G} {cA : ClassId} {d : Nat} {h : List gg_C} {r a N n : Nat} {f : Nat → Int32} (hr : gg_row h r a N n f) (hd : 1 ≤ d) : gg_K l D cA d y_Row_least b_Row_least 3 (some .int) [.ref r] h (gg_is (some (.int (sp_mn f n))) h) := by
  have hN := hr.2.2
  have loop : ∀ k : Nat, ∀ i, n - i = k → i ≤ n → gg_G l D cA d R_Row b_Row_least 3 (some .int) (gg_is (some (.int (sp_mn f n))) h) 5 [some (.ref r), some (.int (sp_mn f i)), some (.int (nI i))] [] (h) := by
    intro k
    induction k with
    | zero =>
      intro i hk hi
      refine gg_iload_n 2 d_Row_least_5 rfl rfl ?_
      refine gg_aload_n 0 d_Row_least_6 rfl rfl ?_
      refine gg_get f_Row_13 d_Row_least_7 hr.1 rfl ?_
      refine gg_icmp_ge 30 d_Row_least_10 (by decide) (fun c10 => ?_) (fun c10 => ?_)
      · refine gg_iload_n 1 d_Row_least_30 rfl rfl ?_
        exact gg_ireturn d_Row_least_31 rfl rfl ⟨by rw [show i = n by omega], rfl⟩
      · exact absurd (nI_le (by omega) (by omega)) c10
    | succ k ih =>
      intro i hk hi
      refine gg_iload_n 2 d_Row_least_5 rfl rfl ?_
      refine gg_aload_n 0 d_Row_least_6 rfl rfl ?_
      refine gg_get f_Row_13 d_Row_least_7 hr.1 rfl ?_
      refine gg_icmp_ge 30 d_Row_least_10 (by decide) (fun c10 => ?_) (fun c10 => ?_)
      · exact absurd c10 (nI_ge (by omega) (by omega))
      · refine gg_iload_n 1 d_Row_least_13 rfl rfl ?_
        refine gg_aload_n 0 d_Row_least_14 rfl rfl ?_
        refine gg_get f_Row_7 d_Row_least_15 hr.1 rfl ?_
        refine gg_iload_n 2 d_Row_least_18 rfl rfl ?_
        refine gg_iald d_Row_least_19 hr.2.1 (by omega) (by omega) ?_
        refine gg_cs1 m_Row_49 d_Row_least_20 (c_Mth_min (d := 0)) rfl (by omega) rfl (Nat.le_of_ble_eq_true rfl) ?_
        refine gg_istore_n 1 d_Row_least_23 rfl (by decide) rfl ?_
        dsimp only [List.set]
        refine gg_iinc (1) d_Row_least_24 rfl (by decide) (by decide) rfl ?_
        dsimp only [List.set]
        refine gg_goto 5 d_Row_least_27 (by decide) ?_
        rw [nI_1]
        exact ih (i + 1) (by omega) (by omega)
  refine gg_K.start (L := [some (.ref r), none, none]) rfl (plainFor_of_name (by decide)) rfl (Nat.le_of_ble_eq_true rfl) ?_
  refine gg_ldc k_312 d_Row_least_0 ?_
  refine gg_istore_n 1 d_Row_least_2 rfl (by decide) rfl ?_
  dsimp only [List.set]
  refine gg_iconst (v := 0) d_Row_least_3 (by decide) ?_
  refine gg_istore_n 2 d_Row_least_4 rfl (by decide) rfl ?_
  dsimp only [List.set]
  exact loop n 0 rfl (Nat.zero_le n)
set_option maxHeartbeats 4000000 in
set_option maxRecDepth 100000 in
theorem c_Row_sharesWith {l : Launch} {D : va_G} {cA : ClassId} {d : Nat} {h : List gg_C} {r a N n : Nat} {f : Nat → Int32} {r2 a2 N2 n2 : Nat} {g : Nat → Int32} (hr : gg_row h r a N n f) (hr2 : gg_row h r2 a2 N2 n2 g) (hd : 1 ≤ d) : gg_K l D cA d y_Row_sharesWith b_Row_sharesWith 3 (some .boolean) [.ref r, .ref r2] h (gg_is (some (.int (sp_sh f n g n2 0))) h) := by
  have hN := hr.2.2
  have hN2 := hr2.2.2
  have loop : ∀ k : Nat, ∀ i, n2 - i = k → i ≤ n2 → gg_G l D cA d R_Row b_Row_sharesWith 3 (some .boolean) (gg_is (some (.int (sp_sh f n g k i))) h) 2 [some (.ref r), some (.ref r2), some (.int (nI i))] [] (h) := by
    intro k
    induction k with
    | zero =>
      intro i hk hi
      refine gg_iload_n 2 d_Row_sharesWith_2 rfl rfl ?_
      refine gg_aload_n 1 d_Row_sharesWith_3 rfl rfl ?_
      refine gg_get f_Row_13 d_Row_sharesWith_4 hr2.1 rfl ?_
      refine gg_icmp_ge 33 d_Row_sharesWith_7 (by decide) (fun c7 => ?_) (fun c7 => ?_)
      · refine gg_iconst (v := 0) d_Row_sharesWith_33 (by decide) ?_
        exact gg_ireturn d_Row_sharesWith_34 rfl (by decide) ⟨rfl, rfl⟩
      · exact absurd (nI_le (by omega) (by omega)) c7
    | succ k ih =>
      intro i hk hi
      refine gg_iload_n 2 d_Row_sharesWith_2 rfl rfl ?_
      refine gg_aload_n 1 d_Row_sharesWith_3 rfl rfl ?_
      refine gg_get f_Row_13 d_Row_sharesWith_4 hr2.1 rfl ?_
      refine gg_icmp_ge 33 d_Row_sharesWith_7 (by decide) (fun c7 => ?_) (fun c7 => ?_)
      · exact absurd c7 (nI_ge (by omega) (by omega))
      · refine gg_aload_n 0 d_Row_sharesWith_10 rfl rfl ?_
        refine gg_iconst (v := nI 0) d_Row_sharesWith_11 (by decide) ?_
        refine gg_aload_n 1 d_Row_sharesWith_12 rfl rfl ?_
        refine gg_get f_Row_7 d_Row_sharesWith_13 hr2.1 rfl ?_
        refine gg_iload_n 2 d_Row_sharesWith_16 rfl rfl ?_
        refine gg_iald d_Row_sharesWith_17 hr2.2.1 (by omega) (by omega) ?_
        refine gg_cv1 m_Row_52 d_Row_sharesWith_18 (c_Row_firstFrom (d := 0) hr (Nat.zero_le n)) hr.1 rfl rfl rfl (by omega) rfl (Nat.le_of_ble_eq_true rfl) ?_
        rw [Nat.sub_zero]
        refine gg_iconst (v := (-1)) d_Row_sharesWith_21 (by decide) ?_
        refine gg_icmp_eq 27 d_Row_sharesWith_22 (by decide) (fun c22 => ?_) (fun c22 => ?_)
        · rw [sp_sh_e c22]
          refine gg_iinc (1) d_Row_sharesWith_27 rfl (by decide) (by decide) rfl ?_
          dsimp only [List.set]
          refine gg_goto 2 d_Row_sharesWith_30 (by decide) ?_
          rw [nI_1]
          exact ih (i + 1) (by omega) (by omega)
        · rw [sp_sh_n c22]
          refine gg_iconst (v := 1) d_Row_sharesWith_25 (by decide) ?_
          exact gg_ireturn d_Row_sharesWith_26 rfl (by decide) ⟨rfl, rfl⟩
  refine gg_K.start (L := [some (.ref r), some (.ref r2), none]) rfl (plainFor_of_name (by decide)) rfl (Nat.le_of_ble_eq_true rfl) ?_
  refine gg_iconst (v := 0) d_Row_sharesWith_0 (by decide) ?_
  refine gg_istore_n 2 d_Row_sharesWith_1 rfl (by decide) rfl ?_
  dsimp only [List.set]
  exact loop n2 0 rfl (Nat.zero_le n2)
set_option maxHeartbeats 4000000 in
set_option maxRecDepth 100000 in
theorem c_Row_firstPlaceOfAll {l : Launch} {D : va_G} {cA : ClassId} {d : Nat} {h : List gg_C} {r a N n : Nat} {f : Nat → Int32} {r2 a2 N2 n2 : Nat} {g : Nat → Int32} (hr : gg_row h r a N n f) (hr2 : gg_row h r2 a2 N2 n2 g) (hd : 1 ≤ d) : gg_K l D cA d y_Row_firstPlaceOfAll b_Row_firstPlaceOfAll 3 (some .int) [.ref r, .ref r2] h (gg_is (some (.int (sp_fp f g n2 (n + 1 - n2) 0))) h) := by
  have hN := hr.2.2
  have hN2 := hr2.2.2
  have loop : ∀ k : Nat, ∀ i, n + 1 - n2 - i = k → i ≤ n + 1 - n2 → gg_G l D cA d R_Row b_Row_firstPlaceOfAll 3 (some .int) (gg_is (some (.int (sp_fp f g n2 k i))) h) 2 [some (.ref r), some (.ref r2), some (.int (nI i))] [] (h) := by
    intro k
    induction k with
    | zero =>
      intro i hk hi
      refine gg_iload_n 2 d_Row_firstPlaceOfAll_2 rfl rfl ?_
      refine gg_aload_n 0 d_Row_firstPlaceOfAll_3 rfl rfl ?_
      refine gg_get f_Row_13 d_Row_firstPlaceOfAll_4 hr.1 rfl ?_
      refine gg_aload_n 1 d_Row_firstPlaceOfAll_7 rfl rfl ?_
      refine gg_get f_Row_13 d_Row_firstPlaceOfAll_8 hr2.1 rfl ?_
      refine gg_isub d_Row_firstPlaceOfAll_11 ?_
      refine gg_icmp_gt 32 d_Row_firstPlaceOfAll_12 (by decide) (fun c12 => ?_) (fun c12 => ?_)
      · refine gg_iconst (v := (-1)) d_Row_firstPlaceOfAll_32 (by decide) ?_
        exact gg_ireturn d_Row_firstPlaceOfAll_33 rfl rfl ⟨rfl, rfl⟩
      · exact absurd ((sp_slt (by omega) (by omega) (by omega)).mpr (by omega)) c12
    | succ k ih =>
      intro i hk hi
      refine gg_iload_n 2 d_Row_firstPlaceOfAll_2 rfl rfl ?_
      refine gg_aload_n 0 d_Row_firstPlaceOfAll_3 rfl rfl ?_
      refine gg_get f_Row_13 d_Row_firstPlaceOfAll_4 hr.1 rfl ?_
      refine gg_aload_n 1 d_Row_firstPlaceOfAll_7 rfl rfl ?_
      refine gg_get f_Row_13 d_Row_firstPlaceOfAll_8 hr2.1 rfl ?_
      refine gg_isub d_Row_firstPlaceOfAll_11 ?_
      refine gg_icmp_gt 32 d_Row_firstPlaceOfAll_12 (by decide) (fun c12 => ?_) (fun c12 => ?_)
      · rw [sp_slt (by omega) (by omega) (by omega)] at c12
        omega
      · refine gg_aload_n 0 d_Row_firstPlaceOfAll_15 rfl rfl ?_
        refine gg_iload_n 2 d_Row_firstPlaceOfAll_16 rfl rfl ?_
        refine gg_aload_n 1 d_Row_firstPlaceOfAll_17 rfl rfl ?_
        refine gg_cv1 m_Row_55 d_Row_firstPlaceOfAll_18 (c_Row_standsAt (d := 0) hr hr2 (i0 := i) (by omega)) hr.1 rfl rfl rfl (by omega) rfl (Nat.le_of_ble_eq_true rfl) ?_
        refine gg_if_eq 26 d_Row_firstPlaceOfAll_21 (by decide) (fun c21 => ?_) (fun c21 => ?_)
        · rw [sp_fp_ne (sp_b0 c21)]
          refine gg_iinc (1) d_Row_firstPlaceOfAll_26 rfl (by decide) (by decide) rfl ?_
          dsimp only [List.set]
          refine gg_goto 2 d_Row_firstPlaceOfAll_29 (by decide) ?_
          rw [nI_1]
          exact ih (i + 1) (by omega) (by omega)
        · rw [sp_fp_is (sp_b1 c21)]
          refine gg_iload_n 2 d_Row_firstPlaceOfAll_24 rfl rfl ?_
          exact gg_ireturn d_Row_firstPlaceOfAll_25 rfl rfl ⟨rfl, rfl⟩
  refine gg_K.start (L := [some (.ref r), some (.ref r2), none]) rfl (plainFor_of_name (by decide)) rfl (Nat.le_of_ble_eq_true rfl) ?_
  refine gg_iconst (v := 0) d_Row_firstPlaceOfAll_0 (by decide) ?_
  refine gg_istore_n 2 d_Row_firstPlaceOfAll_1 rfl (by decide) rfl ?_
  dsimp only [List.set]
  exact loop (n + 1 - n2) 0 rfl (Nat.zero_le _)
set_option maxHeartbeats 4000000 in
set_option maxRecDepth 100000 in
theorem c_Row_lastPlaceOfAll {l : Launch} {D : va_G} {cA : ClassId} {d : Nat} {h : List gg_C} {r a N n : Nat} {f : Nat → Int32} {r2 a2 N2 n2 : Nat} {g : Nat → Int32} (hr : gg_row h r a N n f) (hr2 : gg_row h r2 a2 N2 n2 g) (hd : 1 ≤ d) : gg_K l D cA d y_Row_lastPlaceOfAll b_Row_lastPlaceOfAll 3 (some .int) [.ref r, .ref r2] h (gg_is (some (.int (sp_lp f g n2 (n + 1 - n2)))) h) := by
  have hN := hr.2.2
  have hN2 := hr2.2.2
  have loop : ∀ k : Nat, k ≤ n + 1 - n2 → gg_G l D cA d R_Row b_Row_lastPlaceOfAll 3 (some .int) (gg_is (some (.int (sp_lp f g n2 k))) h) 10 [some (.ref r), some (.ref r2), some (.int (nI k - 1))] [] (h) := by
    intro k
    induction k with
    | zero =>
      intro hk
      refine gg_iload_n 2 d_Row_lastPlaceOfAll_10 rfl rfl ?_
      refine gg_if_lt 31 d_Row_lastPlaceOfAll_11 (by decide) (fun c11 => ?_) (fun c11 => ?_)
      · refine gg_iconst (v := (-1)) d_Row_lastPlaceOfAll_31 (by decide) ?_
        exact gg_ireturn d_Row_lastPlaceOfAll_32 rfl rfl ⟨rfl, rfl⟩
      · exact absurd (by decide) c11
    | succ k ih =>
      intro hk
      rw [nI_pred]
      refine gg_iload_n 2 d_Row_lastPlaceOfAll_10 rfl rfl ?_
      refine gg_if_lt 31 d_Row_lastPlaceOfAll_11 (by decide) (fun c11 => ?_) (fun c11 => ?_)
      · exact absurd c11 (nI_pos (by omega))
      · refine gg_aload_n 0 d_Row_lastPlaceOfAll_14 rfl rfl ?_
        refine gg_iload_n 2 d_Row_lastPlaceOfAll_15 rfl rfl ?_
        refine gg_aload_n 1 d_Row_lastPlaceOfAll_16 rfl rfl ?_
        refine gg_cv1 m_Row_55 d_Row_lastPlaceOfAll_17 (c_Row_standsAt (d := 0) hr hr2 (i0 := k) (by omega)) hr.1 rfl rfl rfl (by omega) rfl (Nat.le_of_ble_eq_true rfl) ?_
        refine gg_if_eq 25 d_Row_lastPlaceOfAll_20 (by decide) (fun c20 => ?_) (fun c20 => ?_)
        · rw [sp_lp_ne (sp_b0 c20)]
          refine gg_iinc (-1) d_Row_lastPlaceOfAll_25 rfl (by decide) (by decide) rfl ?_
          dsimp only [List.set]
          refine gg_goto 10 d_Row_lastPlaceOfAll_28 (by decide) ?_
          rw [sp_addm1]
          exact ih (by omega)
        · rw [sp_lp_is (sp_b1 c20)]
          refine gg_iload_n 2 d_Row_lastPlaceOfAll_23 rfl rfl ?_
          exact gg_ireturn d_Row_lastPlaceOfAll_24 rfl rfl ⟨rfl, rfl⟩
  rcases Nat.lt_or_ge n n2 with hz | hz
  · rw [show n + 1 - n2 = 0 by omega]
    refine gg_K.start (L := [some (.ref r), some (.ref r2), none]) rfl (plainFor_of_name (by decide)) rfl (Nat.le_of_ble_eq_true rfl) ?_
    refine gg_aload_n 0 d_Row_lastPlaceOfAll_0 rfl rfl ?_
    refine gg_get f_Row_13 d_Row_lastPlaceOfAll_1 hr.1 rfl ?_
    refine gg_aload_n 1 d_Row_lastPlaceOfAll_4 rfl rfl ?_
    refine gg_get f_Row_13 d_Row_lastPlaceOfAll_5 hr2.1 rfl ?_
    refine gg_isub d_Row_lastPlaceOfAll_8 ?_
    refine gg_istore_n 2 d_Row_lastPlaceOfAll_9 rfl (by decide) rfl ?_
    dsimp only [List.set]
    refine gg_iload_n 2 d_Row_lastPlaceOfAll_10 rfl rfl ?_
    refine gg_if_lt 31 d_Row_lastPlaceOfAll_11 (by decide) (fun c11 => ?_) (fun c11 => ?_)
    · refine gg_iconst (v := (-1)) d_Row_lastPlaceOfAll_31 (by decide) ?_
      exact gg_ireturn d_Row_lastPlaceOfAll_32 rfl rfl ⟨rfl, rfl⟩
    · exact absurd (pk_sneg (by omega) hz) c11
  · refine gg_K.start (L := [some (.ref r), some (.ref r2), none]) rfl (plainFor_of_name (by decide)) rfl (Nat.le_of_ble_eq_true rfl) ?_
    refine gg_aload_n 0 d_Row_lastPlaceOfAll_0 rfl rfl ?_
    refine gg_get f_Row_13 d_Row_lastPlaceOfAll_1 hr.1 rfl ?_
    refine gg_aload_n 1 d_Row_lastPlaceOfAll_4 rfl rfl ?_
    refine gg_get f_Row_13 d_Row_lastPlaceOfAll_5 hr2.1 rfl ?_
    refine gg_isub d_Row_lastPlaceOfAll_8 ?_
    refine gg_istore_n 2 d_Row_lastPlaceOfAll_9 rfl (by decide) rfl ?_
    dsimp only [List.set]
    rw [pk_sub hz, ← nI_pred, show n - n2 + 1 = n + 1 - n2 by omega]
    exact loop (n + 1 - n2) (Nat.le_refl _)
set_option maxHeartbeats 4000000 in
set_option maxRecDepth 100000 in
theorem c_Row_rises {l : Launch} {D : va_G} {cA : ClassId} {d : Nat} {h : List gg_C} {r a N n : Nat} {f : Nat → Int32} (hr : gg_row h r a N n f) : gg_K l D cA d y_Row_rises b_Row_rises 2 (some .boolean) [.ref r] h (gg_is (some (.int (sp_b (sp_up f n)))) h) := by
  have hN := hr.2.2
  have loop : ∀ k : Nat, ∀ i, n - i = k → 0 < i → i ≤ n + 1 → (∀ j, j + 1 < i → f j < f (j + 1)) → gg_G l D cA d R_Row b_Row_rises 2 (some .boolean) (gg_is (some (.int (sp_b (sp_up f n)))) h) 2 [some (.ref r), some (.int (nI i))] [] (h) := by
    intro k
    induction k with
    | zero =>
      intro i hk hi him hj
      refine gg_iload_n 1 d_Row_rises_2 rfl rfl ?_
      refine gg_aload_n 0 d_Row_rises_3 rfl rfl ?_
      refine gg_get f_Row_13 d_Row_rises_4 hr.1 rfl ?_
      refine gg_icmp_ge 35 d_Row_rises_7 (by decide) (fun c7 => ?_) (fun c7 => ?_)
      · rw [sp_bt (show sp_up f n from fun j q => hj j (by omega))]
        refine gg_iconst (v := 1) d_Row_rises_35 (by decide) ?_
        exact gg_ireturn d_Row_rises_36 rfl (by decide) ⟨rfl, rfl⟩
      · exact absurd (nI_le (by omega) (by omega)) c7
    | succ k ih =>
      intro i hk hi him hj
      refine gg_iload_n 1 d_Row_rises_2 rfl rfl ?_
      refine gg_aload_n 0 d_Row_rises_3 rfl rfl ?_
      refine gg_get f_Row_13 d_Row_rises_4 hr.1 rfl ?_
      refine gg_icmp_ge 35 d_Row_rises_7 (by decide) (fun c7 => ?_) (fun c7 => ?_)
      · exact absurd c7 (nI_ge (by omega) (by omega))
      · refine gg_aload_n 0 d_Row_rises_10 rfl rfl ?_
        refine gg_get f_Row_7 d_Row_rises_11 hr.1 rfl ?_
        refine gg_iload_n 1 d_Row_rises_14 rfl rfl ?_
        refine gg_iconst (v := 1) d_Row_rises_15 (by decide) ?_
        refine gg_isub d_Row_rises_16 ?_
        rw [sp_pred hi]
        refine gg_iald d_Row_rises_17 hr.2.1 (by omega) (by omega) ?_
        refine gg_aload_n 0 d_Row_rises_18 rfl rfl ?_
        refine gg_get f_Row_7 d_Row_rises_19 hr.1 rfl ?_
        refine gg_iload_n 1 d_Row_rises_22 rfl rfl ?_
        refine gg_iald d_Row_rises_23 hr.2.1 (by omega) (by omega) ?_
        refine gg_icmp_lt 29 d_Row_rises_24 (by decide) (fun c24 => ?_) (fun c24 => ?_)
        · have hj2 : ∀ j, j + 1 < i + 1 → f j < f (j + 1) := fun j q => by
            rcases Nat.lt_or_ge (j + 1) i with z | z
            · exact hj j z
            · have e : j = i - 1 := by omega
              subst e
              rw [show i - 1 + 1 = i by omega]
              exact c24
          refine gg_iinc (1) d_Row_rises_29 rfl (by decide) (by decide) rfl ?_
          dsimp only [List.set]
          refine gg_goto 2 d_Row_rises_32 (by decide) ?_
          rw [nI_1]
          exact ih (i + 1) (by omega) (by omega) (by omega) hj2
        · rw [sp_bf (show ¬ sp_up f n from fun q => c24 (by have := q (i - 1) (by omega); rwa [show i - 1 + 1 = i by omega] at this))]
          refine gg_iconst (v := 0) d_Row_rises_27 (by decide) ?_
          exact gg_ireturn d_Row_rises_28 rfl (by decide) ⟨rfl, rfl⟩
  refine gg_K.start (L := [some (.ref r), none]) rfl (plainFor_of_name (by decide)) rfl (Nat.le_of_ble_eq_true rfl) ?_
  refine gg_iconst (v := 1) d_Row_rises_0 (by decide) ?_
  refine gg_istore_n 1 d_Row_rises_1 rfl (by decide) rfl ?_
  dsimp only [List.set]
  exact loop (n - 1) 1 rfl (by decide) (by omega) (fun j q => absurd q (by omega))
set_option maxHeartbeats 4000000 in
set_option maxRecDepth 100000 in
theorem c_Row_firstNotBelow {l : Launch} {D : va_G} {cA : ClassId} {d : Nat} {h : List gg_C} {r a N n : Nat} {f : Nat → Int32} {v : Int32} (hr : gg_row h r a N n f) : gg_K l D cA d y_Row_firstNotBelow b_Row_firstNotBelow 3 (some .int) [.ref r, .int v] h (gg_is (some (.int (nI (sp_nb f v n 0)))) h) := by
  have hN := hr.2.2
  have loop : ∀ k : Nat, ∀ i, n - i = k → i ≤ n → gg_G l D cA d R_Row b_Row_firstNotBelow 3 (some .int) (gg_is (some (.int (nI (sp_nb f v k i)))) h) 2 [some (.ref r), some (.int v), some (.int (nI i))] [] (h) := by
    intro k
    induction k with
    | zero =>
      intro i hk hi
      refine gg_iload_n 2 d_Row_firstNotBelow_2 rfl rfl ?_
      refine gg_aload_n 0 d_Row_firstNotBelow_3 rfl rfl ?_
      refine gg_get f_Row_13 d_Row_firstNotBelow_4 hr.1 rfl ?_
      refine gg_icmp_ge 26 d_Row_firstNotBelow_7 (by decide) (fun c7 => ?_) (fun c7 => ?_)
      · refine gg_iload_n 2 d_Row_firstNotBelow_26 rfl rfl ?_
        exact gg_ireturn d_Row_firstNotBelow_27 rfl rfl ⟨rfl, rfl⟩
      · exact absurd (nI_le (by omega) (by omega)) c7
    | succ k ih =>
      intro i hk hi
      refine gg_iload_n 2 d_Row_firstNotBelow_2 rfl rfl ?_
      refine gg_aload_n 0 d_Row_firstNotBelow_3 rfl rfl ?_
      refine gg_get f_Row_13 d_Row_firstNotBelow_4 hr.1 rfl ?_
      refine gg_icmp_ge 26 d_Row_firstNotBelow_7 (by decide) (fun c7 => ?_) (fun c7 => ?_)
      · exact absurd c7 (nI_ge (by omega) (by omega))
      · refine gg_aload_n 0 d_Row_firstNotBelow_10 rfl rfl ?_
        refine gg_get f_Row_7 d_Row_firstNotBelow_11 hr.1 rfl ?_
        refine gg_iload_n 2 d_Row_firstNotBelow_14 rfl rfl ?_
        refine gg_iald d_Row_firstNotBelow_15 hr.2.1 (by omega) (by omega) ?_
        refine gg_iload_n 1 d_Row_firstNotBelow_16 rfl rfl ?_
        refine gg_icmp_ge 26 d_Row_firstNotBelow_17 (by decide) (fun c17 => ?_) (fun c17 => ?_)
        · rw [sp_nb_ge (Int32.not_lt.mpr c17)]
          refine gg_iload_n 2 d_Row_firstNotBelow_26 rfl rfl ?_
          exact gg_ireturn d_Row_firstNotBelow_27 rfl rfl ⟨rfl, rfl⟩
        · rw [sp_nb_lt (Int32.not_le.mp c17)]
          refine gg_iinc (1) d_Row_firstNotBelow_20 rfl (by decide) (by decide) rfl ?_
          dsimp only [List.set]
          refine gg_goto 2 d_Row_firstNotBelow_23 (by decide) ?_
          rw [nI_1]
          exact ih (i + 1) (by omega) (by omega)
  refine gg_K.start (L := [some (.ref r), some (.int v), none]) rfl (plainFor_of_name (by decide)) rfl (Nat.le_of_ble_eq_true rfl) ?_
  refine gg_iconst (v := 0) d_Row_firstNotBelow_0 (by decide) ?_
  refine gg_istore_n 2 d_Row_firstNotBelow_1 rfl (by decide) rfl ?_
  dsimp only [List.set]
  exact loop n 0 rfl (Nat.zero_le n)
