/-- does one of k values of g, from j on, stand in f below n: 0, else 1 -/
def mo_an (f : Nat → Int32) (n : Nat) (g : Nat → Int32) : Nat → Nat → Int64
  | 0, _ => 1
  | k + 1, j => if sp_ct f (g j) n = 0 then mo_an f n g k (j + 1) else 0
theorem mo_an_e {f g : Nat → Int32} {n k j : Nat} (h : sp_ct f (g j) n = 0) : mo_an f n g (k + 1) j = mo_an f n g k (j + 1) := if_pos h
theorem mo_an_n {f g : Nat → Int32} {n k j : Nat} (h : ¬ sp_ct f (g j) n = 0) : mo_an f n g (k + 1) j = 0 := if_neg h
theorem mo_le0 {c : Nat} (h : c < 2 ^ 31) : nI c ≤ 0 ↔ c = 0 := by
  have h0 : (0 : Int32).toInt = 0 := by decide
  rw [Int32.le_iff_toInt_le, nI_toInt h, h0]
  omega
/-- f laid over g below i -/
def mo_cp (g f : Nat → Int32) (i : Nat) : Nat → Int32 := fun j => if j < i then f j else g j
theorem mo_cp0 (g f : Nat → Int32) : mo_cp g f 0 = g := by
  funext j
  unfold mo_cp
  rw [if_neg (by omega)]
theorem mo_cp_step (g f : Nat → Int32) (i : Nat) : upd (mo_cp g f i) i (f i) = mo_cp g f (i + 1) := by
  funext j
  unfold upd mo_cp
  by_cases h : j = i
  · subst h
    rw [if_pos rfl, if_pos (by omega)]
  · rw [if_neg h]
    by_cases h2 : j < i
    · rw [if_pos h2, if_pos (by omega)]
    · rw [if_neg h2, if_neg (by omega)]
theorem mo_cp_at {g f : Nat → Int32} {n j : Nat} (h : j < n) : mo_cp g f n j = f j := if_pos h
/-- i of g laid behind n -/
def mo_ap (f : Nat → Int32) (n : Nat) (g : Nat → Int32) (i : Nat) : Nat → Int32 := fun j => if n ≤ j ∧ j < n + i then g (j - n) else f j
theorem mo_ap0 (f : Nat → Int32) (n : Nat) (g : Nat → Int32) : mo_ap f n g 0 = f := by
  funext j
  unfold mo_ap
  rw [if_neg (by omega)]
theorem mo_ap_step (f : Nat → Int32) (n : Nat) (g : Nat → Int32) (i : Nat) : upd (mo_ap f n g i) (n + i) (g i) = mo_ap f n g (i + 1) := by
  funext j
  unfold upd mo_ap
  by_cases h : j = n + i
  · rw [if_pos h, if_pos (by omega), show j - n = i by omega]
  · rw [if_neg h]
    by_cases h2 : n ≤ j ∧ j < n + i
    · rw [if_pos h2, if_pos (by omega)]
    · rw [if_neg h2, if_neg (by omega)]
/-- the row turned round, i of them laid -/
def mo_rv (f : Nat → Int32) (n i : Nat) : Nat → Int32 := fun j => if n ≤ j + i ∧ j < n then f (n - 1 - j) else f j
theorem mo_rv0 (f : Nat → Int32) (n : Nat) : mo_rv f n 0 = f := by
  funext j
  unfold mo_rv
  rw [if_neg (by omega)]
theorem mo_rv_step {f : Nat → Int32} {n i : Nat} (h : i < n) : upd (mo_rv f n i) (n - 1 - i) (f i) = mo_rv f n (i + 1) := by
  funext j
  unfold upd mo_rv
  by_cases h1 : j = n - 1 - i
  · rw [if_pos h1, if_pos (by omega), show n - 1 - j = i by omega]
  · rw [if_neg h1]
    by_cases h2 : n ≤ j + i ∧ j < n
    · rw [if_pos h2, if_pos (by omega)]
    · rw [if_neg h2, if_neg (by omega)]
/-- where k goes, and what comes to j, when a row of n is turned by x -/
def mo_on (x : Int32) (n k : Nat) : Nat := (((k : Int) + x.toInt) % (n : Int)).toNat
def mo_iv (x : Int32) (n j : Nat) : Nat := (((j : Int) - x.toInt) % (n : Int)).toNat
theorem mo_on_lt (x : Int32) {n : Nat} (h : 0 < n) (k : Nat) : mo_on x n k < n := by
  unfold mo_on
  have h1 := Int.emod_nonneg ((k : Int) + x.toInt) (show (n : Int) ≠ 0 by omega)
  have h2 := Int.emod_lt_of_pos ((k : Int) + x.toInt) (show (0 : Int) < n by omega)
  omega
theorem mo_iv_on (x : Int32) {n k : Nat} (h : k < n) : mo_iv x n (mo_on x n k) = k := by
  unfold mo_iv mo_on
  have h1 := Int.emod_nonneg ((k : Int) + x.toInt) (show (n : Int) ≠ 0 by omega)
  rw [Int.toNat_of_nonneg h1]
  have e : (((k : Int) + x.toInt) % (n : Int) - x.toInt) % (n : Int) = (k : Int) % n := by
    rw [Int.sub_emod, Int.emod_emod_of_dvd _ (Int.dvd_refl _), ← Int.sub_emod]
    congr 1
    omega
  rw [e, Int.emod_eq_of_lt (by omega) (by omega)]
  omega
theorem mo_on_iv (x : Int32) {n j : Nat} (h : j < n) : mo_on x n (mo_iv x n j) = j := by
  unfold mo_iv mo_on
  have h1 := Int.emod_nonneg ((j : Int) - x.toInt) (show (n : Int) ≠ 0 by omega)
  rw [Int.toNat_of_nonneg h1]
  have e : (((j : Int) - x.toInt) % (n : Int) + x.toInt) % (n : Int) = (j : Int) % n := by
    rw [Int.add_emod, Int.emod_emod_of_dvd _ (Int.dvd_refl _), ← Int.add_emod]
    congr 1
    omega
  rw [e, Int.emod_eq_of_lt (by omega) (by omega)]
  omega
def mo_ro (f : Nat → Int32) (x : Int32) (n i : Nat) : Nat → Int32 := fun j => if j < n ∧ mo_iv x n j < i then f (mo_iv x n j) else f j
theorem mo_ro0 (f : Nat → Int32) (x : Int32) (n : Nat) : mo_ro f x n 0 = f := by
  funext j
  unfold mo_ro
  rw [if_neg (by omega)]
theorem mo_ro_step {f : Nat → Int32} {x : Int32} {n i : Nat} (h : i < n) : upd (mo_ro f x n i) (mo_on x n i) (f i) = mo_ro f x n (i + 1) := by
  funext j
  unfold upd mo_ro
  by_cases h1 : j = mo_on x n i
  · have h2 := mo_on_lt x (show 0 < n by omega) i
    subst h1
    rw [if_pos rfl, mo_iv_on x h, if_pos (by omega)]
  · rw [if_neg h1]
    by_cases h2 : j < n ∧ mo_iv x n j < i
    · rw [if_pos h2, if_pos (by omega)]
    · rw [if_neg h2, if_neg]
      intro q
      have h3 : mo_iv x n j = i := by omega
      exact h1 (by rw [← h3, mo_on_iv x q.1])
/-- the remainder, by a number above 0 -/
theorem mo_rem64 {x y : Int64} (hy : 0 < y.toInt) : (x - x / y * y).toInt = x.toInt.tmod y.toInt := by
  have hne : ¬ y = -1 := fun q => by
    rw [q] at hy
    exact absurd hy (by decide)
  have h1 : (x / y).toInt = x.toInt.tdiv y.toInt := Int64.toInt_div_of_ne_right x y hne
  have h2 := Int.mul_tdiv_add_tmod x.toInt y.toInt
  have hb := tmod_bounds (a := x.toInt) (M := y.toInt) hy
  have l1 := Int64.le_toInt x
  have l2 := Int64.toInt_lt x
  have l3 := Int64.toInt_lt y
  have h3 : x.toInt.tdiv y.toInt * y.toInt = x.toInt - x.toInt.tmod y.toInt := by
    rw [Int.mul_comm]
    omega
  have h4 : -(2 ^ 63) ≤ x.toInt - x.toInt.tmod y.toInt ∧ x.toInt - x.toInt.tmod y.toInt < 2 ^ 63 := by
    rcases Int.le_total 0 x.toInt with z | z
    · have := Int.tmod_nonneg y.toInt z
      omega
    · have := Int.tmod_nonneg y.toInt (show 0 ≤ -x.toInt by omega)
      rw [Int.neg_tmod] at this
      omega
  have h5 : (x / y * y).toInt = x.toInt - x.toInt.tmod y.toInt := by
    rw [Int64.toInt_mul, h1, h3]
    exact Int.bmod_eq_of_le (by omega) (by omega)
  rw [Int64.toInt_sub, h5, show x.toInt - (x.toInt - x.toInt.tmod y.toInt) = x.toInt.tmod y.toInt by omega]
  exact Int.bmod_eq_of_le (by omega) (by omega)
/-- the long that 'on' reckons with -/
theorem mo_s64 {k : Nat} {x : Int32} (hk : k < 2 ^ 31) : ((nI k).toInt64 + x.toInt64).toInt = (k : Int) + x.toInt := by
  rw [Int64.toInt_add, Int32.toInt_toInt64, Int32.toInt_toInt64, nI_toInt hk]
  have h1 := Int32.le_toInt x
  have h2 := Int32.toInt_lt x
  exact Int.bmod_eq_of_le (by omega) (by omega)
theorem mo_ln_ne {n : Nat} (h0 : 0 < n) (hn : n < 2 ^ 31) : ¬ (nI n).toInt64 = 0 := by
  rw [nI_l hn, show (0 : Int64) = lN 0 from by decide, lN_eq hn (by decide)]
  omega
theorem mo_cmp {r : Int64} : 0 ≤ lg_cmp r 0 ↔ 0 ≤ r.toInt := by
  have h0 : (0 : Int64).toInt = 0 := by decide
  unfold lg_cmp
  by_cases h1 : r > 0
  · rw [if_pos h1]
    have h1 : (0 : Int64) < r := h1
    rw [Int64.lt_iff_toInt_lt, h0] at h1
    exact ⟨fun _ => by omega, fun _ => by decide⟩
  · rw [if_neg h1]
    have h1 : ¬ (0 : Int64) < r := h1
    rw [Int64.lt_iff_toInt_lt, h0] at h1
    by_cases h2 : r = 0
    · rw [if_pos h2]
      subst h2
      exact ⟨fun _ => by rw [h0]; exact Int.le_refl 0, fun _ => by decide⟩
    · rw [if_neg h2]
      have h3 : ¬ r.toInt = 0 := fun q => h2 (Int64.toInt_inj.mp (by rw [q, h0]))
      exact ⟨fun q => absurd q (by decide), fun q => by omega⟩
theorem mo_on_pos {k n : Nat} {x : Int32} {s : Int64} (hs : s.toInt = (k : Int) + x.toInt) (h0 : 0 < n) (hn : n < 2 ^ 31) (h : 0 ≤ (s - s / (nI n).toInt64 * (nI n).toInt64).toInt) : (s - s / (nI n).toInt64 * (nI n).toInt64).toInt32 = nI (mo_on x n k) := by
  have hl := mo_on_lt x h0 k
  have hy0 : 0 < ((nI n).toInt64).toInt := by
    rw [nI_l hn, lN_toInt hn]
    omega
  have e : s - s / (nI n).toInt64 * (nI n).toInt64 = lN (mo_on x n k) := by
    apply Int64.toInt_inj.mp
    rw [mo_rem64 hy0, hs, nI_l hn, lN_toInt hn] at h
    rw [mo_rem64 hy0, hs, nI_l hn, lN_toInt hn, lN_toInt (by omega)]
    unfold mo_on
    have h1 := Int.emod_nonneg ((k : Int) + x.toInt) (show (n : Int) ≠ 0 by omega)
    have h2 := Int.emod_lt_of_pos ((k : Int) + x.toInt) (show (0 : Int) < n by omega)
    rcases Int.lt_or_le ((k : Int) + x.toInt) 0 with z | z
    · rw [sp_tmod_neg z (by omega)] at h ⊢
      split at h
      · next q => rw [if_pos q, q]; rfl
      · omega
    · rw [Int.tmod_eq_emod_of_nonneg z]
      omega
  rw [e, lN_i]
theorem mo_on_neg {k n : Nat} {x : Int32} {s : Int64} (hs : s.toInt = (k : Int) + x.toInt) (h0 : 0 < n) (hn : n < 2 ^ 31) (h : ¬ 0 ≤ (s - s / (nI n).toInt64 * (nI n).toInt64).toInt) : (s - s / (nI n).toInt64 * (nI n).toInt64 + (nI n).toInt64).toInt32 = nI (mo_on x n k) := by
  have hl := mo_on_lt x h0 k
  have hy0 : 0 < ((nI n).toInt64).toInt := by
    rw [nI_l hn, lN_toInt hn]
    omega
  have e : s - s / (nI n).toInt64 * (nI n).toInt64 + (nI n).toInt64 = lN (mo_on x n k) := by
    apply Int64.toInt_inj.mp
    rw [mo_rem64 hy0, hs, nI_l hn, lN_toInt hn] at h
    have hb := tmod_bounds (a := (k : Int) + x.toInt) (M := (n : Int)) (by omega)
    rw [Int64.toInt_add, mo_rem64 hy0, hs, nI_l hn, lN_toInt hn, lN_toInt (by omega), Int.bmod_eq_of_le (by omega) (by omega)]
    unfold mo_on
    have h1 := Int.emod_nonneg ((k : Int) + x.toInt) (show (n : Int) ≠ 0 by omega)
    rcases Int.lt_or_le ((k : Int) + x.toInt) 0 with z | z
    · rw [sp_tmod_neg z (by omega)] at h ⊢
      split at h
      · omega
      · next q => rw [if_neg q]; omega
    · rw [Int.tmod_eq_emod_of_nonneg z] at h
      omega
  rw [e, lN_i]
section MDL2
variable {l : Launch} {D : va_G} {cA : ClassId} {d : Nat} {tN oN rN pN bN eN mT mO mW mR mP : Nat} {tF oF rF pF bF eF zT zO zX zB zL zR zP zQ : Nat → Int32} {lo lm : Int64}
set_option maxHeartbeats 4000000 in
set_option maxRecDepth 100000 in
theorem c_Mdl_find_first  {v s : Int32} {j : Nat} (hs : s = 0) (hj : j < mR) (h0 : mR ≤ 600) (hd : 1 ≤ d) : gg_K l D cA d y_Mdl_find b_Mdl_find 6 (some .int) [.ref 14, .int v, .int (nI j), .int s] (hp tN tF oN oF rN rF pN pF bN bF eN eF lo mT mO mW mR mP zT zO zX zB zL zR zP zQ lm) (gg_is (some (.int (mo_ff zR v j mR))) (hp tN tF oN oF rN rF pN pF bN bF eN eF lo mT mO mW mR mP zT zO zX zB zL zR zP zQ lm)) := by
  have loop : ∀ k : Nat, ∀ i, mR - i = k → i ≤ mR → gg_G l D cA d R_Mdl b_Mdl_find 6 (some .int) (gg_is (some (.int (mo_ff zR v j mR))) (hp tN tF oN oF rN rF pN pF bN bF eN eF lo mT mO mW mR mP zT zO zX zB zL zR zP zQ lm)) 16 [some (.ref 14), some (.int v), some (.int (nI j)), some (.int s), some (.int (mo_ff zR v j i)), some (.int (nI i))] [] ((hp tN tF oN oF rN rF pN pF bN bF eN eF lo mT mO mW mR mP zT zO zX zB zL zR zP zQ lm)) := by
    intro k
    induction k with
    | zero =>
      intro i hk hi
      refine gg_iload d_Mdl_find_16 rfl ?_
      refine gg_aload_n 0 d_Mdl_find_18 rfl rfl ?_
      refine gg_get f_Mdl_88 d_Mdl_find_19 rfl rfl ?_
      refine gg_icmp_ge 78 d_Mdl_find_22 (by decide) (fun c22 => ?_) (fun c22 => ?_)
      · refine gg_iload d_Mdl_find_78 rfl ?_
        exact gg_ireturn d_Mdl_find_80 rfl rfl ⟨by rw [show i = mR by omega], rfl⟩
      · exact absurd (nI_le (by omega) (by omega)) c22
    | succ k ih =>
      intro i hk hi
      refine gg_iload d_Mdl_find_16 rfl ?_
      refine gg_aload_n 0 d_Mdl_find_18 rfl rfl ?_
      refine gg_get f_Mdl_88 d_Mdl_find_19 rfl rfl ?_
      refine gg_icmp_ge 78 d_Mdl_find_22 (by decide) (fun c22 => ?_) (fun c22 => ?_)
      · exact absurd c22 (nI_ge (by omega) (by omega))
      · refine gg_aload_n 0 d_Mdl_find_25 rfl rfl ?_
        refine gg_get f_Mdl_25 d_Mdl_find_26 rfl rfl ?_
        refine gg_iload d_Mdl_find_29 rfl ?_
        refine gg_iald d_Mdl_find_31 rfl (by omega) (by decide) ?_
        refine gg_iload_n 1 d_Mdl_find_32 rfl rfl ?_
        refine gg_icmp_ne 72 d_Mdl_find_33 (by decide) (fun c33 => ?_) (fun c33 => ?_)
        · have hq : mo_ff zR v j (i + 1) = mo_ff zR v j i := if_neg (fun z => c33 z.1)
          refine gg_iinc (1) d_Mdl_find_72 rfl (by decide) (by decide) rfl ?_
          dsimp only [List.set]
          refine gg_goto 16 d_Mdl_find_75 (by decide) ?_
          rw [nI_1, ← hq]
          exact ih (i + 1) (by omega) (by omega)
        · refine gg_iload_n 3 d_Mdl_find_36 rfl rfl ?_
          refine gg_if_eq 49 d_Mdl_find_37 (by decide) (fun c37 => ?_) (fun c37 => ?_)
          · refine gg_iload d_Mdl_find_49 rfl ?_
            refine gg_iload_n 2 d_Mdl_find_51 rfl rfl ?_
            refine gg_icmp_ge 58 d_Mdl_find_52 (by decide) (fun c52 => ?_) (fun c52 => ?_)
            · rw [nI_leI (by omega) (by omega)] at c52
              refine gg_iload_n 3 d_Mdl_find_58 rfl rfl ?_
              refine gg_if_ne 68 d_Mdl_find_59 (by decide) (fun c59 => ?_) (fun c59 => ?_)
              · exact absurd hs c59
              · refine gg_iload d_Mdl_find_62 rfl ?_
                refine gg_iconst (v := (-1)) d_Mdl_find_64 (by decide) ?_
                refine gg_icmp_ne 72 d_Mdl_find_65 (by decide) (fun c65 => ?_) (fun c65 => ?_)
                · have hq : mo_ff zR v j (i + 1) = mo_ff zR v j i := if_neg (fun z => c65 z.2.2)
                  refine gg_iinc (1) d_Mdl_find_72 rfl (by decide) (by decide) rfl ?_
                  dsimp only [List.set]
                  refine gg_goto 16 d_Mdl_find_75 (by decide) ?_
                  rw [nI_1, ← hq]
                  exact ih (i + 1) (by omega) (by omega)
                · have hq : mo_ff zR v j (i + 1) = nI i := if_pos ⟨c33, c52, c65⟩
                  refine gg_iload d_Mdl_find_68 rfl ?_
                  refine gg_istore d_Mdl_find_70 (by decide) rfl ?_
                  dsimp only [List.set]
                  refine gg_iinc (1) d_Mdl_find_72 rfl (by decide) (by decide) rfl ?_
                  dsimp only [List.set]
                  refine gg_goto 16 d_Mdl_find_75 (by decide) ?_
                  rw [nI_1, ← hq]
                  exact ih (i + 1) (by omega) (by omega)
            · have hq : mo_ff zR v j (i + 1) = mo_ff zR v j i := if_neg (fun z => c52 (nI_le z.2.1 (by omega)))
              refine gg_goto 72 d_Mdl_find_55 (by decide) ?_
              refine gg_iinc (1) d_Mdl_find_72 rfl (by decide) (by decide) rfl ?_
              dsimp only [List.set]
              refine gg_goto 16 d_Mdl_find_75 (by decide) ?_
              rw [nI_1, ← hq]
              exact ih (i + 1) (by omega) (by omega)
          · exact absurd hs c37
  refine gg_K.start (L := [some (.ref 14), some (.int v), some (.int (nI j)), some (.int s), none, none]) rfl (plainFor_of_name (by decide)) rfl (Nat.le_of_ble_eq_true rfl) ?_
  refine gg_aload_n 0 d_Mdl_find_0 rfl rfl ?_
  refine gg_iload_n 2 d_Mdl_find_1 rfl rfl ?_
  refine gg_cv1 m_Mdl_91 d_Mdl_find_2 (c_Mdl_none (d := 0) h0) rfl rfl rfl rfl (by omega) rfl (Nat.le_of_ble_eq_true rfl) ?_
  rw [sp_bf (not_not_intro (sp_in_of hj (by omega)))]
  refine gg_if_eq 10 d_Mdl_find_5 (by decide) (fun c5 => ?_) (fun c5 => ?_)
  · refine gg_iconst (v := (-1)) d_Mdl_find_10 (by decide) ?_
    refine gg_istore d_Mdl_find_11 (by decide) rfl ?_
    dsimp only [List.set]
    refine gg_iconst (v := 0) d_Mdl_find_13 (by decide) ?_
    refine gg_istore d_Mdl_find_14 (by decide) rfl ?_
    dsimp only [List.set]
    exact loop mR 0 rfl (Nat.zero_le _)
  · exact absurd rfl c5
set_option maxHeartbeats 4000000 in
set_option maxRecDepth 100000 in
theorem c_Mdl_find_last  {v s : Int32} {j : Nat} (hs : ¬ s = 0) (hj : j < mR) (h0 : mR ≤ 600) (hd : 1 ≤ d) : gg_K l D cA d y_Mdl_find b_Mdl_find 6 (some .int) [.ref 14, .int v, .int (nI j), .int s] (hp tN tF oN oF rN rF pN pF bN bF eN eF lo mT mO mW mR mP zT zO zX zB zL zR zP zQ lm) (gg_is (some (.int (mo_fl zR v j mR))) (hp tN tF oN oF rN rF pN pF bN bF eN eF lo mT mO mW mR mP zT zO zX zB zL zR zP zQ lm)) := by
  have loop : ∀ k : Nat, ∀ i, mR - i = k → i ≤ mR → gg_G l D cA d R_Mdl b_Mdl_find 6 (some .int) (gg_is (some (.int (mo_fl zR v j mR))) (hp tN tF oN oF rN rF pN pF bN bF eN eF lo mT mO mW mR mP zT zO zX zB zL zR zP zQ lm)) 16 [some (.ref 14), some (.int v), some (.int (nI j)), some (.int s), some (.int (mo_fl zR v j i)), some (.int (nI i))] [] ((hp tN tF oN oF rN rF pN pF bN bF eN eF lo mT mO mW mR mP zT zO zX zB zL zR zP zQ lm)) := by
    intro k
    induction k with
    | zero =>
      intro i hk hi
      refine gg_iload d_Mdl_find_16 rfl ?_
      refine gg_aload_n 0 d_Mdl_find_18 rfl rfl ?_
      refine gg_get f_Mdl_88 d_Mdl_find_19 rfl rfl ?_
      refine gg_icmp_ge 78 d_Mdl_find_22 (by decide) (fun c22 => ?_) (fun c22 => ?_)
      · refine gg_iload d_Mdl_find_78 rfl ?_
        exact gg_ireturn d_Mdl_find_80 rfl rfl ⟨by rw [show i = mR by omega], rfl⟩
      · exact absurd (nI_le (by omega) (by omega)) c22
    | succ k ih =>
      intro i hk hi
      refine gg_iload d_Mdl_find_16 rfl ?_
      refine gg_aload_n 0 d_Mdl_find_18 rfl rfl ?_
      refine gg_get f_Mdl_88 d_Mdl_find_19 rfl rfl ?_
      refine gg_icmp_ge 78 d_Mdl_find_22 (by decide) (fun c22 => ?_) (fun c22 => ?_)
      · exact absurd c22 (nI_ge (by omega) (by omega))
      · refine gg_aload_n 0 d_Mdl_find_25 rfl rfl ?_
        refine gg_get f_Mdl_25 d_Mdl_find_26 rfl rfl ?_
        refine gg_iload d_Mdl_find_29 rfl ?_
        refine gg_iald d_Mdl_find_31 rfl (by omega) (by decide) ?_
        refine gg_iload_n 1 d_Mdl_find_32 rfl rfl ?_
        refine gg_icmp_ne 72 d_Mdl_find_33 (by decide) (fun c33 => ?_) (fun c33 => ?_)
        · have hq : mo_fl zR v j (i + 1) = mo_fl zR v j i := if_neg (fun z => c33 z.1)
          refine gg_iinc (1) d_Mdl_find_72 rfl (by decide) (by decide) rfl ?_
          dsimp only [List.set]
          refine gg_goto 16 d_Mdl_find_75 (by decide) ?_
          rw [nI_1, ← hq]
          exact ih (i + 1) (by omega) (by omega)
        · refine gg_iload_n 3 d_Mdl_find_36 rfl rfl ?_
          refine gg_if_eq 49 d_Mdl_find_37 (by decide) (fun c37 => ?_) (fun c37 => ?_)
          · exact absurd c37 hs
          · refine gg_iload d_Mdl_find_40 rfl ?_
            refine gg_iload_n 2 d_Mdl_find_42 rfl rfl ?_
            refine gg_icmp_le 58 d_Mdl_find_43 (by decide) (fun c43 => ?_) (fun c43 => ?_)
            · rw [nI_leI (by omega) (by omega)] at c43
              have hq : mo_fl zR v j (i + 1) = nI i := if_pos ⟨c33, c43⟩
              refine gg_iload_n 3 d_Mdl_find_58 rfl rfl ?_
              refine gg_if_ne 68 d_Mdl_find_59 (by decide) (fun c59 => ?_) (fun c59 => ?_)
              · refine gg_iload d_Mdl_find_68 rfl ?_
                refine gg_istore d_Mdl_find_70 (by decide) rfl ?_
                dsimp only [List.set]
                refine gg_iinc (1) d_Mdl_find_72 rfl (by decide) (by decide) rfl ?_
                dsimp only [List.set]
                refine gg_goto 16 d_Mdl_find_75 (by decide) ?_
                rw [nI_1, ← hq]
                exact ih (i + 1) (by omega) (by omega)
              · exact absurd c59 hs
            · have hq : mo_fl zR v j (i + 1) = mo_fl zR v j i := if_neg (fun z => c43 (nI_le z.2 (by omega)))
              refine gg_goto 72 d_Mdl_find_46 (by decide) ?_
              refine gg_iinc (1) d_Mdl_find_72 rfl (by decide) (by decide) rfl ?_
              dsimp only [List.set]
              refine gg_goto 16 d_Mdl_find_75 (by decide) ?_
              rw [nI_1, ← hq]
              exact ih (i + 1) (by omega) (by omega)
  refine gg_K.start (L := [some (.ref 14), some (.int v), some (.int (nI j)), some (.int s), none, none]) rfl (plainFor_of_name (by decide)) rfl (Nat.le_of_ble_eq_true rfl) ?_
  refine gg_aload_n 0 d_Mdl_find_0 rfl rfl ?_
  refine gg_iload_n 2 d_Mdl_find_1 rfl rfl ?_
  refine gg_cv1 m_Mdl_91 d_Mdl_find_2 (c_Mdl_none (d := 0) h0) rfl rfl rfl rfl (by omega) rfl (Nat.le_of_ble_eq_true rfl) ?_
  rw [sp_bf (not_not_intro (sp_in_of hj (by omega)))]
  refine gg_if_eq 10 d_Mdl_find_5 (by decide) (fun c5 => ?_) (fun c5 => ?_)
  · refine gg_iconst (v := (-1)) d_Mdl_find_10 (by decide) ?_
    refine gg_istore d_Mdl_find_11 (by decide) rfl ?_
    dsimp only [List.set]
    refine gg_iconst (v := 0) d_Mdl_find_13 (by decide) ?_
    refine gg_istore d_Mdl_find_14 (by decide) rfl ?_
    dsimp only [List.set]
    exact loop mR 0 rfl (Nat.zero_le _)
  · exact absurd rfl c5
set_option maxHeartbeats 4000000 in
set_option maxRecDepth 100000 in
theorem c_Mdl_find_bad  {v s y : Int32} (hi : ¬ sp_in y mR) (h0 : mR ≤ 600) (hd : 1 ≤ d) : gg_K l D cA d y_Mdl_find b_Mdl_find 6 (some .int) [.ref 14, .int v, .int y, .int s] (hp tN tF oN oF rN rF pN pF bN bF eN eF lo mT mO mW mR mP zT zO zX zB zL zR zP zQ lm) (gg_is (some (.int (-1))) (hp tN tF oN oF rN rF pN pF bN bF eN eF lo mT mO mW mR mP zT zO zX zB zL zR zP zQ lm)) := by
  refine gg_K.start (L := [some (.ref 14), some (.int v), some (.int y), some (.int s), none, none]) rfl (plainFor_of_name (by decide)) rfl (Nat.le_of_ble_eq_true rfl) ?_
  refine gg_aload_n 0 d_Mdl_find_0 rfl rfl ?_
  refine gg_iload_n 2 d_Mdl_find_1 rfl rfl ?_
  refine gg_cv1 m_Mdl_91 d_Mdl_find_2 (c_Mdl_none (d := 0) h0) rfl rfl rfl rfl (by omega) rfl (Nat.le_of_ble_eq_true rfl) ?_
  rw [sp_bt hi]
  refine gg_if_eq 10 d_Mdl_find_5 (by decide) (fun c5 => ?_) (fun c5 => ?_)
  · exact absurd c5 (by decide)
  · refine gg_iconst (v := (-1)) d_Mdl_find_8 (by decide) ?_
    exact gg_ireturn d_Mdl_find_9 rfl rfl ⟨rfl, rfl⟩
set_option maxHeartbeats 4000000 in
set_option maxRecDepth 100000 in
theorem c_Mdl_seek  {v : Int32} {q : Nat} (h1 : sp_up zR mR) (hq0 : mo_bl zR v mR = q) (hq1 : q ≤ mR) (h0 : mR ≤ 600) : gg_K l D cA d y_Mdl_seek b_Mdl_seek 4 (some .int) [.ref 14, .int v] (hp tN tF oN oF rN rF pN pF bN bF eN eF lo mT mO mW mR mP zT zO zX zB zL zR zP zQ lm) (gg_is (some (.int (if q < mR ∧ zR q = v then nI q else -1 - nI q))) (hp tN tF oN oF rN rF pN pF bN bF eN eF lo mT mO mW mR mP zT zO zX zB zL zR zP zQ lm)) := by
  have loop : ∀ k : Nat, ∀ i, mR - i = k → i ≤ mR → gg_G l D cA d R_Mdl b_Mdl_seek 4 (some .int) (gg_is (some (.int (if q < mR ∧ zR q = v then nI q else -1 - nI q))) (hp tN tF oN oF rN rF pN pF bN bF eN eF lo mT mO mW mR mP zT zO zX zB zL zR zP zQ lm)) 4 [some (.ref 14), some (.int v), some (.int (nI (mo_bl zR v i))), some (.int (nI i))] [] ((hp tN tF oN oF rN rF pN pF bN bF eN eF lo mT mO mW mR mP zT zO zX zB zL zR zP zQ lm)) := by
    intro k
    induction k with
    | zero =>
      intro i hk hi
      refine gg_iload_n 3 d_Mdl_seek_4 rfl rfl ?_
      refine gg_aload_n 0 d_Mdl_seek_5 rfl rfl ?_
      refine gg_get f_Mdl_88 d_Mdl_seek_6 rfl rfl ?_
      refine gg_icmp_ge 56 d_Mdl_seek_9 (by decide) (fun c9 => ?_) (fun c9 => ?_)
      · rw [show i = mR by omega, hq0]
        refine gg_iload_n 2 d_Mdl_seek_56 rfl rfl ?_
        refine gg_aload_n 0 d_Mdl_seek_57 rfl rfl ?_
        refine gg_get f_Mdl_88 d_Mdl_seek_58 rfl rfl ?_
        refine gg_icmp_ge 78 d_Mdl_seek_61 (by decide) (fun c61 => ?_) (fun c61 => ?_)
        · rw [nI_leI (by omega) (by omega)] at c61
          rw [if_neg (fun z => by have := z.1; omega)]
          refine gg_iconst (v := (-1)) d_Mdl_seek_78 (by decide) ?_
          refine gg_iload_n 2 d_Mdl_seek_79 rfl rfl ?_
          refine gg_isub d_Mdl_seek_80 ?_
          exact gg_ireturn d_Mdl_seek_81 rfl rfl ⟨rfl, rfl⟩
        · rw [nI_leI (by omega) (by omega)] at c61
          refine gg_aload_n 0 d_Mdl_seek_64 rfl rfl ?_
          refine gg_get f_Mdl_25 d_Mdl_seek_65 rfl rfl ?_
          refine gg_iload_n 2 d_Mdl_seek_68 rfl rfl ?_
          refine gg_iald d_Mdl_seek_69 rfl (by omega) (by decide) ?_
          refine gg_iload_n 1 d_Mdl_seek_70 rfl rfl ?_
          refine gg_icmp_ne 78 d_Mdl_seek_71 (by decide) (fun c71 => ?_) (fun c71 => ?_)
          · rw [if_neg (fun z => c71 z.2)]
            refine gg_iconst (v := (-1)) d_Mdl_seek_78 (by decide) ?_
            refine gg_iload_n 2 d_Mdl_seek_79 rfl rfl ?_
            refine gg_isub d_Mdl_seek_80 ?_
            exact gg_ireturn d_Mdl_seek_81 rfl rfl ⟨rfl, rfl⟩
          · rw [if_pos ⟨by omega, c71⟩]
            refine gg_iload_n 2 d_Mdl_seek_74 rfl rfl ?_
            refine gg_goto 81 d_Mdl_seek_75 (by decide) ?_
            exact gg_ireturn d_Mdl_seek_81 rfl rfl ⟨rfl, rfl⟩
      · exact absurd (nI_le (by omega) (by omega)) c9
    | succ k ih =>
      intro i hk hi
      refine gg_iload_n 3 d_Mdl_seek_4 rfl rfl ?_
      refine gg_aload_n 0 d_Mdl_seek_5 rfl rfl ?_
      refine gg_get f_Mdl_88 d_Mdl_seek_6 rfl rfl ?_
      refine gg_icmp_ge 56 d_Mdl_seek_9 (by decide) (fun c9 => ?_) (fun c9 => ?_)
      · exact absurd c9 (nI_ge (by omega) (by omega))
      · refine gg_iload_n 3 d_Mdl_seek_12 rfl rfl ?_
        refine gg_if_le 37 d_Mdl_seek_13 (by decide) (fun c13 => ?_) (fun c13 => ?_)
        · refine gg_aload_n 0 d_Mdl_seek_37 rfl rfl ?_
          refine gg_get f_Mdl_25 d_Mdl_seek_38 rfl rfl ?_
          refine gg_iload_n 3 d_Mdl_seek_41 rfl rfl ?_
          refine gg_iald d_Mdl_seek_42 rfl (by omega) (by decide) ?_
          refine gg_iload_n 1 d_Mdl_seek_43 rfl rfl ?_
          refine gg_icmp_ge 50 d_Mdl_seek_44 (by decide) (fun c44 => ?_) (fun c44 => ?_)
          · have hq : mo_bl zR v (i + 1) = mo_bl zR v i := if_neg (Int32.not_lt.mpr c44)
            refine gg_iinc (1) d_Mdl_seek_50 rfl (by decide) (by decide) rfl ?_
            dsimp only [List.set]
            refine gg_goto 4 d_Mdl_seek_53 (by decide) ?_
            simp only [nI_1]
            rw [← hq]
            exact ih (i + 1) (by omega) (by omega)
          · have hq : mo_bl zR v (i + 1) = mo_bl zR v i + 1 := if_pos (Int32.not_le.mp c44)
            refine gg_iinc (1) d_Mdl_seek_47 rfl (by decide) (by decide) rfl ?_
            dsimp only [List.set]
            refine gg_iinc (1) d_Mdl_seek_50 rfl (by decide) (by decide) rfl ?_
            dsimp only [List.set]
            refine gg_goto 4 d_Mdl_seek_53 (by decide) ?_
            simp only [nI_1]
            rw [← hq]
            exact ih (i + 1) (by omega) (by omega)
        · have hpos : 0 < i := by rcases Nat.eq_zero_or_pos i with z | z; exact absurd (by rw [z]; decide) c13; exact z
          refine gg_aload_n 0 d_Mdl_seek_16 rfl rfl ?_
          refine gg_get f_Mdl_25 d_Mdl_seek_17 rfl rfl ?_
          refine gg_iload_n 3 d_Mdl_seek_20 rfl rfl ?_
          refine gg_iconst (v := 1) d_Mdl_seek_21 (by decide) ?_
          refine gg_isub d_Mdl_seek_22 ?_
          rw [sp_pred hpos]
          refine gg_iald d_Mdl_seek_23 rfl (by omega) (by decide) ?_
          refine gg_aload_n 0 d_Mdl_seek_24 rfl rfl ?_
          refine gg_get f_Mdl_25 d_Mdl_seek_25 rfl rfl ?_
          refine gg_iload_n 3 d_Mdl_seek_28 rfl rfl ?_
          refine gg_iald d_Mdl_seek_29 rfl (by omega) (by decide) ?_
          refine gg_icmp_lt 37 d_Mdl_seek_30 (by decide) (fun c30 => ?_) (fun c30 => ?_)
          · refine gg_aload_n 0 d_Mdl_seek_37 rfl rfl ?_
            refine gg_get f_Mdl_25 d_Mdl_seek_38 rfl rfl ?_
            refine gg_iload_n 3 d_Mdl_seek_41 rfl rfl ?_
            refine gg_iald d_Mdl_seek_42 rfl (by omega) (by decide) ?_
            refine gg_iload_n 1 d_Mdl_seek_43 rfl rfl ?_
            refine gg_icmp_ge 50 d_Mdl_seek_44 (by decide) (fun c44 => ?_) (fun c44 => ?_)
            · have hq : mo_bl zR v (i + 1) = mo_bl zR v i := if_neg (Int32.not_lt.mpr c44)
              refine gg_iinc (1) d_Mdl_seek_50 rfl (by decide) (by decide) rfl ?_
              dsimp only [List.set]
              refine gg_goto 4 d_Mdl_seek_53 (by decide) ?_
              simp only [nI_1]
              rw [← hq]
              exact ih (i + 1) (by omega) (by omega)
            · have hq : mo_bl zR v (i + 1) = mo_bl zR v i + 1 := if_pos (Int32.not_le.mp c44)
              refine gg_iinc (1) d_Mdl_seek_47 rfl (by decide) (by decide) rfl ?_
              dsimp only [List.set]
              refine gg_iinc (1) d_Mdl_seek_50 rfl (by decide) (by decide) rfl ?_
              dsimp only [List.set]
              refine gg_goto 4 d_Mdl_seek_53 (by decide) ?_
              simp only [nI_1]
              rw [← hq]
              exact ih (i + 1) (by omega) (by omega)
          · exact absurd (by have := h1 (i - 1) (by omega); rwa [show i - 1 + 1 = i by omega] at this) c30
  refine gg_K.start (L := [some (.ref 14), some (.int v), none, none]) rfl (plainFor_of_name (by decide)) rfl (Nat.le_of_ble_eq_true rfl) ?_
  refine gg_iconst (v := 0) d_Mdl_seek_0 (by decide) ?_
  refine gg_istore_n 2 d_Mdl_seek_1 rfl (by decide) rfl ?_
  dsimp only [List.set]
  refine gg_iconst (v := 0) d_Mdl_seek_2 (by decide) ?_
  refine gg_istore_n 3 d_Mdl_seek_3 rfl (by decide) rfl ?_
  dsimp only [List.set]
  exact loop mR 0 rfl (Nat.zero_le _)
set_option maxHeartbeats 4000000 in
set_option maxRecDepth 100000 in
theorem c_Mdl_seek_bad  {v : Int32} (h1 : ¬ sp_up zR mR) (h0 : mR ≤ 600) : gg_K l D cA d y_Mdl_seek b_Mdl_seek 4 (some .int) [.ref 14, .int v] (hp tN tF oN oF rN rF pN pF bN bF eN eF lo mT mO mW mR mP zT zO zX zB zL zR zP zQ lm) (gg_is (some (.int (-1000))) (hp tN tF oN oF rN rF pN pF bN bF eN eF lo mT mO mW mR mP zT zO zX zB zL zR zP zQ lm)) := by
  have loop : ∀ k : Nat, ∀ i b, mR - i = k → i ≤ mR → (∀ j, j + 1 < i → zR j < zR (j + 1)) → gg_G l D cA d R_Mdl b_Mdl_seek 4 (some .int) (gg_is (some (.int (-1000))) (hp tN tF oN oF rN rF pN pF bN bF eN eF lo mT mO mW mR mP zT zO zX zB zL zR zP zQ lm)) 4 [some (.ref 14), some (.int v), some (.int b), some (.int (nI i))] [] ((hp tN tF oN oF rN rF pN pF bN bF eN eF lo mT mO mW mR mP zT zO zX zB zL zR zP zQ lm)) := by
    intro k
    induction k with
    | zero =>
      intro i b hk hi hj
      refine gg_iload_n 3 d_Mdl_seek_4 rfl rfl ?_
      refine gg_aload_n 0 d_Mdl_seek_5 rfl rfl ?_
      refine gg_get f_Mdl_88 d_Mdl_seek_6 rfl rfl ?_
      refine gg_icmp_ge 56 d_Mdl_seek_9 (by decide) (fun c9 => ?_) (fun c9 => ?_)
      · exact absurd (show sp_up zR mR from fun j q => hj j (by omega)) h1
      · exact absurd (nI_le (by omega) (by omega)) c9
    | succ k ih =>
      intro i b hk hi hj
      refine gg_iload_n 3 d_Mdl_seek_4 rfl rfl ?_
      refine gg_aload_n 0 d_Mdl_seek_5 rfl rfl ?_
      refine gg_get f_Mdl_88 d_Mdl_seek_6 rfl rfl ?_
      refine gg_icmp_ge 56 d_Mdl_seek_9 (by decide) (fun c9 => ?_) (fun c9 => ?_)
      · exact absurd c9 (nI_ge (by omega) (by omega))
      · refine gg_iload_n 3 d_Mdl_seek_12 rfl rfl ?_
        refine gg_if_le 37 d_Mdl_seek_13 (by decide) (fun c13 => ?_) (fun c13 => ?_)
        · have hz : i = 0 := (mo_le0 (by omega)).mp c13
          have hj2 : ∀ j, j + 1 < i + 1 → zR j < zR (j + 1) := fun j q => absurd q (by omega)
          refine gg_aload_n 0 d_Mdl_seek_37 rfl rfl ?_
          refine gg_get f_Mdl_25 d_Mdl_seek_38 rfl rfl ?_
          refine gg_iload_n 3 d_Mdl_seek_41 rfl rfl ?_
          refine gg_iald d_Mdl_seek_42 rfl (by omega) (by decide) ?_
          refine gg_iload_n 1 d_Mdl_seek_43 rfl rfl ?_
          refine gg_icmp_ge 50 d_Mdl_seek_44 (by decide) (fun c44 => ?_) (fun c44 => ?_)
          · refine gg_iinc (1) d_Mdl_seek_50 rfl (by decide) (by decide) rfl ?_
            dsimp only [List.set]
            refine gg_goto 4 d_Mdl_seek_53 (by decide) ?_
            rw [nI_1]
            exact ih (i + 1) _ (by omega) (by omega) hj2
          · refine gg_iinc (1) d_Mdl_seek_47 rfl (by decide) (by decide) rfl ?_
            dsimp only [List.set]
            refine gg_iinc (1) d_Mdl_seek_50 rfl (by decide) (by decide) rfl ?_
            dsimp only [List.set]
            refine gg_goto 4 d_Mdl_seek_53 (by decide) ?_
            rw [nI_1]
            exact ih (i + 1) _ (by omega) (by omega) hj2
        · have hpos : 0 < i := by rcases Nat.eq_zero_or_pos i with z | z; exact absurd (by rw [z]; decide) c13; exact z
          refine gg_aload_n 0 d_Mdl_seek_16 rfl rfl ?_
          refine gg_get f_Mdl_25 d_Mdl_seek_17 rfl rfl ?_
          refine gg_iload_n 3 d_Mdl_seek_20 rfl rfl ?_
          refine gg_iconst (v := 1) d_Mdl_seek_21 (by decide) ?_
          refine gg_isub d_Mdl_seek_22 ?_
          rw [sp_pred hpos]
          refine gg_iald d_Mdl_seek_23 rfl (by omega) (by decide) ?_
          refine gg_aload_n 0 d_Mdl_seek_24 rfl rfl ?_
          refine gg_get f_Mdl_25 d_Mdl_seek_25 rfl rfl ?_
          refine gg_iload_n 3 d_Mdl_seek_28 rfl rfl ?_
          refine gg_iald d_Mdl_seek_29 rfl (by omega) (by decide) ?_
          refine gg_icmp_lt 37 d_Mdl_seek_30 (by decide) (fun c30 => ?_) (fun c30 => ?_)
          · have hj2 : ∀ j, j + 1 < i + 1 → zR j < zR (j + 1) := fun j q => by
              rcases Nat.lt_or_ge (j + 1) i with z | z
              · exact hj j z
              · have e : j = i - 1 := by omega
                subst e
                rw [show i - 1 + 1 = i by omega]
                exact c30
            refine gg_aload_n 0 d_Mdl_seek_37 rfl rfl ?_
            refine gg_get f_Mdl_25 d_Mdl_seek_38 rfl rfl ?_
            refine gg_iload_n 3 d_Mdl_seek_41 rfl rfl ?_
            refine gg_iald d_Mdl_seek_42 rfl (by omega) (by decide) ?_
            refine gg_iload_n 1 d_Mdl_seek_43 rfl rfl ?_
            refine gg_icmp_ge 50 d_Mdl_seek_44 (by decide) (fun c44 => ?_) (fun c44 => ?_)
            · refine gg_iinc (1) d_Mdl_seek_50 rfl (by decide) (by decide) rfl ?_
              dsimp only [List.set]
              refine gg_goto 4 d_Mdl_seek_53 (by decide) ?_
              rw [nI_1]
              exact ih (i + 1) _ (by omega) (by omega) hj2
            · refine gg_iinc (1) d_Mdl_seek_47 rfl (by decide) (by decide) rfl ?_
              dsimp only [List.set]
              refine gg_iinc (1) d_Mdl_seek_50 rfl (by decide) (by decide) rfl ?_
              dsimp only [List.set]
              refine gg_goto 4 d_Mdl_seek_53 (by decide) ?_
              rw [nI_1]
              exact ih (i + 1) _ (by omega) (by omega) hj2
          · refine gg_sipush (v := (-1000)) d_Mdl_seek_33 (by decide) ?_
            exact gg_ireturn d_Mdl_seek_36 rfl rfl ⟨rfl, rfl⟩
  refine gg_K.start (L := [some (.ref 14), some (.int v), none, none]) rfl (plainFor_of_name (by decide)) rfl (Nat.le_of_ble_eq_true rfl) ?_
  refine gg_iconst (v := 0) d_Mdl_seek_0 (by decide) ?_
  refine gg_istore_n 2 d_Mdl_seek_1 rfl (by decide) rfl ?_
  dsimp only [List.set]
  refine gg_iconst (v := 0) d_Mdl_seek_2 (by decide) ?_
  refine gg_istore_n 3 d_Mdl_seek_3 rfl (by decide) rfl ?_
  dsimp only [List.set]
  exact loop mR 0 _ rfl (Nat.zero_le _) (fun j q => absurd q (by omega))
set_option maxHeartbeats 4000000 in
set_option maxRecDepth 100000 in
theorem c_Mdl_tell_bad  {x y : Int32} (hx : y.toInt < 0 ∨ 5 < y.toInt) : gg_K l D cA d y_Mdl_tell b_Mdl_tell 5 (some .long) [.ref 14, .int y, .int x] (hp tN tF oN oF rN rF pN pF bN bF eN eF lo mT mO mW mR mP zT zO zX zB zL zR zP zQ lm) (gg_is (some (.long 1099511627776)) (hp tN tF oN oF rN rF pN pF bN bF eN eF lo mT mO mW mR mP zT zO zX zB zL zR zP zQ lm)) := by
  refine gg_K.start (L := [some (.ref 14), some (.int y), some (.int x), none, none]) rfl (plainFor_of_name (by decide)) rfl (Nat.le_of_ble_eq_true rfl) ?_
  refine gg_iload_n 1 d_Mdl_tell_0 rfl rfl ?_
  refine gg_if_lt 21 d_Mdl_tell_1 (by decide) (fun c1 => ?_) (fun c1 => ?_)
  · refine gg_ldc2 k_438 d_Mdl_tell_21 ?_
    exact gg_lreturn d_Mdl_tell_24 rfl ⟨rfl, rfl⟩
  · rw [sp_lt0] at c1
    refine gg_iload_n 1 d_Mdl_tell_4 rfl rfl ?_
    refine gg_iconst (v := 5) d_Mdl_tell_5 (by decide) ?_
    refine gg_icmp_gt 21 d_Mdl_tell_6 (by decide) (fun c6 => ?_) (fun c6 => ?_)
    · refine gg_ldc2 k_438 d_Mdl_tell_21 ?_
      exact gg_lreturn d_Mdl_tell_24 rfl ⟨rfl, rfl⟩
    · have h5 : (5 : Int32).toInt = 5 := by decide
      rw [Int32.lt_iff_toInt_lt, h5] at c6
      omega
set_option maxHeartbeats 4000000 in
set_option maxRecDepth 100000 in
theorem c_Mdl_tell0_none  {x : Int32} (h1 : mR = 0) : gg_K l D cA d y_Mdl_tell b_Mdl_tell 5 (some .long) [.ref 14, .int 0, .int x] (hp tN tF oN oF rN rF pN pF bN bF eN eF lo mT mO mW mR mP zT zO zX zB zL zR zP zQ lm) (gg_is (some (.long 1099511627776)) (hp tN tF oN oF rN rF pN pF bN bF eN eF lo mT mO mW mR mP zT zO zX zB zL zR zP zQ lm)) := by
  refine gg_K.start (L := [some (.ref 14), some (.int 0), some (.int x), none, none]) rfl (plainFor_of_name (by decide)) rfl (Nat.le_of_ble_eq_true rfl) ?_
  refine gg_iload_n 1 d_Mdl_tell_0 rfl rfl ?_
  refine gg_if_lt 21 d_Mdl_tell_1 (by decide) (fun c1 => ?_) (fun c1 => ?_)
  · first | exact absurd c1 (by decide) | exact absurd (by decide) c1
  · refine gg_iload_n 1 d_Mdl_tell_4 rfl rfl ?_
    refine gg_iconst (v := 5) d_Mdl_tell_5 (by decide) ?_
    refine gg_icmp_gt 21 d_Mdl_tell_6 (by decide) (fun c6 => ?_) (fun c6 => ?_)
    · first | exact absurd c6 (by decide) | exact absurd (by decide) c6
    · refine gg_iload_n 1 d_Mdl_tell_9 rfl rfl ?_
      refine gg_iconst (v := 2) d_Mdl_tell_10 (by decide) ?_
      refine gg_icmp_ge 25 d_Mdl_tell_11 (by decide) (fun c11 => ?_) (fun c11 => ?_)
      · first | exact absurd c11 (by decide) | exact absurd (by decide) c11
      · refine gg_aload_n 0 d_Mdl_tell_14 rfl rfl ?_
        refine gg_get f_Mdl_88 d_Mdl_tell_15 rfl rfl ?_
        refine gg_if_ne 25 d_Mdl_tell_18 (by decide) (fun c18 => ?_) (fun c18 => ?_)
        · exact absurd (by rw [h1]; exact nI_0) c18
        · refine gg_ldc2 k_438 d_Mdl_tell_21 ?_
          exact gg_lreturn d_Mdl_tell_24 rfl ⟨rfl, rfl⟩
set_option maxHeartbeats 4000000 in
set_option maxRecDepth 100000 in
theorem c_Mdl_tell1_none  {x : Int32} (h1 : mR = 0) : gg_K l D cA d y_Mdl_tell b_Mdl_tell 5 (some .long) [.ref 14, .int 1, .int x] (hp tN tF oN oF rN rF pN pF bN bF eN eF lo mT mO mW mR mP zT zO zX zB zL zR zP zQ lm) (gg_is (some (.long 1099511627776)) (hp tN tF oN oF rN rF pN pF bN bF eN eF lo mT mO mW mR mP zT zO zX zB zL zR zP zQ lm)) := by
  refine gg_K.start (L := [some (.ref 14), some (.int 1), some (.int x), none, none]) rfl (plainFor_of_name (by decide)) rfl (Nat.le_of_ble_eq_true rfl) ?_
  refine gg_iload_n 1 d_Mdl_tell_0 rfl rfl ?_
  refine gg_if_lt 21 d_Mdl_tell_1 (by decide) (fun c1 => ?_) (fun c1 => ?_)
  · first | exact absurd c1 (by decide) | exact absurd (by decide) c1
  · refine gg_iload_n 1 d_Mdl_tell_4 rfl rfl ?_
    refine gg_iconst (v := 5) d_Mdl_tell_5 (by decide) ?_
    refine gg_icmp_gt 21 d_Mdl_tell_6 (by decide) (fun c6 => ?_) (fun c6 => ?_)
    · first | exact absurd c6 (by decide) | exact absurd (by decide) c6
    · refine gg_iload_n 1 d_Mdl_tell_9 rfl rfl ?_
      refine gg_iconst (v := 2) d_Mdl_tell_10 (by decide) ?_
      refine gg_icmp_ge 25 d_Mdl_tell_11 (by decide) (fun c11 => ?_) (fun c11 => ?_)
      · first | exact absurd c11 (by decide) | exact absurd (by decide) c11
      · refine gg_aload_n 0 d_Mdl_tell_14 rfl rfl ?_
        refine gg_get f_Mdl_88 d_Mdl_tell_15 rfl rfl ?_
        refine gg_if_ne 25 d_Mdl_tell_18 (by decide) (fun c18 => ?_) (fun c18 => ?_)
        · exact absurd (by rw [h1]; exact nI_0) c18
        · refine gg_ldc2 k_438 d_Mdl_tell_21 ?_
          exact gg_lreturn d_Mdl_tell_24 rfl ⟨rfl, rfl⟩
set_option maxHeartbeats 4000000 in
set_option maxRecDepth 100000 in
theorem c_Mdl_tell0  {x : Int32} (h1 : 0 < mR) (h0 : mR ≤ 600) : gg_K l D cA d y_Mdl_tell b_Mdl_tell 5 (some .long) [.ref 14, .int 0, .int x] (hp tN tF oN oF rN rF pN pF bN bF eN eF lo mT mO mW mR mP zT zO zX zB zL zR zP zQ lm) (gg_is (some (.long (mo_mx zR (mR - 1)).toInt64)) (hp tN tF oN oF rN rF pN pF bN bF eN eF lo mT mO mW mR mP zT zO zX zB zL zR zP zQ lm)) := by
  have loop : ∀ k : Nat, ∀ i, mR - 1 - i = k → i ≤ mR - 1 → gg_G l D cA d R_Mdl b_Mdl_tell 5 (some .long) (gg_is (some (.long (mo_mx zR (mR - 1)).toInt64)) (hp tN tF oN oF rN rF pN pF bN bF eN eF lo mT mO mW mR mP zT zO zX zB zL zR zP zQ lm)) 139 [some (.ref 14), some (.int 0), some (.int x), some (.int (mo_mx zR i)), some (.int (nI (i + 1)))] [] ((hp tN tF oN oF rN rF pN pF bN bF eN eF lo mT mO mW mR mP zT zO zX zB zL zR zP zQ lm)) := by
    intro k
    induction k with
    | zero =>
      intro i hk hi
      refine gg_iload d_Mdl_tell_139 rfl ?_
      refine gg_aload_n 0 d_Mdl_tell_141 rfl rfl ?_
      refine gg_get f_Mdl_88 d_Mdl_tell_142 rfl rfl ?_
      refine gg_icmp_ge 191 d_Mdl_tell_145 (by decide) (fun c145 => ?_) (fun c145 => ?_)
      · refine gg_iload_n 3 d_Mdl_tell_191 rfl rfl ?_
        refine gg_i2l d_Mdl_tell_192 rfl ?_
        exact gg_lreturn d_Mdl_tell_193 rfl ⟨by rw [show i = mR - 1 by omega], rfl⟩
      · exact absurd (nI_le (by omega) (by omega)) c145
    | succ k ih =>
      intro i hk hi
      refine gg_iload d_Mdl_tell_139 rfl ?_
      refine gg_aload_n 0 d_Mdl_tell_141 rfl rfl ?_
      refine gg_get f_Mdl_88 d_Mdl_tell_142 rfl rfl ?_
      refine gg_icmp_ge 191 d_Mdl_tell_145 (by decide) (fun c145 => ?_) (fun c145 => ?_)
      · exact absurd c145 (nI_ge (by omega) (by omega))
      · refine gg_iload_n 1 d_Mdl_tell_148 rfl rfl ?_
        refine gg_if_ne 166 d_Mdl_tell_149 (by decide) (fun c149 => ?_) (fun c149 => ?_)
        · first | exact absurd c149 (by decide) | exact absurd (by decide) c149
        · refine gg_aload_n 0 d_Mdl_tell_152 rfl rfl ?_
          refine gg_get f_Mdl_25 d_Mdl_tell_153 rfl rfl ?_
          refine gg_iload d_Mdl_tell_156 rfl ?_
          refine gg_iald d_Mdl_tell_158 rfl (by omega) (by decide) ?_
          refine gg_iload_n 3 d_Mdl_tell_159 rfl rfl ?_
          refine gg_icmp_le 185 d_Mdl_tell_160 (by decide) (fun c160 => ?_) (fun c160 => ?_)
          · have hq : mo_mx zR (i + 1) = mo_mx zR i := if_neg (Int32.not_lt.mpr c160)
            refine gg_iinc (1) d_Mdl_tell_185 rfl (by decide) (by decide) rfl ?_
            dsimp only [List.set]
            refine gg_goto 139 d_Mdl_tell_188 (by decide) ?_
            rw [nI_1, ← hq]
            exact ih (i + 1) (by omega) (by omega)
          · have hq : mo_mx zR (i + 1) = zR (i + 1) := if_pos (Int32.not_le.mp c160)
            refine gg_goto 177 d_Mdl_tell_163 (by decide) ?_
            refine gg_aload_n 0 d_Mdl_tell_177 rfl rfl ?_
            refine gg_get f_Mdl_25 d_Mdl_tell_178 rfl rfl ?_
            refine gg_iload d_Mdl_tell_181 rfl ?_
            refine gg_iald d_Mdl_tell_183 rfl (by omega) (by decide) ?_
            refine gg_istore_n 3 d_Mdl_tell_184 rfl (by decide) rfl ?_
            dsimp only [List.set]
            refine gg_iinc (1) d_Mdl_tell_185 rfl (by decide) (by decide) rfl ?_
            dsimp only [List.set]
            refine gg_goto 139 d_Mdl_tell_188 (by decide) ?_
            rw [nI_1, ← hq]
            exact ih (i + 1) (by omega) (by omega)
  refine gg_K.start (L := [some (.ref 14), some (.int 0), some (.int x), none, none]) rfl (plainFor_of_name (by decide)) rfl (Nat.le_of_ble_eq_true rfl) ?_
  refine gg_iload_n 1 d_Mdl_tell_0 rfl rfl ?_
  refine gg_if_lt 21 d_Mdl_tell_1 (by decide) (fun c1 => ?_) (fun c1 => ?_)
  · first | exact absurd c1 (by decide) | exact absurd (by decide) c1
  · refine gg_iload_n 1 d_Mdl_tell_4 rfl rfl ?_
    refine gg_iconst (v := 5) d_Mdl_tell_5 (by decide) ?_
    refine gg_icmp_gt 21 d_Mdl_tell_6 (by decide) (fun c6 => ?_) (fun c6 => ?_)
    · first | exact absurd c6 (by decide) | exact absurd (by decide) c6
    · refine gg_iload_n 1 d_Mdl_tell_9 rfl rfl ?_
      refine gg_iconst (v := 2) d_Mdl_tell_10 (by decide) ?_
      refine gg_icmp_ge 25 d_Mdl_tell_11 (by decide) (fun c11 => ?_) (fun c11 => ?_)
      · first | exact absurd c11 (by decide) | exact absurd (by decide) c11
      · refine gg_aload_n 0 d_Mdl_tell_14 rfl rfl ?_
        refine gg_get f_Mdl_88 d_Mdl_tell_15 rfl rfl ?_
        refine gg_if_ne 25 d_Mdl_tell_18 (by decide) (fun c18 => ?_) (fun c18 => ?_)
        · refine gg_iload_n 1 d_Mdl_tell_25 rfl rfl ?_
          refine gg_iconst (v := 2) d_Mdl_tell_26 (by decide) ?_
          refine gg_icmp_ne 37 d_Mdl_tell_27 (by decide) (fun c27 => ?_) (fun c27 => ?_)
          · refine gg_iload_n 1 d_Mdl_tell_37 rfl rfl ?_
            refine gg_iconst (v := 3) d_Mdl_tell_38 (by decide) ?_
            refine gg_icmp_ne 75 d_Mdl_tell_39 (by decide) (fun c39 => ?_) (fun c39 => ?_)
            · refine gg_iload_n 1 d_Mdl_tell_75 rfl rfl ?_
              refine gg_iconst (v := 3) d_Mdl_tell_76 (by decide) ?_
              refine gg_icmp_le 129 d_Mdl_tell_77 (by decide) (fun c77 => ?_) (fun c77 => ?_)
              · refine gg_aload_n 0 d_Mdl_tell_129 rfl rfl ?_
                refine gg_get f_Mdl_25 d_Mdl_tell_130 rfl rfl ?_
                refine gg_iconst (v := nI 0) d_Mdl_tell_133 (by decide) ?_
                refine gg_iald d_Mdl_tell_134 rfl (by omega) (by decide) ?_
                refine gg_istore_n 3 d_Mdl_tell_135 rfl (by decide) rfl ?_
                dsimp only [List.set]
                refine gg_iconst (v := 1) d_Mdl_tell_136 (by decide) ?_
                refine gg_istore d_Mdl_tell_137 (by decide) rfl ?_
                dsimp only [List.set]
                exact loop (mR - 1) 0 rfl (Nat.zero_le _)
              · first | exact absurd c77 (by decide) | exact absurd (by decide) c77
            · first | exact absurd c39 (by decide) | exact absurd (by decide) c39
          · first | exact absurd c27 (by decide) | exact absurd (by decide) c27
        · exact absurd c18 (nI_ne0 h1 (by omega))
set_option maxHeartbeats 4000000 in
set_option maxRecDepth 100000 in
theorem c_Mdl_tell1  {x : Int32} (h1 : 0 < mR) (h0 : mR ≤ 600) : gg_K l D cA d y_Mdl_tell b_Mdl_tell 5 (some .long) [.ref 14, .int 1, .int x] (hp tN tF oN oF rN rF pN pF bN bF eN eF lo mT mO mW mR mP zT zO zX zB zL zR zP zQ lm) (gg_is (some (.long (mo_mn zR (mR - 1)).toInt64)) (hp tN tF oN oF rN rF pN pF bN bF eN eF lo mT mO mW mR mP zT zO zX zB zL zR zP zQ lm)) := by
  have loop : ∀ k : Nat, ∀ i, mR - 1 - i = k → i ≤ mR - 1 → gg_G l D cA d R_Mdl b_Mdl_tell 5 (some .long) (gg_is (some (.long (mo_mn zR (mR - 1)).toInt64)) (hp tN tF oN oF rN rF pN pF bN bF eN eF lo mT mO mW mR mP zT zO zX zB zL zR zP zQ lm)) 139 [some (.ref 14), some (.int 1), some (.int x), some (.int (mo_mn zR i)), some (.int (nI (i + 1)))] [] ((hp tN tF oN oF rN rF pN pF bN bF eN eF lo mT mO mW mR mP zT zO zX zB zL zR zP zQ lm)) := by
    intro k
    induction k with
    | zero =>
      intro i hk hi
      refine gg_iload d_Mdl_tell_139 rfl ?_
      refine gg_aload_n 0 d_Mdl_tell_141 rfl rfl ?_
      refine gg_get f_Mdl_88 d_Mdl_tell_142 rfl rfl ?_
      refine gg_icmp_ge 191 d_Mdl_tell_145 (by decide) (fun c145 => ?_) (fun c145 => ?_)
      · refine gg_iload_n 3 d_Mdl_tell_191 rfl rfl ?_
        refine gg_i2l d_Mdl_tell_192 rfl ?_
        exact gg_lreturn d_Mdl_tell_193 rfl ⟨by rw [show i = mR - 1 by omega], rfl⟩
      · exact absurd (nI_le (by omega) (by omega)) c145
    | succ k ih =>
      intro i hk hi
      refine gg_iload d_Mdl_tell_139 rfl ?_
      refine gg_aload_n 0 d_Mdl_tell_141 rfl rfl ?_
      refine gg_get f_Mdl_88 d_Mdl_tell_142 rfl rfl ?_
      refine gg_icmp_ge 191 d_Mdl_tell_145 (by decide) (fun c145 => ?_) (fun c145 => ?_)
      · exact absurd c145 (nI_ge (by omega) (by omega))
      · refine gg_iload_n 1 d_Mdl_tell_148 rfl rfl ?_
        refine gg_if_ne 166 d_Mdl_tell_149 (by decide) (fun c149 => ?_) (fun c149 => ?_)
        · refine gg_aload_n 0 d_Mdl_tell_166 rfl rfl ?_
          refine gg_get f_Mdl_25 d_Mdl_tell_167 rfl rfl ?_
          refine gg_iload d_Mdl_tell_170 rfl ?_
          refine gg_iald d_Mdl_tell_172 rfl (by omega) (by decide) ?_
          refine gg_iload_n 3 d_Mdl_tell_173 rfl rfl ?_
          refine gg_icmp_ge 185 d_Mdl_tell_174 (by decide) (fun c174 => ?_) (fun c174 => ?_)
          · have hq : mo_mn zR (i + 1) = mo_mn zR i := if_neg (Int32.not_lt.mpr c174)
            refine gg_iinc (1) d_Mdl_tell_185 rfl (by decide) (by decide) rfl ?_
            dsimp only [List.set]
            refine gg_goto 139 d_Mdl_tell_188 (by decide) ?_
            rw [nI_1, ← hq]
            exact ih (i + 1) (by omega) (by omega)
          · have hq : mo_mn zR (i + 1) = zR (i + 1) := if_pos (Int32.not_le.mp c174)
            refine gg_aload_n 0 d_Mdl_tell_177 rfl rfl ?_
            refine gg_get f_Mdl_25 d_Mdl_tell_178 rfl rfl ?_
            refine gg_iload d_Mdl_tell_181 rfl ?_
            refine gg_iald d_Mdl_tell_183 rfl (by omega) (by decide) ?_
            refine gg_istore_n 3 d_Mdl_tell_184 rfl (by decide) rfl ?_
            dsimp only [List.set]
            refine gg_iinc (1) d_Mdl_tell_185 rfl (by decide) (by decide) rfl ?_
            dsimp only [List.set]
            refine gg_goto 139 d_Mdl_tell_188 (by decide) ?_
            rw [nI_1, ← hq]
            exact ih (i + 1) (by omega) (by omega)
        · first | exact absurd c149 (by decide) | exact absurd (by decide) c149
  refine gg_K.start (L := [some (.ref 14), some (.int 1), some (.int x), none, none]) rfl (plainFor_of_name (by decide)) rfl (Nat.le_of_ble_eq_true rfl) ?_
  refine gg_iload_n 1 d_Mdl_tell_0 rfl rfl ?_
  refine gg_if_lt 21 d_Mdl_tell_1 (by decide) (fun c1 => ?_) (fun c1 => ?_)
  · first | exact absurd c1 (by decide) | exact absurd (by decide) c1
  · refine gg_iload_n 1 d_Mdl_tell_4 rfl rfl ?_
    refine gg_iconst (v := 5) d_Mdl_tell_5 (by decide) ?_
    refine gg_icmp_gt 21 d_Mdl_tell_6 (by decide) (fun c6 => ?_) (fun c6 => ?_)
    · first | exact absurd c6 (by decide) | exact absurd (by decide) c6
    · refine gg_iload_n 1 d_Mdl_tell_9 rfl rfl ?_
      refine gg_iconst (v := 2) d_Mdl_tell_10 (by decide) ?_
      refine gg_icmp_ge 25 d_Mdl_tell_11 (by decide) (fun c11 => ?_) (fun c11 => ?_)
      · first | exact absurd c11 (by decide) | exact absurd (by decide) c11
      · refine gg_aload_n 0 d_Mdl_tell_14 rfl rfl ?_
        refine gg_get f_Mdl_88 d_Mdl_tell_15 rfl rfl ?_
        refine gg_if_ne 25 d_Mdl_tell_18 (by decide) (fun c18 => ?_) (fun c18 => ?_)
        · refine gg_iload_n 1 d_Mdl_tell_25 rfl rfl ?_
          refine gg_iconst (v := 2) d_Mdl_tell_26 (by decide) ?_
          refine gg_icmp_ne 37 d_Mdl_tell_27 (by decide) (fun c27 => ?_) (fun c27 => ?_)
          · refine gg_iload_n 1 d_Mdl_tell_37 rfl rfl ?_
            refine gg_iconst (v := 3) d_Mdl_tell_38 (by decide) ?_
            refine gg_icmp_ne 75 d_Mdl_tell_39 (by decide) (fun c39 => ?_) (fun c39 => ?_)
            · refine gg_iload_n 1 d_Mdl_tell_75 rfl rfl ?_
              refine gg_iconst (v := 3) d_Mdl_tell_76 (by decide) ?_
              refine gg_icmp_le 129 d_Mdl_tell_77 (by decide) (fun c77 => ?_) (fun c77 => ?_)
              · refine gg_aload_n 0 d_Mdl_tell_129 rfl rfl ?_
                refine gg_get f_Mdl_25 d_Mdl_tell_130 rfl rfl ?_
                refine gg_iconst (v := nI 0) d_Mdl_tell_133 (by decide) ?_
                refine gg_iald d_Mdl_tell_134 rfl (by omega) (by decide) ?_
                refine gg_istore_n 3 d_Mdl_tell_135 rfl (by decide) rfl ?_
                dsimp only [List.set]
                refine gg_iconst (v := 1) d_Mdl_tell_136 (by decide) ?_
                refine gg_istore d_Mdl_tell_137 (by decide) rfl ?_
                dsimp only [List.set]
                exact loop (mR - 1) 0 rfl (Nat.zero_le _)
              · first | exact absurd c77 (by decide) | exact absurd (by decide) c77
            · first | exact absurd c39 (by decide) | exact absurd (by decide) c39
          · first | exact absurd c27 (by decide) | exact absurd (by decide) c27
        · exact absurd c18 (nI_ne0 h1 (by omega))
set_option maxHeartbeats 4000000 in
set_option maxRecDepth 100000 in
theorem c_Mdl_tell2  {x : Int32} (h0 : mR ≤ 600) (hd : 1 ≤ d) : gg_K l D cA d y_Mdl_tell b_Mdl_tell 5 (some .long) [.ref 14, .int 2, .int x] (hp tN tF oN oF rN rF pN pF bN bF eN eF lo mT mO mW mR mP zT zO zX zB zL zR zP zQ lm) (gg_is (some (.long (nI (sp_ct zR x mR)).toInt64)) (hp tN tF oN oF rN rF pN pF bN bF eN eF lo mT mO mW mR mP zT zO zX zB zL zR zP zQ lm)) := by
  refine gg_K.start (L := [some (.ref 14), some (.int 2), some (.int x), none, none]) rfl (plainFor_of_name (by decide)) rfl (Nat.le_of_ble_eq_true rfl) ?_
  refine gg_iload_n 1 d_Mdl_tell_0 rfl rfl ?_
  refine gg_if_lt 21 d_Mdl_tell_1 (by decide) (fun c1 => ?_) (fun c1 => ?_)
  · first | exact absurd c1 (by decide) | exact absurd (by decide) c1
  · refine gg_iload_n 1 d_Mdl_tell_4 rfl rfl ?_
    refine gg_iconst (v := 5) d_Mdl_tell_5 (by decide) ?_
    refine gg_icmp_gt 21 d_Mdl_tell_6 (by decide) (fun c6 => ?_) (fun c6 => ?_)
    · first | exact absurd c6 (by decide) | exact absurd (by decide) c6
    · refine gg_iload_n 1 d_Mdl_tell_9 rfl rfl ?_
      refine gg_iconst (v := 2) d_Mdl_tell_10 (by decide) ?_
      refine gg_icmp_ge 25 d_Mdl_tell_11 (by decide) (fun c11 => ?_) (fun c11 => ?_)
      · refine gg_iload_n 1 d_Mdl_tell_25 rfl rfl ?_
        refine gg_iconst (v := 2) d_Mdl_tell_26 (by decide) ?_
        refine gg_icmp_ne 37 d_Mdl_tell_27 (by decide) (fun c27 => ?_) (fun c27 => ?_)
        · first | exact absurd c27 (by decide) | exact absurd (by decide) c27
        · refine gg_aload_n 0 d_Mdl_tell_30 rfl rfl ?_
          refine gg_iload_n 2 d_Mdl_tell_31 rfl rfl ?_
          refine gg_cv1 m_Mdl_98 d_Mdl_tell_32 (c_Mdl_often (d := 0) h0) rfl rfl rfl rfl (by omega) rfl (Nat.le_of_ble_eq_true rfl) ?_
          refine gg_i2l d_Mdl_tell_35 rfl ?_
          exact gg_lreturn d_Mdl_tell_36 rfl ⟨rfl, rfl⟩
      · first | exact absurd c11 (by decide) | exact absurd (by decide) c11
set_option maxHeartbeats 4000000 in
set_option maxRecDepth 100000 in
theorem c_Mdl_tell3  {x : Int32} (h0 : mR ≤ 600) (h2 : mP ≤ 600) (hd : 1 ≤ d) : gg_K l D cA d y_Mdl_tell b_Mdl_tell 5 (some .long) [.ref 14, .int 3, .int x] (hp tN tF oN oF rN rF pN pF bN bF eN eF lo mT mO mW mR mP zT zO zX zB zL zR zP zQ lm) (gg_is (some (.long (mo_an zR mR zP mP 0))) (hp tN tF oN oF rN rF pN pF bN bF eN eF lo mT mO mW mR mP zT zO zX zB zL zR zP zQ lm)) := by
  have loop : ∀ k : Nat, ∀ i, mP - i = k → i ≤ mP → gg_G l D cA d R_Mdl b_Mdl_tell 5 (some .long) (gg_is (some (.long (mo_an zR mR zP k i))) (hp tN tF oN oF rN rF pN pF bN bF eN eF lo mT mO mW mR mP zT zO zX zB zL zR zP zQ lm)) 44 [some (.ref 14), some (.int 3), some (.int x), some (.int (nI i)), none] [] ((hp tN tF oN oF rN rF pN pF bN bF eN eF lo mT mO mW mR mP zT zO zX zB zL zR zP zQ lm)) := by
    intro k
    induction k with
    | zero =>
      intro i hk hi
      refine gg_iload_n 3 d_Mdl_tell_44 rfl rfl ?_
      refine gg_aload_n 0 d_Mdl_tell_45 rfl rfl ?_
      refine gg_get f_Mdl_85 d_Mdl_tell_46 rfl rfl ?_
      refine gg_icmp_ge 73 d_Mdl_tell_49 (by decide) (fun c49 => ?_) (fun c49 => ?_)
      · refine gg_lconst (v := 1) d_Mdl_tell_73 (by decide) ?_
        exact gg_lreturn d_Mdl_tell_74 rfl ⟨rfl, rfl⟩
      · exact absurd (nI_le (by omega) (by omega)) c49
    | succ k ih =>
      intro i hk hi
      refine gg_iload_n 3 d_Mdl_tell_44 rfl rfl ?_
      refine gg_aload_n 0 d_Mdl_tell_45 rfl rfl ?_
      refine gg_get f_Mdl_85 d_Mdl_tell_46 rfl rfl ?_
      refine gg_icmp_ge 73 d_Mdl_tell_49 (by decide) (fun c49 => ?_) (fun c49 => ?_)
      · exact absurd c49 (nI_ge (by omega) (by omega))
      · refine gg_aload_n 0 d_Mdl_tell_52 rfl rfl ?_
        refine gg_aload_n 0 d_Mdl_tell_53 rfl rfl ?_
        refine gg_get f_Mdl_28 d_Mdl_tell_54 rfl rfl ?_
        refine gg_iload_n 3 d_Mdl_tell_57 rfl rfl ?_
        refine gg_iald d_Mdl_tell_58 rfl (by omega) (by decide) ?_
        refine gg_cv1 m_Mdl_98 d_Mdl_tell_59 (c_Mdl_often (d := 0) h0) rfl rfl rfl rfl (by omega) rfl (Nat.le_of_ble_eq_true rfl) ?_
        have hle := sp_ct_le zR (zP i) mR
        refine gg_if_le 67 d_Mdl_tell_62 (by decide) (fun c62 => ?_) (fun c62 => ?_)
        · rw [mo_le0 (by omega)] at c62
          rw [mo_an_e c62]
          refine gg_iinc (1) d_Mdl_tell_67 rfl (by decide) (by decide) rfl ?_
          dsimp only [List.set]
          refine gg_goto 44 d_Mdl_tell_70 (by decide) ?_
          rw [nI_1]
          exact ih (i + 1) (by omega) (by omega)
        · rw [mo_le0 (by omega)] at c62
          rw [mo_an_n c62]
          refine gg_lconst (v := 0) d_Mdl_tell_65 (by decide) ?_
          exact gg_lreturn d_Mdl_tell_66 rfl ⟨rfl, rfl⟩
  refine gg_K.start (L := [some (.ref 14), some (.int 3), some (.int x), none, none]) rfl (plainFor_of_name (by decide)) rfl (Nat.le_of_ble_eq_true rfl) ?_
  refine gg_iload_n 1 d_Mdl_tell_0 rfl rfl ?_
  refine gg_if_lt 21 d_Mdl_tell_1 (by decide) (fun c1 => ?_) (fun c1 => ?_)
  · first | exact absurd c1 (by decide) | exact absurd (by decide) c1
  · refine gg_iload_n 1 d_Mdl_tell_4 rfl rfl ?_
    refine gg_iconst (v := 5) d_Mdl_tell_5 (by decide) ?_
    refine gg_icmp_gt 21 d_Mdl_tell_6 (by decide) (fun c6 => ?_) (fun c6 => ?_)
    · first | exact absurd c6 (by decide) | exact absurd (by decide) c6
    · refine gg_iload_n 1 d_Mdl_tell_9 rfl rfl ?_
      refine gg_iconst (v := 2) d_Mdl_tell_10 (by decide) ?_
      refine gg_icmp_ge 25 d_Mdl_tell_11 (by decide) (fun c11 => ?_) (fun c11 => ?_)
      · refine gg_iload_n 1 d_Mdl_tell_25 rfl rfl ?_
        refine gg_iconst (v := 2) d_Mdl_tell_26 (by decide) ?_
        refine gg_icmp_ne 37 d_Mdl_tell_27 (by decide) (fun c27 => ?_) (fun c27 => ?_)
        · refine gg_iload_n 1 d_Mdl_tell_37 rfl rfl ?_
          refine gg_iconst (v := 3) d_Mdl_tell_38 (by decide) ?_
          refine gg_icmp_ne 75 d_Mdl_tell_39 (by decide) (fun c39 => ?_) (fun c39 => ?_)
          · first | exact absurd c39 (by decide) | exact absurd (by decide) c39
          · refine gg_iconst (v := 0) d_Mdl_tell_42 (by decide) ?_
            refine gg_istore_n 3 d_Mdl_tell_43 rfl (by decide) rfl ?_
            dsimp only [List.set]
            exact loop mP 0 rfl (Nat.zero_le _)
        · first | exact absurd c27 (by decide) | exact absurd (by decide) c27
      · first | exact absurd c11 (by decide) | exact absurd (by decide) c11
set_option maxHeartbeats 4000000 in
set_option maxRecDepth 100000 in
theorem c_Mdl_tell4  {x : Int32} (h0 : mR ≤ 600) (h2 : mP ≤ 600) (hd : 1 ≤ d) : gg_K l D cA d y_Mdl_tell b_Mdl_tell 5 (some .long) [.ref 14, .int 4, .int x] (hp tN tF oN oF rN rF pN pF bN bF eN eF lo mT mO mW mR mP zT zO zX zB zL zR zP zQ lm) (gg_is (some (.long (mo_fp zR zP mP (mR + 1 - mP)).toInt64)) (hp tN tF oN oF rN rF pN pF bN bF eN eF lo mT mO mW mR mP zT zO zX zB zL zR zP zQ lm)) := by
  have loop : ∀ k : Nat, ∀ i, mR + 1 - mP - i = k → i ≤ mR + 1 - mP → gg_G l D cA d R_Mdl b_Mdl_tell 5 (some .long) (gg_is (some (.long (mo_fp zR zP mP (mR + 1 - mP)).toInt64)) (hp tN tF oN oF rN rF pN pF bN bF eN eF lo mT mO mW mR mP zT zO zX zB zL zR zP zQ lm)) 85 [some (.ref 14), some (.int 4), some (.int x), some (.int (mo_fp zR zP mP i)), some (.int (nI i))] [] ((hp tN tF oN oF rN rF pN pF bN bF eN eF lo mT mO mW mR mP zT zO zX zB zL zR zP zQ lm)) := by
    intro k
    induction k with
    | zero =>
      intro i hk hi
      refine gg_iload d_Mdl_tell_85 rfl ?_
      refine gg_aload_n 0 d_Mdl_tell_87 rfl rfl ?_
      refine gg_get f_Mdl_85 d_Mdl_tell_88 rfl rfl ?_
      refine gg_iadd d_Mdl_tell_91 ?_
      refine gg_aload_n 0 d_Mdl_tell_92 rfl rfl ?_
      refine gg_get f_Mdl_88 d_Mdl_tell_93 rfl rfl ?_
      rw [nI_add]
      refine gg_icmp_gt 126 d_Mdl_tell_96 (by decide) (fun c96 => ?_) (fun c96 => ?_)
      · refine gg_iload_n 3 d_Mdl_tell_126 rfl rfl ?_
        refine gg_i2l d_Mdl_tell_127 rfl ?_
        exact gg_lreturn d_Mdl_tell_128 rfl ⟨by rw [show i = mR + 1 - mP by omega], rfl⟩
      · exact absurd (nI_lt (by omega) (by omega)) c96
    | succ k ih =>
      intro i hk hi
      refine gg_iload d_Mdl_tell_85 rfl ?_
      refine gg_aload_n 0 d_Mdl_tell_87 rfl rfl ?_
      refine gg_get f_Mdl_85 d_Mdl_tell_88 rfl rfl ?_
      refine gg_iadd d_Mdl_tell_91 ?_
      refine gg_aload_n 0 d_Mdl_tell_92 rfl rfl ?_
      refine gg_get f_Mdl_88 d_Mdl_tell_93 rfl rfl ?_
      rw [nI_add]
      refine gg_icmp_gt 126 d_Mdl_tell_96 (by decide) (fun c96 => ?_) (fun c96 => ?_)
      · exact absurd c96 (by rw [nI_ltI (by omega) (by omega)]; omega)
      · refine gg_iload_n 1 d_Mdl_tell_99 rfl rfl ?_
        refine gg_iconst (v := 5) d_Mdl_tell_100 (by decide) ?_
        refine gg_icmp_eq 108 d_Mdl_tell_101 (by decide) (fun c101 => ?_) (fun c101 => ?_)
        · first | exact absurd c101 (by decide) | exact absurd (by decide) c101
        · refine gg_iload_n 3 d_Mdl_tell_104 rfl rfl ?_
          refine gg_if_ge 120 d_Mdl_tell_105 (by decide) (fun c105 => ?_) (fun c105 => ?_)
          · rw [sp_le0] at c105
            have hq : mo_fp zR zP mP (i + 1) = mo_fp zR zP mP i := if_neg (fun z => by have := sp_lt0.mp z.1; omega)
            refine gg_iinc (1) d_Mdl_tell_120 rfl (by decide) (by decide) rfl ?_
            dsimp only [List.set]
            refine gg_goto 85 d_Mdl_tell_123 (by decide) ?_
            rw [nI_1, ← hq]
            exact ih (i + 1) (by omega) (by omega)
          · rw [sp_le0] at c105
            refine gg_aload_n 0 d_Mdl_tell_108 rfl rfl ?_
            refine gg_iload d_Mdl_tell_109 rfl ?_
            refine gg_cv1 m_Mdl_101 d_Mdl_tell_111 (c_Mdl_stands (d := 0) (by omega) h2) rfl rfl rfl rfl (by omega) rfl (Nat.le_of_ble_eq_true rfl) ?_
            refine gg_if_eq 120 d_Mdl_tell_114 (by decide) (fun c114 => ?_) (fun c114 => ?_)
            · have hq : mo_fp zR zP mP (i + 1) = mo_fp zR zP mP i := if_neg (fun z => sp_b0 c114 z.2)
              refine gg_iinc (1) d_Mdl_tell_120 rfl (by decide) (by decide) rfl ?_
              dsimp only [List.set]
              refine gg_goto 85 d_Mdl_tell_123 (by decide) ?_
              rw [nI_1, ← hq]
              exact ih (i + 1) (by omega) (by omega)
            · have hq : mo_fp zR zP mP (i + 1) = nI i := if_pos ⟨sp_lt0.mpr (by omega), sp_b1 c114⟩
              refine gg_iload d_Mdl_tell_117 rfl ?_
              refine gg_istore_n 3 d_Mdl_tell_119 rfl (by decide) rfl ?_
              dsimp only [List.set]
              refine gg_iinc (1) d_Mdl_tell_120 rfl (by decide) (by decide) rfl ?_
              dsimp only [List.set]
              refine gg_goto 85 d_Mdl_tell_123 (by decide) ?_
              rw [nI_1, ← hq]
              exact ih (i + 1) (by omega) (by omega)
  refine gg_K.start (L := [some (.ref 14), some (.int 4), some (.int x), none, none]) rfl (plainFor_of_name (by decide)) rfl (Nat.le_of_ble_eq_true rfl) ?_
  refine gg_iload_n 1 d_Mdl_tell_0 rfl rfl ?_
  refine gg_if_lt 21 d_Mdl_tell_1 (by decide) (fun c1 => ?_) (fun c1 => ?_)
  · first | exact absurd c1 (by decide) | exact absurd (by decide) c1
  · refine gg_iload_n 1 d_Mdl_tell_4 rfl rfl ?_
    refine gg_iconst (v := 5) d_Mdl_tell_5 (by decide) ?_
    refine gg_icmp_gt 21 d_Mdl_tell_6 (by decide) (fun c6 => ?_) (fun c6 => ?_)
    · first | exact absurd c6 (by decide) | exact absurd (by decide) c6
    · refine gg_iload_n 1 d_Mdl_tell_9 rfl rfl ?_
      refine gg_iconst (v := 2) d_Mdl_tell_10 (by decide) ?_
      refine gg_icmp_ge 25 d_Mdl_tell_11 (by decide) (fun c11 => ?_) (fun c11 => ?_)
      · refine gg_iload_n 1 d_Mdl_tell_25 rfl rfl ?_
        refine gg_iconst (v := 2) d_Mdl_tell_26 (by decide) ?_
        refine gg_icmp_ne 37 d_Mdl_tell_27 (by decide) (fun c27 => ?_) (fun c27 => ?_)
        · refine gg_iload_n 1 d_Mdl_tell_37 rfl rfl ?_
          refine gg_iconst (v := 3) d_Mdl_tell_38 (by decide) ?_
          refine gg_icmp_ne 75 d_Mdl_tell_39 (by decide) (fun c39 => ?_) (fun c39 => ?_)
          · refine gg_iload_n 1 d_Mdl_tell_75 rfl rfl ?_
            refine gg_iconst (v := 3) d_Mdl_tell_76 (by decide) ?_
            refine gg_icmp_le 129 d_Mdl_tell_77 (by decide) (fun c77 => ?_) (fun c77 => ?_)
            · first | exact absurd c77 (by decide) | exact absurd (by decide) c77
            · refine gg_iconst (v := (-1)) d_Mdl_tell_80 (by decide) ?_
              refine gg_istore_n 3 d_Mdl_tell_81 rfl (by decide) rfl ?_
              dsimp only [List.set]
              refine gg_iconst (v := 0) d_Mdl_tell_82 (by decide) ?_
              refine gg_istore d_Mdl_tell_83 (by decide) rfl ?_
              dsimp only [List.set]
              exact loop (mR + 1 - mP) 0 rfl (Nat.zero_le _)
          · first | exact absurd c39 (by decide) | exact absurd (by decide) c39
        · first | exact absurd c27 (by decide) | exact absurd (by decide) c27
      · first | exact absurd c11 (by decide) | exact absurd (by decide) c11
set_option maxHeartbeats 4000000 in
set_option maxRecDepth 100000 in
theorem c_Mdl_tell5  {x : Int32} (h0 : mR ≤ 600) (h2 : mP ≤ 600) (hd : 1 ≤ d) : gg_K l D cA d y_Mdl_tell b_Mdl_tell 5 (some .long) [.ref 14, .int 5, .int x] (hp tN tF oN oF rN rF pN pF bN bF eN eF lo mT mO mW mR mP zT zO zX zB zL zR zP zQ lm) (gg_is (some (.long (sp_lp zR zP mP (mR + 1 - mP)).toInt64)) (hp tN tF oN oF rN rF pN pF bN bF eN eF lo mT mO mW mR mP zT zO zX zB zL zR zP zQ lm)) := by
  have loop : ∀ k : Nat, ∀ i, mR + 1 - mP - i = k → i ≤ mR + 1 - mP → gg_G l D cA d R_Mdl b_Mdl_tell 5 (some .long) (gg_is (some (.long (sp_lp zR zP mP (mR + 1 - mP)).toInt64)) (hp tN tF oN oF rN rF pN pF bN bF eN eF lo mT mO mW mR mP zT zO zX zB zL zR zP zQ lm)) 85 [some (.ref 14), some (.int 5), some (.int x), some (.int (sp_lp zR zP mP i)), some (.int (nI i))] [] ((hp tN tF oN oF rN rF pN pF bN bF eN eF lo mT mO mW mR mP zT zO zX zB zL zR zP zQ lm)) := by
    intro k
    induction k with
    | zero =>
      intro i hk hi
      refine gg_iload d_Mdl_tell_85 rfl ?_
      refine gg_aload_n 0 d_Mdl_tell_87 rfl rfl ?_
      refine gg_get f_Mdl_85 d_Mdl_tell_88 rfl rfl ?_
      refine gg_iadd d_Mdl_tell_91 ?_
      refine gg_aload_n 0 d_Mdl_tell_92 rfl rfl ?_
      refine gg_get f_Mdl_88 d_Mdl_tell_93 rfl rfl ?_
      rw [nI_add]
      refine gg_icmp_gt 126 d_Mdl_tell_96 (by decide) (fun c96 => ?_) (fun c96 => ?_)
      · refine gg_iload_n 3 d_Mdl_tell_126 rfl rfl ?_
        refine gg_i2l d_Mdl_tell_127 rfl ?_
        exact gg_lreturn d_Mdl_tell_128 rfl ⟨by rw [show i = mR + 1 - mP by omega], rfl⟩
      · exact absurd (nI_lt (by omega) (by omega)) c96
    | succ k ih =>
      intro i hk hi
      refine gg_iload d_Mdl_tell_85 rfl ?_
      refine gg_aload_n 0 d_Mdl_tell_87 rfl rfl ?_
      refine gg_get f_Mdl_85 d_Mdl_tell_88 rfl rfl ?_
      refine gg_iadd d_Mdl_tell_91 ?_
      refine gg_aload_n 0 d_Mdl_tell_92 rfl rfl ?_
      refine gg_get f_Mdl_88 d_Mdl_tell_93 rfl rfl ?_
      rw [nI_add]
      refine gg_icmp_gt 126 d_Mdl_tell_96 (by decide) (fun c96 => ?_) (fun c96 => ?_)
      · exact absurd c96 (by rw [nI_ltI (by omega) (by omega)]; omega)
      · refine gg_iload_n 1 d_Mdl_tell_99 rfl rfl ?_
        refine gg_iconst (v := 5) d_Mdl_tell_100 (by decide) ?_
        refine gg_icmp_eq 108 d_Mdl_tell_101 (by decide) (fun c101 => ?_) (fun c101 => ?_)
        · refine gg_aload_n 0 d_Mdl_tell_108 rfl rfl ?_
          refine gg_iload d_Mdl_tell_109 rfl ?_
          refine gg_cv1 m_Mdl_101 d_Mdl_tell_111 (c_Mdl_stands (d := 0) (by omega) h2) rfl rfl rfl rfl (by omega) rfl (Nat.le_of_ble_eq_true rfl) ?_
          refine gg_if_eq 120 d_Mdl_tell_114 (by decide) (fun c114 => ?_) (fun c114 => ?_)
          · have hq : sp_lp zR zP mP (i + 1) = sp_lp zR zP mP i := if_neg (sp_b0 c114)
            refine gg_iinc (1) d_Mdl_tell_120 rfl (by decide) (by decide) rfl ?_
            dsimp only [List.set]
            refine gg_goto 85 d_Mdl_tell_123 (by decide) ?_
            rw [nI_1, ← hq]
            exact ih (i + 1) (by omega) (by omega)
          · have hq : sp_lp zR zP mP (i + 1) = nI i := if_pos (sp_b1 c114)
            refine gg_iload d_Mdl_tell_117 rfl ?_
            refine gg_istore_n 3 d_Mdl_tell_119 rfl (by decide) rfl ?_
            dsimp only [List.set]
            refine gg_iinc (1) d_Mdl_tell_120 rfl (by decide) (by decide) rfl ?_
            dsimp only [List.set]
            refine gg_goto 85 d_Mdl_tell_123 (by decide) ?_
            rw [nI_1, ← hq]
            exact ih (i + 1) (by omega) (by omega)
        · first | exact absurd c101 (by decide) | exact absurd (by decide) c101
  refine gg_K.start (L := [some (.ref 14), some (.int 5), some (.int x), none, none]) rfl (plainFor_of_name (by decide)) rfl (Nat.le_of_ble_eq_true rfl) ?_
  refine gg_iload_n 1 d_Mdl_tell_0 rfl rfl ?_
  refine gg_if_lt 21 d_Mdl_tell_1 (by decide) (fun c1 => ?_) (fun c1 => ?_)
  · first | exact absurd c1 (by decide) | exact absurd (by decide) c1
  · refine gg_iload_n 1 d_Mdl_tell_4 rfl rfl ?_
    refine gg_iconst (v := 5) d_Mdl_tell_5 (by decide) ?_
    refine gg_icmp_gt 21 d_Mdl_tell_6 (by decide) (fun c6 => ?_) (fun c6 => ?_)
    · first | exact absurd c6 (by decide) | exact absurd (by decide) c6
    · refine gg_iload_n 1 d_Mdl_tell_9 rfl rfl ?_
      refine gg_iconst (v := 2) d_Mdl_tell_10 (by decide) ?_
      refine gg_icmp_ge 25 d_Mdl_tell_11 (by decide) (fun c11 => ?_) (fun c11 => ?_)
      · refine gg_iload_n 1 d_Mdl_tell_25 rfl rfl ?_
        refine gg_iconst (v := 2) d_Mdl_tell_26 (by decide) ?_
        refine gg_icmp_ne 37 d_Mdl_tell_27 (by decide) (fun c27 => ?_) (fun c27 => ?_)
        · refine gg_iload_n 1 d_Mdl_tell_37 rfl rfl ?_
          refine gg_iconst (v := 3) d_Mdl_tell_38 (by decide) ?_
          refine gg_icmp_ne 75 d_Mdl_tell_39 (by decide) (fun c39 => ?_) (fun c39 => ?_)
          · refine gg_iload_n 1 d_Mdl_tell_75 rfl rfl ?_
            refine gg_iconst (v := 3) d_Mdl_tell_76 (by decide) ?_
            refine gg_icmp_le 129 d_Mdl_tell_77 (by decide) (fun c77 => ?_) (fun c77 => ?_)
            · first | exact absurd c77 (by decide) | exact absurd (by decide) c77
            · refine gg_iconst (v := (-1)) d_Mdl_tell_80 (by decide) ?_
              refine gg_istore_n 3 d_Mdl_tell_81 rfl (by decide) rfl ?_
              dsimp only [List.set]
              refine gg_iconst (v := 0) d_Mdl_tell_82 (by decide) ?_
              refine gg_istore d_Mdl_tell_83 (by decide) rfl ?_
              dsimp only [List.set]
              exact loop (mR + 1 - mP) 0 rfl (Nat.zero_le _)
          · first | exact absurd c39 (by decide) | exact absurd (by decide) c39
        · first | exact absurd c27 (by decide) | exact absurd (by decide) c27
      · first | exact absurd c11 (by decide) | exact absurd (by decide) c11
set_option maxHeartbeats 4000000 in
set_option maxRecDepth 100000 in
theorem c_Mdl_on  {x : Int32} {i : Nat} (hi : i < mR) (h0 : mR ≤ 600) : gg_K l D cA d y_Mdl_on b_Mdl_on 5 (some .int) [.ref 14, .int (nI i), .int x] (hp tN tF oN oF rN rF pN pF bN bF eN eF lo mT mO mW mR mP zT zO zX zB zL zR zP zQ lm) (gg_is (some (.int (nI (mo_on x mR i)))) (hp tN tF oN oF rN rF pN pF bN bF eN eF lo mT mO mW mR mP zT zO zX zB zL zR zP zQ lm)) := by
  have hs := mo_s64 (k := i) (x := x) (by omega)
  refine gg_K.start (L := [some (.ref 14), some (.int (nI i)), some (.int x), none, none]) rfl (plainFor_of_name (by decide)) rfl (Nat.le_of_ble_eq_true rfl) ?_
  refine gg_iload_n 1 d_Mdl_on_0 rfl rfl ?_
  refine gg_i2l d_Mdl_on_1 rfl ?_
  refine gg_iload_n 2 d_Mdl_on_2 rfl rfl ?_
  refine gg_i2l d_Mdl_on_3 rfl ?_
  refine gg_ladd d_Mdl_on_4 ?_
  refine gg_aload_n 0 d_Mdl_on_5 rfl rfl ?_
  refine gg_get f_Mdl_88 d_Mdl_on_6 rfl rfl ?_
  refine gg_i2l d_Mdl_on_9 rfl ?_
  refine gg_lrem d_Mdl_on_10 (mo_ln_ne (by omega) (by omega)) ?_
  refine gg_lstore_n 3 d_Mdl_on_11 rfl (by decide) rfl ?_
  dsimp only [List.set]
  refine gg_lload_n 3 d_Mdl_on_12 rfl rfl ?_
  refine gg_lconst (v := 0) d_Mdl_on_13 (by decide) ?_
  refine gg_lcmp d_Mdl_on_14 ?_
  refine gg_if_ge 28 d_Mdl_on_15 (by decide) (fun c15 => ?_) (fun c15 => ?_)
  · rw [mo_cmp] at c15
    refine gg_lload_n 3 d_Mdl_on_28 rfl rfl ?_
    refine gg_l2i d_Mdl_on_29 rfl ?_
    exact gg_ireturn d_Mdl_on_30 rfl rfl ⟨by first | rw [mo_on_pos hs (by omega) (by omega) c15] | rw [mo_on_neg hs (by omega) (by omega) c15], rfl⟩
  · rw [mo_cmp] at c15
    refine gg_lload_n 3 d_Mdl_on_18 rfl rfl ?_
    refine gg_aload_n 0 d_Mdl_on_19 rfl rfl ?_
    refine gg_get f_Mdl_88 d_Mdl_on_20 rfl rfl ?_
    refine gg_i2l d_Mdl_on_23 rfl ?_
    refine gg_ladd d_Mdl_on_24 ?_
    refine gg_goto 29 d_Mdl_on_25 (by decide) ?_
    refine gg_l2i d_Mdl_on_29 rfl ?_
    exact gg_ireturn d_Mdl_on_30 rfl rfl ⟨by first | rw [mo_on_pos hs (by omega) (by omega) c15] | rw [mo_on_neg hs (by omega) (by omega) c15], rfl⟩
set_option maxHeartbeats 4000000 in
set_option maxRecDepth 100000 in
theorem c_Mdl_turn_bad  {x y : Int32} (hx : y.toInt < 0 ∨ 3 < y.toInt) : gg_K l D cA d y_Mdl_turn b_Mdl_turn 4 (some .int) [.ref 14, .int y, .int x] (hp tN tF oN oF rN rF pN pF bN bF eN eF lo mT mO mW mR mP zT zO zX zB zL zR zP zQ lm) (gg_is (some (.int (-1))) (hp tN tF oN oF rN rF pN pF bN bF eN eF lo mT mO mW mR mP zT zO zX zB zL zR zP zQ lm)) := by
  refine gg_K.start (L := [some (.ref 14), some (.int y), some (.int x), none]) rfl (plainFor_of_name (by decide)) rfl (Nat.le_of_ble_eq_true rfl) ?_
  refine gg_iload_n 1 d_Mdl_turn_0 rfl rfl ?_
  refine gg_if_lt 9 d_Mdl_turn_1 (by decide) (fun c1 => ?_) (fun c1 => ?_)
  · refine gg_iconst (v := (-1)) d_Mdl_turn_9 (by decide) ?_
    exact gg_ireturn d_Mdl_turn_10 rfl rfl ⟨rfl, rfl⟩
  · rw [sp_lt0] at c1
    refine gg_iload_n 1 d_Mdl_turn_4 rfl rfl ?_
    refine gg_iconst (v := 3) d_Mdl_turn_5 (by decide) ?_
    refine gg_icmp_le 11 d_Mdl_turn_6 (by decide) (fun c6 => ?_) (fun c6 => ?_)
    · have h5 : (3 : Int32).toInt = 3 := by decide
      rw [Int32.le_iff_toInt_le, h5] at c6
      omega
    · refine gg_iconst (v := (-1)) d_Mdl_turn_9 (by decide) ?_
      exact gg_ireturn d_Mdl_turn_10 rfl rfl ⟨rfl, rfl⟩
set_option maxHeartbeats 4000000 in
set_option maxRecDepth 100000 in
theorem c_Mdl_turn3_full  {x : Int32} (h1 : ¬ mR + mP ≤ 600) (h0 : mR ≤ 600) (h2 : mP ≤ 600) : gg_K l D cA d y_Mdl_turn b_Mdl_turn 4 (some .int) [.ref 14, .int 3, .int x] (hp tN tF oN oF rN rF pN pF bN bF eN eF lo mT mO mW mR mP zT zO zX zB zL zR zP zQ lm) (gg_is (some (.int (-3))) (hp tN tF oN oF rN rF pN pF bN bF eN eF lo mT mO mW mR mP zT zO zX zB zL zR zP zQ lm)) := by
  refine gg_K.start (L := [some (.ref 14), some (.int 3), some (.int x), none]) rfl (plainFor_of_name (by decide)) rfl (Nat.le_of_ble_eq_true rfl) ?_
  refine gg_iload_n 1 d_Mdl_turn_0 rfl rfl ?_
  refine gg_if_lt 9 d_Mdl_turn_1 (by decide) (fun c1 => ?_) (fun c1 => ?_)
  · first | exact absurd c1 (by decide) | exact absurd (by decide) c1
  · refine gg_iload_n 1 d_Mdl_turn_4 rfl rfl ?_
    refine gg_iconst (v := 3) d_Mdl_turn_5 (by decide) ?_
    refine gg_icmp_le 11 d_Mdl_turn_6 (by decide) (fun c6 => ?_) (fun c6 => ?_)
    · refine gg_iload_n 1 d_Mdl_turn_11 rfl rfl ?_
      refine gg_iconst (v := 3) d_Mdl_turn_12 (by decide) ?_
      refine gg_icmp_ne 34 d_Mdl_turn_13 (by decide) (fun c13 => ?_) (fun c13 => ?_)
      · first | exact absurd c13 (by decide) | exact absurd (by decide) c13
      · refine gg_aload_n 0 d_Mdl_turn_16 rfl rfl ?_
        refine gg_get f_Mdl_88 d_Mdl_turn_17 rfl rfl ?_
        refine gg_aload_n 0 d_Mdl_turn_20 rfl rfl ?_
        refine gg_get f_Mdl_85 d_Mdl_turn_21 rfl rfl ?_
        refine gg_iadd d_Mdl_turn_24 ?_
        refine gg_sipush (v := nI 600) d_Mdl_turn_25 (by decide) ?_
        rw [nI_add]
        refine gg_icmp_le 34 d_Mdl_turn_28 (by decide) (fun c28 => ?_) (fun c28 => ?_)
        · exact absurd c28 (nI_ge (by omega) (by omega))
        · refine gg_bipush (v := (-3)) d_Mdl_turn_31 (by decide) ?_
          exact gg_ireturn d_Mdl_turn_33 rfl rfl ⟨rfl, rfl⟩
    · first | exact absurd c6 (by decide) | exact absurd (by decide) c6
set_option maxHeartbeats 4000000 in
set_option maxRecDepth 100000 in
theorem c_Mdl_turn3  {x : Int32} (h1 : mR + mP ≤ 600) : gg_K l D cA d y_Mdl_turn b_Mdl_turn 4 (some .int) [.ref 14, .int 3, .int x] (hp tN tF oN oF rN rF pN pF bN bF eN eF lo mT mO mW mR mP zT zO zX zB zL zR zP zQ lm) (gg_is (some (.int (nI (mR + mP)))) (hp tN tF oN oF rN rF pN pF bN bF eN eF lo mT mO mW (mR + mP) mP zT zO zX zB zL (mo_ap zR mR zP mP) zP zQ lm)) := by
  have loop : ∀ k : Nat, ∀ i, mP - i = k → i ≤ mP → gg_G l D cA d R_Mdl b_Mdl_turn 4 (some .int) (gg_is (some (.int (nI (mR + mP)))) (hp tN tF oN oF rN rF pN pF bN bF eN eF lo mT mO mW (mR + mP) mP zT zO zX zB zL (mo_ap zR mR zP mP) zP zQ lm)) 41 [some (.ref 14), some (.int 3), some (.int x), some (.int (nI i))] [] ((hp tN tF oN oF rN rF pN pF bN bF eN eF lo mT mO mW (mR + i) mP zT zO zX zB zL (mo_ap zR mR zP i) zP zQ lm)) := by
    intro k
    induction k with
    | zero =>
      intro i hk hi
      refine gg_iload_n 3 d_Mdl_turn_41 rfl rfl ?_
      refine gg_aload_n 0 d_Mdl_turn_42 rfl rfl ?_
      refine gg_get f_Mdl_85 d_Mdl_turn_43 rfl rfl ?_
      refine gg_icmp_ge 80 d_Mdl_turn_46 (by decide) (fun c46 => ?_) (fun c46 => ?_)
      · refine gg_aload_n 0 d_Mdl_turn_80 rfl rfl ?_
        refine gg_get f_Mdl_88 d_Mdl_turn_81 rfl rfl ?_
        exact gg_ireturn d_Mdl_turn_84 rfl rfl ⟨by rw [show i = mP by omega], by rw [show i = mP by omega]⟩
      · exact absurd (nI_le (by omega) (by omega)) c46
    | succ k ih =>
      intro i hk hi
      refine gg_iload_n 3 d_Mdl_turn_41 rfl rfl ?_
      refine gg_aload_n 0 d_Mdl_turn_42 rfl rfl ?_
      refine gg_get f_Mdl_85 d_Mdl_turn_43 rfl rfl ?_
      refine gg_icmp_ge 80 d_Mdl_turn_46 (by decide) (fun c46 => ?_) (fun c46 => ?_)
      · exact absurd c46 (nI_ge (by omega) (by omega))
      · refine gg_aload_n 0 d_Mdl_turn_49 rfl rfl ?_
        refine gg_get f_Mdl_25 d_Mdl_turn_50 rfl rfl ?_
        refine gg_aload_n 0 d_Mdl_turn_53 rfl rfl ?_
        refine gg_get f_Mdl_88 d_Mdl_turn_54 rfl rfl ?_
        refine gg_aload_n 0 d_Mdl_turn_57 rfl rfl ?_
        refine gg_get f_Mdl_28 d_Mdl_turn_58 rfl rfl ?_
        refine gg_iload_n 3 d_Mdl_turn_61 rfl rfl ?_
        refine gg_iald d_Mdl_turn_62 rfl (by omega) (by decide) ?_
        refine gg_iast d_Mdl_turn_63 rfl (by omega) (by decide) ?_
        rw [mo_ap_step]
        show gg_G _ _ _ _ _ _ _ _ _ _ _ _ (hp tN tF oN oF rN rF pN pF bN bF eN eF lo mT mO mW (mR + i) mP zT zO zX zB zL (mo_ap zR mR zP (i + 1)) zP zQ lm)
        refine gg_aload_n 0 d_Mdl_turn_64 rfl rfl ?_
        refine gg_dup d_Mdl_turn_65 rfl ?_
        refine gg_get f_Mdl_88 d_Mdl_turn_66 rfl rfl ?_
        refine gg_iconst (v := 1) d_Mdl_turn_69 (by decide) ?_
        refine gg_iadd d_Mdl_turn_70 ?_
        rw [nI_1]
        refine gg_puti u_Mdl_88 d_Mdl_turn_71 rfl (Nat.le_of_ble_eq_true rfl) ?_
        dsimp only [List.set]
        show gg_G _ _ _ _ _ _ _ _ _ _ _ _ (hp tN tF oN oF rN rF pN pF bN bF eN eF lo mT mO mW (mR + i + 1) mP zT zO zX zB zL (mo_ap zR mR zP (i + 1)) zP zQ lm)
        refine gg_iinc (1) d_Mdl_turn_74 rfl (by decide) (by decide) rfl ?_
        dsimp only [List.set]
        refine gg_goto 41 d_Mdl_turn_77 (by decide) ?_
        rw [nI_1]
        exact ih (i + 1) (by omega) (by omega)
  refine gg_K.start (L := [some (.ref 14), some (.int 3), some (.int x), none]) rfl (plainFor_of_name (by decide)) rfl (Nat.le_of_ble_eq_true rfl) ?_
  refine gg_iload_n 1 d_Mdl_turn_0 rfl rfl ?_
  refine gg_if_lt 9 d_Mdl_turn_1 (by decide) (fun c1 => ?_) (fun c1 => ?_)
  · first | exact absurd c1 (by decide) | exact absurd (by decide) c1
  · refine gg_iload_n 1 d_Mdl_turn_4 rfl rfl ?_
    refine gg_iconst (v := 3) d_Mdl_turn_5 (by decide) ?_
    refine gg_icmp_le 11 d_Mdl_turn_6 (by decide) (fun c6 => ?_) (fun c6 => ?_)
    · refine gg_iload_n 1 d_Mdl_turn_11 rfl rfl ?_
      refine gg_iconst (v := 3) d_Mdl_turn_12 (by decide) ?_
      refine gg_icmp_ne 34 d_Mdl_turn_13 (by decide) (fun c13 => ?_) (fun c13 => ?_)
      · first | exact absurd c13 (by decide) | exact absurd (by decide) c13
      · refine gg_aload_n 0 d_Mdl_turn_16 rfl rfl ?_
        refine gg_get f_Mdl_88 d_Mdl_turn_17 rfl rfl ?_
        refine gg_aload_n 0 d_Mdl_turn_20 rfl rfl ?_
        refine gg_get f_Mdl_85 d_Mdl_turn_21 rfl rfl ?_
        refine gg_iadd d_Mdl_turn_24 ?_
        refine gg_sipush (v := nI 600) d_Mdl_turn_25 (by decide) ?_
        rw [nI_add]
        refine gg_icmp_le 34 d_Mdl_turn_28 (by decide) (fun c28 => ?_) (fun c28 => ?_)
        · refine gg_iload_n 1 d_Mdl_turn_34 rfl rfl ?_
          refine gg_iconst (v := 3) d_Mdl_turn_35 (by decide) ?_
          refine gg_icmp_ne 85 d_Mdl_turn_36 (by decide) (fun c36 => ?_) (fun c36 => ?_)
          · first | exact absurd c36 (by decide) | exact absurd (by decide) c36
          · refine gg_iconst (v := 0) d_Mdl_turn_39 (by decide) ?_
            refine gg_istore_n 3 d_Mdl_turn_40 rfl (by decide) rfl ?_
            dsimp only [List.set]
            have e0 := loop mP 0 rfl (Nat.zero_le _)
            rw [mo_ap0] at e0
            exact e0
        · exact absurd (nI_le (by omega) (by omega)) c28
    · first | exact absurd c6 (by decide) | exact absurd (by decide) c6
set_option maxHeartbeats 4000000 in
set_option maxRecDepth 100000 in
theorem c_Mdl_turn0  {x : Int32} (h0 : mR ≤ 600) : gg_K l D cA d y_Mdl_turn b_Mdl_turn 4 (some .int) [.ref 14, .int 0, .int x] (hp tN tF oN oF rN rF pN pF bN bF eN eF lo mT mO mW mR mP zT zO zX zB zL zR zP zQ lm) (gg_is (some (.int (nI mR))) (hp tN tF oN oF rN rF pN pF bN bF eN eF lo mT mO mW mR mP zT zO zX zB zL (mo_rv zR mR mR) zP (mo_cp zQ zR mR) lm)) := by
  have loopB : ∀ k : Nat, ∀ i, mR - i = k → i ≤ mR → gg_G l D cA d R_Mdl b_Mdl_turn 4 (some .int) (gg_is (some (.int (nI mR))) (hp tN tF oN oF rN rF pN pF bN bF eN eF lo mT mO mW mR mP zT zO zX zB zL (mo_rv zR mR mR) zP (mo_cp zQ zR mR) lm)) 115 [some (.ref 14), some (.int 0), some (.int x), some (.int (nI i))] [] ((hp tN tF oN oF rN rF pN pF bN bF eN eF lo mT mO mW mR mP zT zO zX zB zL (mo_rv zR mR i) zP (mo_cp zQ zR mR) lm)) := by
    intro k
    induction k with
    | zero =>
      intro i hk hi
      refine gg_iload_n 3 d_Mdl_turn_115 rfl rfl ?_
      refine gg_aload_n 0 d_Mdl_turn_116 rfl rfl ?_
      refine gg_get f_Mdl_88 d_Mdl_turn_117 rfl rfl ?_
      refine gg_icmp_ge 187 d_Mdl_turn_120 (by decide) (fun c120 => ?_) (fun c120 => ?_)
      · refine gg_aload_n 0 d_Mdl_turn_187 rfl rfl ?_
        refine gg_get f_Mdl_88 d_Mdl_turn_188 rfl rfl ?_
        exact gg_ireturn d_Mdl_turn_191 rfl rfl ⟨rfl, by rw [show i = mR by omega]⟩
      · exact absurd (nI_le (by omega) (by omega)) c120
    | succ k ih =>
      intro i hk hi
      refine gg_iload_n 3 d_Mdl_turn_115 rfl rfl ?_
      refine gg_aload_n 0 d_Mdl_turn_116 rfl rfl ?_
      refine gg_get f_Mdl_88 d_Mdl_turn_117 rfl rfl ?_
      refine gg_icmp_ge 187 d_Mdl_turn_120 (by decide) (fun c120 => ?_) (fun c120 => ?_)
      · exact absurd c120 (nI_ge (by omega) (by omega))
      · refine gg_iload_n 1 d_Mdl_turn_123 rfl rfl ?_
        refine gg_if_ne 149 d_Mdl_turn_124 (by decide) (fun c124 => ?_) (fun c124 => ?_)
        · first | exact absurd c124 (by decide) | exact absurd (by decide) c124
        · refine gg_aload_n 0 d_Mdl_turn_127 rfl rfl ?_
          refine gg_get f_Mdl_25 d_Mdl_turn_128 rfl rfl ?_
          refine gg_aload_n 0 d_Mdl_turn_131 rfl rfl ?_
          refine gg_get f_Mdl_88 d_Mdl_turn_132 rfl rfl ?_
          refine gg_iconst (v := 1) d_Mdl_turn_135 (by decide) ?_
          refine gg_isub d_Mdl_turn_136 ?_
          refine gg_iload_n 3 d_Mdl_turn_137 rfl rfl ?_
          refine gg_isub d_Mdl_turn_138 ?_
          refine gg_aload_n 0 d_Mdl_turn_139 rfl rfl ?_
          refine gg_get f_Mdl_31 d_Mdl_turn_140 rfl rfl ?_
          refine gg_iload_n 3 d_Mdl_turn_143 rfl rfl ?_
          refine gg_iald d_Mdl_turn_144 rfl (by omega) (by decide) ?_
          rw [mo_cp_at (by omega), sp_pred (by omega), pk_sub (by omega)]
          refine gg_iast d_Mdl_turn_145 rfl (by omega) (by decide) ?_
          rw [mo_rv_step (by omega)]
          show gg_G _ _ _ _ _ _ _ _ _ _ _ _ (hp tN tF oN oF rN rF pN pF bN bF eN eF lo mT mO mW mR mP zT zO zX zB zL (mo_rv zR mR (i + 1)) zP (mo_cp zQ zR mR) lm)
          refine gg_goto 181 d_Mdl_turn_146 (by decide) ?_
          refine gg_iinc (1) d_Mdl_turn_181 rfl (by decide) (by decide) rfl ?_
          dsimp only [List.set]
          refine gg_goto 115 d_Mdl_turn_184 (by decide) ?_
          rw [nI_1]
          exact ih (i + 1) (by omega) (by omega)
  have loopA : ∀ k : Nat, ∀ i, mR - i = k → i ≤ mR → gg_G l D cA d R_Mdl b_Mdl_turn 4 (some .int) (gg_is (some (.int (nI mR))) (hp tN tF oN oF rN rF pN pF bN bF eN eF lo mT mO mW mR mP zT zO zX zB zL (mo_rv zR mR mR) zP (mo_cp zQ zR mR) lm)) 87 [some (.ref 14), some (.int 0), some (.int x), some (.int (nI i))] [] ((hp tN tF oN oF rN rF pN pF bN bF eN eF lo mT mO mW mR mP zT zO zX zB zL zR zP (mo_cp zQ zR i) lm)) := by
    intro k
    induction k with
    | zero =>
      intro i hk hi
      refine gg_iload_n 3 d_Mdl_turn_87 rfl rfl ?_
      refine gg_aload_n 0 d_Mdl_turn_88 rfl rfl ?_
      refine gg_get f_Mdl_88 d_Mdl_turn_89 rfl rfl ?_
      refine gg_icmp_ge 113 d_Mdl_turn_92 (by decide) (fun c92 => ?_) (fun c92 => ?_)
      · refine gg_iconst (v := 0) d_Mdl_turn_113 (by decide) ?_
        refine gg_istore_n 3 d_Mdl_turn_114 rfl (by decide) rfl ?_
        dsimp only [List.set]
        have e0 := loopB mR 0 rfl (Nat.zero_le _)
        rw [mo_rv0] at e0
        rw [show i = mR by omega]
        exact e0
      · exact absurd (nI_le (by omega) (by omega)) c92
    | succ k ih =>
      intro i hk hi
      refine gg_iload_n 3 d_Mdl_turn_87 rfl rfl ?_
      refine gg_aload_n 0 d_Mdl_turn_88 rfl rfl ?_
      refine gg_get f_Mdl_88 d_Mdl_turn_89 rfl rfl ?_
      refine gg_icmp_ge 113 d_Mdl_turn_92 (by decide) (fun c92 => ?_) (fun c92 => ?_)
      · exact absurd c92 (nI_ge (by omega) (by omega))
      · refine gg_aload_n 0 d_Mdl_turn_95 rfl rfl ?_
        refine gg_get f_Mdl_31 d_Mdl_turn_96 rfl rfl ?_
        refine gg_iload_n 3 d_Mdl_turn_99 rfl rfl ?_
        refine gg_aload_n 0 d_Mdl_turn_100 rfl rfl ?_
        refine gg_get f_Mdl_25 d_Mdl_turn_101 rfl rfl ?_
        refine gg_iload_n 3 d_Mdl_turn_104 rfl rfl ?_
        refine gg_iald d_Mdl_turn_105 rfl (by omega) (by decide) ?_
        refine gg_iast d_Mdl_turn_106 rfl (by omega) (by decide) ?_
        rw [mo_cp_step]
        show gg_G _ _ _ _ _ _ _ _ _ _ _ _ (hp tN tF oN oF rN rF pN pF bN bF eN eF lo mT mO mW mR mP zT zO zX zB zL zR zP (mo_cp zQ zR (i + 1)) lm)
        refine gg_iinc (1) d_Mdl_turn_107 rfl (by decide) (by decide) rfl ?_
        dsimp only [List.set]
        refine gg_goto 87 d_Mdl_turn_110 (by decide) ?_
        rw [nI_1]
        exact ih (i + 1) (by omega) (by omega)
  refine gg_K.start (L := [some (.ref 14), some (.int 0), some (.int x), none]) rfl (plainFor_of_name (by decide)) rfl (Nat.le_of_ble_eq_true rfl) ?_
  refine gg_iload_n 1 d_Mdl_turn_0 rfl rfl ?_
  refine gg_if_lt 9 d_Mdl_turn_1 (by decide) (fun c1 => ?_) (fun c1 => ?_)
  · first | exact absurd c1 (by decide) | exact absurd (by decide) c1
  · refine gg_iload_n 1 d_Mdl_turn_4 rfl rfl ?_
    refine gg_iconst (v := 3) d_Mdl_turn_5 (by decide) ?_
    refine gg_icmp_le 11 d_Mdl_turn_6 (by decide) (fun c6 => ?_) (fun c6 => ?_)
    · refine gg_iload_n 1 d_Mdl_turn_11 rfl rfl ?_
      refine gg_iconst (v := 3) d_Mdl_turn_12 (by decide) ?_
      refine gg_icmp_ne 34 d_Mdl_turn_13 (by decide) (fun c13 => ?_) (fun c13 => ?_)
      · refine gg_iload_n 1 d_Mdl_turn_34 rfl rfl ?_
        refine gg_iconst (v := 3) d_Mdl_turn_35 (by decide) ?_
        refine gg_icmp_ne 85 d_Mdl_turn_36 (by decide) (fun c36 => ?_) (fun c36 => ?_)
        · refine gg_iconst (v := 0) d_Mdl_turn_85 (by decide) ?_
          refine gg_istore_n 3 d_Mdl_turn_86 rfl (by decide) rfl ?_
          dsimp only [List.set]
          have e0 := loopA mR 0 rfl (Nat.zero_le _)
          rw [mo_cp0] at e0
          exact e0
        · first | exact absurd c36 (by decide) | exact absurd (by decide) c36
      · first | exact absurd c13 (by decide) | exact absurd (by decide) c13
    · first | exact absurd c6 (by decide) | exact absurd (by decide) c6
set_option maxHeartbeats 4000000 in
set_option maxRecDepth 100000 in
theorem c_Mdl_turn1  {x : Int32} (h0 : mR ≤ 600) (hd : 1 ≤ d) : gg_K l D cA d y_Mdl_turn b_Mdl_turn 4 (some .int) [.ref 14, .int 1, .int x] (hp tN tF oN oF rN rF pN pF bN bF eN eF lo mT mO mW mR mP zT zO zX zB zL zR zP zQ lm) (gg_is (some (.int (nI mR))) (hp tN tF oN oF rN rF pN pF bN bF eN eF lo mT mO mW mR mP zT zO zX zB zL (mo_ro zR x mR mR) zP (mo_cp zQ zR mR) lm)) := by
  have loopB : ∀ k : Nat, ∀ i, mR - i = k → i ≤ mR → gg_G l D cA d R_Mdl b_Mdl_turn 4 (some .int) (gg_is (some (.int (nI mR))) (hp tN tF oN oF rN rF pN pF bN bF eN eF lo mT mO mW mR mP zT zO zX zB zL (mo_ro zR x mR mR) zP (mo_cp zQ zR mR) lm)) 115 [some (.ref 14), some (.int 1), some (.int x), some (.int (nI i))] [] ((hp tN tF oN oF rN rF pN pF bN bF eN eF lo mT mO mW mR mP zT zO zX zB zL (mo_ro zR x mR i) zP (mo_cp zQ zR mR) lm)) := by
    intro k
    induction k with
    | zero =>
      intro i hk hi
      refine gg_iload_n 3 d_Mdl_turn_115 rfl rfl ?_
      refine gg_aload_n 0 d_Mdl_turn_116 rfl rfl ?_
      refine gg_get f_Mdl_88 d_Mdl_turn_117 rfl rfl ?_
      refine gg_icmp_ge 187 d_Mdl_turn_120 (by decide) (fun c120 => ?_) (fun c120 => ?_)
      · refine gg_aload_n 0 d_Mdl_turn_187 rfl rfl ?_
        refine gg_get f_Mdl_88 d_Mdl_turn_188 rfl rfl ?_
        exact gg_ireturn d_Mdl_turn_191 rfl rfl ⟨rfl, by rw [show i = mR by omega]⟩
      · exact absurd (nI_le (by omega) (by omega)) c120
    | succ k ih =>
      intro i hk hi
      refine gg_iload_n 3 d_Mdl_turn_115 rfl rfl ?_
      refine gg_aload_n 0 d_Mdl_turn_116 rfl rfl ?_
      refine gg_get f_Mdl_88 d_Mdl_turn_117 rfl rfl ?_
      refine gg_icmp_ge 187 d_Mdl_turn_120 (by decide) (fun c120 => ?_) (fun c120 => ?_)
      · exact absurd c120 (nI_ge (by omega) (by omega))
      · refine gg_iload_n 1 d_Mdl_turn_123 rfl rfl ?_
        refine gg_if_ne 149 d_Mdl_turn_124 (by decide) (fun c124 => ?_) (fun c124 => ?_)
        · refine gg_iload_n 1 d_Mdl_turn_149 rfl rfl ?_
          refine gg_iconst (v := 2) d_Mdl_turn_150 (by decide) ?_
          refine gg_icmp_ne 164 d_Mdl_turn_151 (by decide) (fun c151 => ?_) (fun c151 => ?_)
          · refine gg_aload_n 0 d_Mdl_turn_164 rfl rfl ?_
            refine gg_get f_Mdl_25 d_Mdl_turn_165 rfl rfl ?_
            refine gg_aload_n 0 d_Mdl_turn_168 rfl rfl ?_
            refine gg_iload_n 3 d_Mdl_turn_169 rfl rfl ?_
            refine gg_iload_n 2 d_Mdl_turn_170 rfl rfl ?_
            refine gg_cv1 m_Mdl_94 d_Mdl_turn_171 (c_Mdl_on (d := 0) (by omega) h0) rfl rfl rfl rfl (by omega) rfl (Nat.le_of_ble_eq_true rfl) ?_
            refine gg_aload_n 0 d_Mdl_turn_174 rfl rfl ?_
            refine gg_get f_Mdl_31 d_Mdl_turn_175 rfl rfl ?_
            refine gg_iload_n 3 d_Mdl_turn_178 rfl rfl ?_
            refine gg_iald d_Mdl_turn_179 rfl (by omega) (by decide) ?_
            rw [mo_cp_at (by omega)]
            have hon := mo_on_lt x (show 0 < mR by omega) i
            refine gg_iast d_Mdl_turn_180 rfl (by omega) (by decide) ?_
            rw [mo_ro_step (by omega)]
            show gg_G _ _ _ _ _ _ _ _ _ _ _ _ (hp tN tF oN oF rN rF pN pF bN bF eN eF lo mT mO mW mR mP zT zO zX zB zL (mo_ro zR x mR (i + 1)) zP (mo_cp zQ zR mR) lm)
            refine gg_iinc (1) d_Mdl_turn_181 rfl (by decide) (by decide) rfl ?_
            dsimp only [List.set]
            refine gg_goto 115 d_Mdl_turn_184 (by decide) ?_
            rw [nI_1]
            exact ih (i + 1) (by omega) (by omega)
          · first | exact absurd c151 (by decide) | exact absurd (by decide) c151
        · first | exact absurd c124 (by decide) | exact absurd (by decide) c124
  have loopA : ∀ k : Nat, ∀ i, mR - i = k → i ≤ mR → gg_G l D cA d R_Mdl b_Mdl_turn 4 (some .int) (gg_is (some (.int (nI mR))) (hp tN tF oN oF rN rF pN pF bN bF eN eF lo mT mO mW mR mP zT zO zX zB zL (mo_ro zR x mR mR) zP (mo_cp zQ zR mR) lm)) 87 [some (.ref 14), some (.int 1), some (.int x), some (.int (nI i))] [] ((hp tN tF oN oF rN rF pN pF bN bF eN eF lo mT mO mW mR mP zT zO zX zB zL zR zP (mo_cp zQ zR i) lm)) := by
    intro k
    induction k with
    | zero =>
      intro i hk hi
      refine gg_iload_n 3 d_Mdl_turn_87 rfl rfl ?_
      refine gg_aload_n 0 d_Mdl_turn_88 rfl rfl ?_
      refine gg_get f_Mdl_88 d_Mdl_turn_89 rfl rfl ?_
      refine gg_icmp_ge 113 d_Mdl_turn_92 (by decide) (fun c92 => ?_) (fun c92 => ?_)
      · refine gg_iconst (v := 0) d_Mdl_turn_113 (by decide) ?_
        refine gg_istore_n 3 d_Mdl_turn_114 rfl (by decide) rfl ?_
        dsimp only [List.set]
        have e0 := loopB mR 0 rfl (Nat.zero_le _)
        rw [mo_ro0] at e0
        rw [show i = mR by omega]
        exact e0
      · exact absurd (nI_le (by omega) (by omega)) c92
    | succ k ih =>
      intro i hk hi
      refine gg_iload_n 3 d_Mdl_turn_87 rfl rfl ?_
      refine gg_aload_n 0 d_Mdl_turn_88 rfl rfl ?_
      refine gg_get f_Mdl_88 d_Mdl_turn_89 rfl rfl ?_
      refine gg_icmp_ge 113 d_Mdl_turn_92 (by decide) (fun c92 => ?_) (fun c92 => ?_)
      · exact absurd c92 (nI_ge (by omega) (by omega))
      · refine gg_aload_n 0 d_Mdl_turn_95 rfl rfl ?_
        refine gg_get f_Mdl_31 d_Mdl_turn_96 rfl rfl ?_
        refine gg_iload_n 3 d_Mdl_turn_99 rfl rfl ?_
        refine gg_aload_n 0 d_Mdl_turn_100 rfl rfl ?_
        refine gg_get f_Mdl_25 d_Mdl_turn_101 rfl rfl ?_
        refine gg_iload_n 3 d_Mdl_turn_104 rfl rfl ?_
        refine gg_iald d_Mdl_turn_105 rfl (by omega) (by decide) ?_
        refine gg_iast d_Mdl_turn_106 rfl (by omega) (by decide) ?_
        rw [mo_cp_step]
        show gg_G _ _ _ _ _ _ _ _ _ _ _ _ (hp tN tF oN oF rN rF pN pF bN bF eN eF lo mT mO mW mR mP zT zO zX zB zL zR zP (mo_cp zQ zR (i + 1)) lm)
        refine gg_iinc (1) d_Mdl_turn_107 rfl (by decide) (by decide) rfl ?_
        dsimp only [List.set]
        refine gg_goto 87 d_Mdl_turn_110 (by decide) ?_
        rw [nI_1]
        exact ih (i + 1) (by omega) (by omega)
  refine gg_K.start (L := [some (.ref 14), some (.int 1), some (.int x), none]) rfl (plainFor_of_name (by decide)) rfl (Nat.le_of_ble_eq_true rfl) ?_
  refine gg_iload_n 1 d_Mdl_turn_0 rfl rfl ?_
  refine gg_if_lt 9 d_Mdl_turn_1 (by decide) (fun c1 => ?_) (fun c1 => ?_)
  · first | exact absurd c1 (by decide) | exact absurd (by decide) c1
  · refine gg_iload_n 1 d_Mdl_turn_4 rfl rfl ?_
    refine gg_iconst (v := 3) d_Mdl_turn_5 (by decide) ?_
    refine gg_icmp_le 11 d_Mdl_turn_6 (by decide) (fun c6 => ?_) (fun c6 => ?_)
    · refine gg_iload_n 1 d_Mdl_turn_11 rfl rfl ?_
      refine gg_iconst (v := 3) d_Mdl_turn_12 (by decide) ?_
      refine gg_icmp_ne 34 d_Mdl_turn_13 (by decide) (fun c13 => ?_) (fun c13 => ?_)
      · refine gg_iload_n 1 d_Mdl_turn_34 rfl rfl ?_
        refine gg_iconst (v := 3) d_Mdl_turn_35 (by decide) ?_
        refine gg_icmp_ne 85 d_Mdl_turn_36 (by decide) (fun c36 => ?_) (fun c36 => ?_)
        · refine gg_iconst (v := 0) d_Mdl_turn_85 (by decide) ?_
          refine gg_istore_n 3 d_Mdl_turn_86 rfl (by decide) rfl ?_
          dsimp only [List.set]
          have e0 := loopA mR 0 rfl (Nat.zero_le _)
          rw [mo_cp0] at e0
          exact e0
        · first | exact absurd c36 (by decide) | exact absurd (by decide) c36
      · first | exact absurd c13 (by decide) | exact absurd (by decide) c13
    · first | exact absurd c6 (by decide) | exact absurd (by decide) c6
set_option maxHeartbeats 4000000 in
set_option maxRecDepth 100000 in
theorem c_Mdl_turn2  {x : Int32} (h0 : mR ≤ 600) : gg_K l D cA d y_Mdl_turn b_Mdl_turn 4 (some .int) [.ref 14, .int 2, .int x] (hp tN tF oN oF rN rF pN pF bN bF eN eF lo mT mO mW mR mP zT zO zX zB zL zR zP zQ lm) (gg_is (some (.int (nI mR))) (hp tN tF oN oF rN rF pN pF bN bF eN eF lo mT mO mW mR mP zT zO zX zB zL (sp_fl zR mR x) zP (mo_cp zQ zR mR) lm)) := by
  have loopB : ∀ k : Nat, ∀ i, mR - i = k → i ≤ mR → gg_G l D cA d R_Mdl b_Mdl_turn 4 (some .int) (gg_is (some (.int (nI mR))) (hp tN tF oN oF rN rF pN pF bN bF eN eF lo mT mO mW mR mP zT zO zX zB zL (sp_fl zR mR x) zP (mo_cp zQ zR mR) lm)) 115 [some (.ref 14), some (.int 2), some (.int x), some (.int (nI i))] [] ((hp tN tF oN oF rN rF pN pF bN bF eN eF lo mT mO mW mR mP zT zO zX zB zL (sp_fl zR i x) zP (mo_cp zQ zR mR) lm)) := by
    intro k
    induction k with
    | zero =>
      intro i hk hi
      refine gg_iload_n 3 d_Mdl_turn_115 rfl rfl ?_
      refine gg_aload_n 0 d_Mdl_turn_116 rfl rfl ?_
      refine gg_get f_Mdl_88 d_Mdl_turn_117 rfl rfl ?_
      refine gg_icmp_ge 187 d_Mdl_turn_120 (by decide) (fun c120 => ?_) (fun c120 => ?_)
      · refine gg_aload_n 0 d_Mdl_turn_187 rfl rfl ?_
        refine gg_get f_Mdl_88 d_Mdl_turn_188 rfl rfl ?_
        exact gg_ireturn d_Mdl_turn_191 rfl rfl ⟨rfl, by rw [show i = mR by omega]⟩
      · exact absurd (nI_le (by omega) (by omega)) c120
    | succ k ih =>
      intro i hk hi
      refine gg_iload_n 3 d_Mdl_turn_115 rfl rfl ?_
      refine gg_aload_n 0 d_Mdl_turn_116 rfl rfl ?_
      refine gg_get f_Mdl_88 d_Mdl_turn_117 rfl rfl ?_
      refine gg_icmp_ge 187 d_Mdl_turn_120 (by decide) (fun c120 => ?_) (fun c120 => ?_)
      · exact absurd c120 (nI_ge (by omega) (by omega))
      · refine gg_iload_n 1 d_Mdl_turn_123 rfl rfl ?_
        refine gg_if_ne 149 d_Mdl_turn_124 (by decide) (fun c124 => ?_) (fun c124 => ?_)
        · refine gg_iload_n 1 d_Mdl_turn_149 rfl rfl ?_
          refine gg_iconst (v := 2) d_Mdl_turn_150 (by decide) ?_
          refine gg_icmp_ne 164 d_Mdl_turn_151 (by decide) (fun c151 => ?_) (fun c151 => ?_)
          · first | exact absurd c151 (by decide) | exact absurd (by decide) c151
          · refine gg_aload_n 0 d_Mdl_turn_154 rfl rfl ?_
            refine gg_get f_Mdl_25 d_Mdl_turn_155 rfl rfl ?_
            refine gg_iload_n 3 d_Mdl_turn_158 rfl rfl ?_
            refine gg_iload_n 2 d_Mdl_turn_159 rfl rfl ?_
            refine gg_iast d_Mdl_turn_160 rfl (by omega) (by decide) ?_
            rw [sp_fl_step]
            show gg_G _ _ _ _ _ _ _ _ _ _ _ _ (hp tN tF oN oF rN rF pN pF bN bF eN eF lo mT mO mW mR mP zT zO zX zB zL (sp_fl zR (i + 1) x) zP (mo_cp zQ zR mR) lm)
            refine gg_goto 181 d_Mdl_turn_161 (by decide) ?_
            refine gg_iinc (1) d_Mdl_turn_181 rfl (by decide) (by decide) rfl ?_
            dsimp only [List.set]
            refine gg_goto 115 d_Mdl_turn_184 (by decide) ?_
            rw [nI_1]
            exact ih (i + 1) (by omega) (by omega)
        · first | exact absurd c124 (by decide) | exact absurd (by decide) c124
  have loopA : ∀ k : Nat, ∀ i, mR - i = k → i ≤ mR → gg_G l D cA d R_Mdl b_Mdl_turn 4 (some .int) (gg_is (some (.int (nI mR))) (hp tN tF oN oF rN rF pN pF bN bF eN eF lo mT mO mW mR mP zT zO zX zB zL (sp_fl zR mR x) zP (mo_cp zQ zR mR) lm)) 87 [some (.ref 14), some (.int 2), some (.int x), some (.int (nI i))] [] ((hp tN tF oN oF rN rF pN pF bN bF eN eF lo mT mO mW mR mP zT zO zX zB zL zR zP (mo_cp zQ zR i) lm)) := by
    intro k
    induction k with
    | zero =>
      intro i hk hi
      refine gg_iload_n 3 d_Mdl_turn_87 rfl rfl ?_
      refine gg_aload_n 0 d_Mdl_turn_88 rfl rfl ?_
      refine gg_get f_Mdl_88 d_Mdl_turn_89 rfl rfl ?_
      refine gg_icmp_ge 113 d_Mdl_turn_92 (by decide) (fun c92 => ?_) (fun c92 => ?_)
      · refine gg_iconst (v := 0) d_Mdl_turn_113 (by decide) ?_
        refine gg_istore_n 3 d_Mdl_turn_114 rfl (by decide) rfl ?_
        dsimp only [List.set]
        have e0 := loopB mR 0 rfl (Nat.zero_le _)
        rw [sp_fl_0] at e0
        rw [show i = mR by omega]
        exact e0
      · exact absurd (nI_le (by omega) (by omega)) c92
    | succ k ih =>
      intro i hk hi
      refine gg_iload_n 3 d_Mdl_turn_87 rfl rfl ?_
      refine gg_aload_n 0 d_Mdl_turn_88 rfl rfl ?_
      refine gg_get f_Mdl_88 d_Mdl_turn_89 rfl rfl ?_
      refine gg_icmp_ge 113 d_Mdl_turn_92 (by decide) (fun c92 => ?_) (fun c92 => ?_)
      · exact absurd c92 (nI_ge (by omega) (by omega))
      · refine gg_aload_n 0 d_Mdl_turn_95 rfl rfl ?_
        refine gg_get f_Mdl_31 d_Mdl_turn_96 rfl rfl ?_
        refine gg_iload_n 3 d_Mdl_turn_99 rfl rfl ?_
        refine gg_aload_n 0 d_Mdl_turn_100 rfl rfl ?_
        refine gg_get f_Mdl_25 d_Mdl_turn_101 rfl rfl ?_
        refine gg_iload_n 3 d_Mdl_turn_104 rfl rfl ?_
        refine gg_iald d_Mdl_turn_105 rfl (by omega) (by decide) ?_
        refine gg_iast d_Mdl_turn_106 rfl (by omega) (by decide) ?_
        rw [mo_cp_step]
        show gg_G _ _ _ _ _ _ _ _ _ _ _ _ (hp tN tF oN oF rN rF pN pF bN bF eN eF lo mT mO mW mR mP zT zO zX zB zL zR zP (mo_cp zQ zR (i + 1)) lm)
        refine gg_iinc (1) d_Mdl_turn_107 rfl (by decide) (by decide) rfl ?_
        dsimp only [List.set]
        refine gg_goto 87 d_Mdl_turn_110 (by decide) ?_
        rw [nI_1]
        exact ih (i + 1) (by omega) (by omega)
  refine gg_K.start (L := [some (.ref 14), some (.int 2), some (.int x), none]) rfl (plainFor_of_name (by decide)) rfl (Nat.le_of_ble_eq_true rfl) ?_
  refine gg_iload_n 1 d_Mdl_turn_0 rfl rfl ?_
  refine gg_if_lt 9 d_Mdl_turn_1 (by decide) (fun c1 => ?_) (fun c1 => ?_)
  · first | exact absurd c1 (by decide) | exact absurd (by decide) c1
  · refine gg_iload_n 1 d_Mdl_turn_4 rfl rfl ?_
    refine gg_iconst (v := 3) d_Mdl_turn_5 (by decide) ?_
    refine gg_icmp_le 11 d_Mdl_turn_6 (by decide) (fun c6 => ?_) (fun c6 => ?_)
    · refine gg_iload_n 1 d_Mdl_turn_11 rfl rfl ?_
      refine gg_iconst (v := 3) d_Mdl_turn_12 (by decide) ?_
      refine gg_icmp_ne 34 d_Mdl_turn_13 (by decide) (fun c13 => ?_) (fun c13 => ?_)
      · refine gg_iload_n 1 d_Mdl_turn_34 rfl rfl ?_
        refine gg_iconst (v := 3) d_Mdl_turn_35 (by decide) ?_
        refine gg_icmp_ne 85 d_Mdl_turn_36 (by decide) (fun c36 => ?_) (fun c36 => ?_)
        · refine gg_iconst (v := 0) d_Mdl_turn_85 (by decide) ?_
          refine gg_istore_n 3 d_Mdl_turn_86 rfl (by decide) rfl ?_
          dsimp only [List.set]
          have e0 := loopA mR 0 rfl (Nat.zero_le _)
          rw [mo_cp0] at e0
          exact e0
        · first | exact absurd c36 (by decide) | exact absurd (by decide) c36
      · first | exact absurd c13 (by decide) | exact absurd (by decide) c13
    · first | exact absurd c6 (by decide) | exact absurd (by decide) c6
end MDL2
