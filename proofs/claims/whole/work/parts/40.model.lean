/-- a local that is not wanted any more -/
theorem gg_forget {l : Launch} {D : va_G} {cA : ClassId} {d : Nat} {own : String} {cc : ByteArray} {nL : Nat} {rt : Option FieldType} {Post : Option Value → List gg_C → Prop} {pc : Nat} {L : List (Option Value)} {st : List Value} {h : List gg_C} (j : Nat) (k : gg_G l D cA d own cc nL rt Post pc (L.set j none) st h) : gg_G l D cA d own cc nL rt Post pc L st h := by
  intro p e s m args below meth c H locs A E ls Q X hP hD hS hl kr
  refine k p e s m args below meth c H locs A E ls Q X hP hD hS ⟨hl.1, hl.2.1, fun i v hi => ?_⟩ kr
  by_cases hij : j = i
  · subst hij
    have hlt : j < (L.set j none).length := (List.getElem?_eq_some_iff.mp hi).1
    rw [List.getElem?_set_self (by simpa using hlt)] at hi
    simp at hi
  · rw [List.getElem?_set_ne hij] at hi
    exact hl.2.2 i v hi
/-- making room at i, down to k -/
def mo_in (f : Nat → Int32) (n k : Nat) : Nat → Int32 := fun j => if k < j ∧ j ≤ n then f (j - 1) else f j
theorem mo_in0 (f : Nat → Int32) (n : Nat) : mo_in f n n = f := by
  funext j
  unfold mo_in
  rw [if_neg (by omega)]
theorem mo_in_step {f : Nat → Int32} {n k : Nat} (h : k < n) : upd (mo_in f n (k + 1)) (k + 1) (mo_in f n (k + 1) k) = mo_in f n k := by
  funext j
  unfold upd mo_in
  by_cases h1 : j = k + 1
  · subst h1
    rw [if_pos rfl, if_neg (by omega), if_pos (by omega), show k + 1 - 1 = k by omega]
  · rw [if_neg h1]
    by_cases h2 : k + 1 < j ∧ j ≤ n
    · rw [if_pos h2, if_pos (by omega)]
    · rw [if_neg h2, if_neg (by omega)]
/-- closing up from i on, up to k -/
def mo_dl (f : Nat → Int32) (i k : Nat) : Nat → Int32 := fun j => if i ≤ j ∧ j < k then f (j + 1) else f j
theorem mo_dl0 (f : Nat → Int32) (i : Nat) : mo_dl f i i = f := by
  funext j
  unfold mo_dl
  rw [if_neg (by omega)]
theorem mo_dl_step {f : Nat → Int32} {i k : Nat} (h : i ≤ k) : upd (mo_dl f i k) k (mo_dl f i k (k + 1)) = mo_dl f i (k + 1) := by
  funext j
  unfold upd mo_dl
  by_cases h1 : j = k
  · subst h1
    rw [if_pos rfl, if_neg (by omega), if_pos (by omega)]
  · rw [if_neg h1]
    by_cases h2 : i ≤ j ∧ j < k
    · rw [if_pos h2, if_pos (by omega)]
    · rw [if_neg h2, if_neg (by omega)]
theorem mo_se_is {f : Nat → Int32} {v : Int32} {n k : Nat} (h : f k = v) : mo_se f v n (k + 1) = nI n - nI k := if_pos h
theorem mo_se_ne {f : Nat → Int32} {v : Int32} {n k : Nat} (h : ¬ f k = v) : mo_se f v n (k + 1) = mo_se f v n k := if_neg h
section MDL
variable {l : Launch} {D : va_G} {cA : ClassId} {d : Nat} {tN oN rN pN bN eN mT mO mW mR mP : Nat} {tF oF rF pF bF eF zT zO zX zB zL zR zP zQ : Nat → Int32} {lo lm : Int64}
set_option maxHeartbeats 4000000 in
set_option maxRecDepth 100000 in
theorem c_Mdl_four  {x : Int32} (ht : mT + 4 ≤ 400) : gg_K l D cA d y_Mdl_four b_Mdl_four 4 none [.ref 14, .int x] (hp tN tF oN oF rN rF pN pF bN bF eN eF lo mT mO mW mR mP zT zO zX zB zL zR zP zQ lm) (gg_is none (hp tN tF oN oF rN rF pN pF bN bF eN eF lo (mT + 4) mO mW mR mP (sp_fd zT mT x) zO zX zB zL zR zP zQ lm)) := by
  have loop : ∀ k : Nat, ∀ t, 4 - t = k → t ≤ 4 → gg_G l D cA d R_Mdl b_Mdl_four 4 none (gg_is none (hp tN tF oN oF rN rF pN pF bN bF eN eF lo (mT + 4) mO mW mR mP (sp_fd zT mT x) zO zX zB zL zR zP zQ lm)) 2 [some (.ref 14), some (.int x), some (.int (nI t)), none] [] ((hp tN tF oN oF rN rF pN pF bN bF eN eF lo (mT + t) mO mW mR mP (sp_ft zT mT x t) zO zX zB zL zR zP zQ lm)) := by
    intro k
    induction k with
    | zero =>
      intro t hk ht4
      refine gg_iload_n 2 d_Mdl_four_2 rfl rfl ?_
      refine gg_iconst (v := nI 4) d_Mdl_four_3 (by decide) ?_
      refine gg_icmp_ge 47 d_Mdl_four_4 (by decide) (fun c4 => ?_) (fun c4 => ?_)
      · exact gg_return d_Mdl_four_47 rfl ⟨rfl, by rw [show t = 4 by omega]; rfl⟩
      · exact absurd (nI_le (by omega) (by omega)) c4
    | succ k ih =>
      intro t hk ht4
      refine gg_iload_n 2 d_Mdl_four_2 rfl rfl ?_
      refine gg_iconst (v := nI 4) d_Mdl_four_3 (by decide) ?_
      refine gg_icmp_ge 47 d_Mdl_four_4 (by decide) (fun c4 => ?_) (fun c4 => ?_)
      · exact absurd c4 (nI_ge (by omega) (by omega))
      · refine gg_bipush (v := 24) d_Mdl_four_7 (by decide) ?_
        refine gg_bipush (v := 8) d_Mdl_four_9 (by decide) ?_
        refine gg_iload_n 2 d_Mdl_four_11 rfl rfl ?_
        refine gg_imul d_Mdl_four_12 ?_
        refine gg_isub d_Mdl_four_13 ?_
        rw [sp_s_mo t (by omega)]
        refine gg_istore_n 3 d_Mdl_four_14 rfl (by decide) rfl ?_
        dsimp only [List.set]
        refine gg_aload_n 0 d_Mdl_four_15 rfl rfl ?_
        refine gg_get f_Mdl_7 d_Mdl_four_16 rfl rfl ?_
        refine gg_aload_n 0 d_Mdl_four_19 rfl rfl ?_
        refine gg_get f_Mdl_34 d_Mdl_four_20 rfl rfl ?_
        refine gg_iload_n 1 d_Mdl_four_23 rfl rfl ?_
        refine gg_iload_n 3 d_Mdl_four_24 rfl rfl ?_
        refine gg_ishr d_Mdl_four_25 ?_
        refine gg_sipush (v := 255) d_Mdl_four_26 (by decide) ?_
        refine gg_iand d_Mdl_four_29 ?_
        refine gg_iast d_Mdl_four_30 rfl (by omega) (by decide) ?_
        rw [show (x >>> (sp_s t &&& 31)) &&& 255 = sp_by x t from rfl, sp_ft_step]
        show gg_G _ _ _ _ _ _ _ _ _ _ _ _ (hp tN tF oN oF rN rF pN pF bN bF eN eF lo (mT + t) mO mW mR mP (sp_ft zT mT x (t + 1)) zO zX zB zL zR zP zQ lm)
        refine gg_aload_n 0 d_Mdl_four_31 rfl rfl ?_
        refine gg_dup d_Mdl_four_32 rfl ?_
        refine gg_get f_Mdl_34 d_Mdl_four_33 rfl rfl ?_
        refine gg_iconst (v := 1) d_Mdl_four_36 (by decide) ?_
        refine gg_iadd d_Mdl_four_37 ?_
        rw [nI_1]
        refine gg_puti u_Mdl_34 d_Mdl_four_38 rfl (Nat.le_of_ble_eq_true rfl) ?_
        dsimp only [List.set]
        show gg_G _ _ _ _ _ _ _ _ _ _ _ _ (hp tN tF oN oF rN rF pN pF bN bF eN eF lo (mT + t + 1) mO mW mR mP (sp_ft zT mT x (t + 1)) zO zX zB zL zR zP zQ lm)
        refine gg_iinc (1) d_Mdl_four_41 rfl (by decide) (by decide) rfl ?_
        dsimp only [List.set]
        refine gg_goto 2 d_Mdl_four_44 (by decide) ?_
        rw [nI_1]
        refine gg_forget 3 ?_
        dsimp only [List.set]
        exact ih (t + 1) (by omega) (by omega)
  refine gg_K.start (L := [some (.ref 14), some (.int x), none, none]) rfl (plainFor_of_name (by decide)) rfl (Nat.le_of_ble_eq_true rfl) ?_
  refine gg_iconst (v := 0) d_Mdl_four_0 (by decide) ?_
  refine gg_istore_n 2 d_Mdl_four_1 rfl (by decide) rfl ?_
  dsimp only [List.set]
  have e0 := loop 4 0 rfl (by decide)
  rw [sp_ft0] at e0
  exact e0
set_option maxHeartbeats 4000000 in
set_option maxRecDepth 100000 in
theorem c_Mdl_feed  {x1 x2 x3 x4 x5 : Int32} (ht : mT + 20 ≤ 400) (hd : 1 ≤ d) : gg_K l D cA d y_Mdl_feed b_Mdl_feed 6 (some .int) [.ref 14, .int x1, .int x2, .int x3, .int x4, .int x5] (hp tN tF oN oF rN rF pN pF bN bF eN eF lo mT mO mW mR mP zT zO zX zB zL zR zP zQ lm) (gg_is (some (.int (nI (mT + 4 + 4 + 4 + 4 + 4)))) (hp tN tF oN oF rN rF pN pF bN bF eN eF lo (mT + 4 + 4 + 4 + 4 + 4) mO mW mR mP (sp_fd (sp_fd (sp_fd (sp_fd (sp_fd zT mT x1) (mT + 4) x2) (mT + 4 + 4) x3) (mT + 4 + 4 + 4) x4) (mT + 4 + 4 + 4 + 4) x5) zO zX zB zL zR zP zQ lm)) := by
  refine gg_K.start (L := [some (.ref 14), some (.int x1), some (.int x2), some (.int x3), some (.int x4), some (.int x5)]) rfl (plainFor_of_name (by decide)) rfl (Nat.le_of_ble_eq_true rfl) ?_
  refine gg_aload_n 0 d_Mdl_feed_0 rfl rfl ?_
  refine gg_get f_Mdl_34 d_Mdl_feed_1 rfl rfl ?_
  refine gg_sipush (v := nI 380) d_Mdl_feed_4 (by decide) ?_
  refine gg_icmp_le 13 d_Mdl_feed_7 (by decide) (fun c7 => ?_) (fun c7 => ?_)
  · refine gg_aload_n 0 d_Mdl_feed_13 rfl rfl ?_
    refine gg_iload_n 1 d_Mdl_feed_14 rfl rfl ?_
    refine gg_cv0 m_Mdl_38 d_Mdl_feed_15 (c_Mdl_four (d := 0) (by omega)) rfl rfl rfl rfl (by omega) rfl (Nat.le_of_ble_eq_true rfl) ?_
    refine gg_aload_n 0 d_Mdl_feed_18 rfl rfl ?_
    refine gg_iload_n 2 d_Mdl_feed_19 rfl rfl ?_
    refine gg_cv0 m_Mdl_38 d_Mdl_feed_20 (c_Mdl_four (d := 0) (by omega)) rfl rfl rfl rfl (by omega) rfl (Nat.le_of_ble_eq_true rfl) ?_
    refine gg_aload_n 0 d_Mdl_feed_23 rfl rfl ?_
    refine gg_iload_n 3 d_Mdl_feed_24 rfl rfl ?_
    refine gg_cv0 m_Mdl_38 d_Mdl_feed_25 (c_Mdl_four (d := 0) (by omega)) rfl rfl rfl rfl (by omega) rfl (Nat.le_of_ble_eq_true rfl) ?_
    refine gg_aload_n 0 d_Mdl_feed_28 rfl rfl ?_
    refine gg_iload d_Mdl_feed_29 rfl ?_
    refine gg_cv0 m_Mdl_38 d_Mdl_feed_31 (c_Mdl_four (d := 0) (by omega)) rfl rfl rfl rfl (by omega) rfl (Nat.le_of_ble_eq_true rfl) ?_
    refine gg_aload_n 0 d_Mdl_feed_34 rfl rfl ?_
    refine gg_iload d_Mdl_feed_35 rfl ?_
    refine gg_cv0 m_Mdl_38 d_Mdl_feed_37 (c_Mdl_four (d := 0) (by omega)) rfl rfl rfl rfl (by omega) rfl (Nat.le_of_ble_eq_true rfl) ?_
    refine gg_aload_n 0 d_Mdl_feed_40 rfl rfl ?_
    refine gg_get f_Mdl_34 d_Mdl_feed_41 rfl rfl ?_
    exact gg_ireturn d_Mdl_feed_44 rfl rfl ⟨rfl, rfl⟩
  · exact absurd (nI_le (by omega) (by omega)) c7
set_option maxHeartbeats 4000000 in
set_option maxRecDepth 100000 in
theorem c_Mdl_feed_full  {x1 x2 x3 x4 x5 : Int32} (ht : ¬ mT + 20 ≤ 400) (ht2 : mT ≤ 400) : gg_K l D cA d y_Mdl_feed b_Mdl_feed 6 (some .int) [.ref 14, .int x1, .int x2, .int x3, .int x4, .int x5] (hp tN tF oN oF rN rF pN pF bN bF eN eF lo mT mO mW mR mP zT zO zX zB zL zR zP zQ lm) (gg_is (some (.int (-3))) (hp tN tF oN oF rN rF pN pF bN bF eN eF lo mT mO mW mR mP zT zO zX zB zL zR zP zQ lm)) := by
  refine gg_K.start (L := [some (.ref 14), some (.int x1), some (.int x2), some (.int x3), some (.int x4), some (.int x5)]) rfl (plainFor_of_name (by decide)) rfl (Nat.le_of_ble_eq_true rfl) ?_
  refine gg_aload_n 0 d_Mdl_feed_0 rfl rfl ?_
  refine gg_get f_Mdl_34 d_Mdl_feed_1 rfl rfl ?_
  refine gg_sipush (v := nI 380) d_Mdl_feed_4 (by decide) ?_
  refine gg_icmp_le 13 d_Mdl_feed_7 (by decide) (fun c7 => ?_) (fun c7 => ?_)
  · exact absurd c7 (nI_ge (by omega) (by omega))
  · refine gg_bipush (v := (-3)) d_Mdl_feed_10 (by decide) ?_
    exact gg_ireturn d_Mdl_feed_12 rfl rfl ⟨rfl, rfl⟩
set_option maxHeartbeats 4000000 in
set_option maxRecDepth 100000 in
theorem c_Mdl_end  {n : Nat} (hn : n ≤ mT) (ht : mT ≤ 400) : gg_K l D cA d y_Mdl_end b_Mdl_end 2 (some .int) [.ref 14, .int (nI n)] (hp tN tF oN oF rN rF pN pF bN bF eN eF lo mT mO mW mR mP zT zO zX zB zL zR zP zQ lm) (gg_is (some (.int (nI n))) (hp tN tF oN oF rN rF pN pF bN bF eN eF lo n mO mW mR mP zT zO zX zB zL zR zP zQ lm)) := by
  refine gg_K.start (L := [some (.ref 14), some (.int (nI n))]) rfl (plainFor_of_name (by decide)) rfl (Nat.le_of_ble_eq_true rfl) ?_
  refine gg_iload_n 1 d_Mdl_end_0 rfl rfl ?_
  refine gg_if_lt 12 d_Mdl_end_1 (by decide) (fun c1 => ?_) (fun c1 => ?_)
  · exact absurd c1 (nI_pos (by omega))
  · refine gg_iload_n 1 d_Mdl_end_4 rfl rfl ?_
    refine gg_aload_n 0 d_Mdl_end_5 rfl rfl ?_
    refine gg_get f_Mdl_34 d_Mdl_end_6 rfl rfl ?_
    refine gg_icmp_le 14 d_Mdl_end_9 (by decide) (fun c9 => ?_) (fun c9 => ?_)
    · refine gg_aload_n 0 d_Mdl_end_14 rfl rfl ?_
      refine gg_iload_n 1 d_Mdl_end_15 rfl rfl ?_
      refine gg_puti u_Mdl_34 d_Mdl_end_16 rfl (Nat.le_of_ble_eq_true rfl) ?_
      dsimp only [List.set]
      show gg_G _ _ _ _ _ _ _ _ _ _ _ _ (hp tN tF oN oF rN rF pN pF bN bF eN eF lo n mO mW mR mP zT zO zX zB zL zR zP zQ lm)
      refine gg_iload_n 1 d_Mdl_end_19 rfl rfl ?_
      exact gg_ireturn d_Mdl_end_20 rfl rfl ⟨rfl, rfl⟩
    · exact absurd (nI_le hn (by omega)) c9
set_option maxHeartbeats 4000000 in
set_option maxRecDepth 100000 in
theorem c_Mdl_end_bad  {x : Int32} (hx : ¬ (0 ≤ x.toInt ∧ x.toInt ≤ (mT : Int))) (ht : mT ≤ 400) : gg_K l D cA d y_Mdl_end b_Mdl_end 2 (some .int) [.ref 14, .int x] (hp tN tF oN oF rN rF pN pF bN bF eN eF lo mT mO mW mR mP zT zO zX zB zL zR zP zQ lm) (gg_is (some (.int (-1))) (hp tN tF oN oF rN rF pN pF bN bF eN eF lo mT mO mW mR mP zT zO zX zB zL zR zP zQ lm)) := by
  refine gg_K.start (L := [some (.ref 14), some (.int x)]) rfl (plainFor_of_name (by decide)) rfl (Nat.le_of_ble_eq_true rfl) ?_
  refine gg_iload_n 1 d_Mdl_end_0 rfl rfl ?_
  refine gg_if_lt 12 d_Mdl_end_1 (by decide) (fun c1 => ?_) (fun c1 => ?_)
  · refine gg_iconst (v := (-1)) d_Mdl_end_12 (by decide) ?_
    exact gg_ireturn d_Mdl_end_13 rfl rfl ⟨rfl, rfl⟩
  · refine gg_iload_n 1 d_Mdl_end_4 rfl rfl ?_
    refine gg_aload_n 0 d_Mdl_end_5 rfl rfl ?_
    refine gg_get f_Mdl_34 d_Mdl_end_6 rfl rfl ?_
    refine gg_icmp_le 14 d_Mdl_end_9 (by decide) (fun c9 => ?_) (fun c9 => ?_)
    · rw [sp_lt0] at c1
      rw [sp_nle (by omega)] at c9
      omega
    · refine gg_iconst (v := (-1)) d_Mdl_end_12 (by decide) ?_
      exact gg_ireturn d_Mdl_end_13 rfl rfl ⟨rfl, rfl⟩
set_option maxHeartbeats 4000000 in
set_option maxRecDepth 100000 in
theorem c_Mdl_octet_all    : gg_K l D cA d y_Mdl_octet b_Mdl_octet 2 (some .int) [.ref 14, .int (-1)] (hp tN tF oN oF rN rF pN pF bN bF eN eF lo mT mO mW mR mP zT zO zX zB zL zR zP zQ lm) (gg_is (some (.int (nI mO))) (hp tN tF oN oF rN rF pN pF bN bF eN eF lo mT mO mW mR mP zT zO zX zB zL zR zP zQ lm)) := by
  refine gg_K.start (L := [some (.ref 14), some (.int (-1))]) rfl (plainFor_of_name (by decide)) rfl (Nat.le_of_ble_eq_true rfl) ?_
  refine gg_iload_n 1 d_Mdl_octet_0 rfl rfl ?_
  refine gg_iconst (v := (-1)) d_Mdl_octet_1 (by decide) ?_
  refine gg_icmp_ne 10 d_Mdl_octet_2 (by decide) (fun c2 => ?_) (fun c2 => ?_)
  · exact absurd rfl c2
  · refine gg_aload_n 0 d_Mdl_octet_5 rfl rfl ?_
    refine gg_get f_Mdl_46 d_Mdl_octet_6 rfl rfl ?_
    exact gg_ireturn d_Mdl_octet_9 rfl rfl ⟨rfl, rfl⟩
set_option maxHeartbeats 4000000 in
set_option maxRecDepth 100000 in
theorem c_Mdl_octet  {j : Nat} (hj : j < mO) (ho : mO ≤ 536) : gg_K l D cA d y_Mdl_octet b_Mdl_octet 2 (some .int) [.ref 14, .int (nI j)] (hp tN tF oN oF rN rF pN pF bN bF eN eF lo mT mO mW mR mP zT zO zX zB zL zR zP zQ lm) (gg_is (some (.int (zO j))) (hp tN tF oN oF rN rF pN pF bN bF eN eF lo mT mO mW mR mP zT zO zX zB zL zR zP zQ lm)) := by
  refine gg_K.start (L := [some (.ref 14), some (.int (nI j))]) rfl (plainFor_of_name (by decide)) rfl (Nat.le_of_ble_eq_true rfl) ?_
  refine gg_iload_n 1 d_Mdl_octet_0 rfl rfl ?_
  refine gg_iconst (v := (-1)) d_Mdl_octet_1 (by decide) ?_
  refine gg_icmp_ne 10 d_Mdl_octet_2 (by decide) (fun c2 => ?_) (fun c2 => ?_)
  · refine gg_iload_n 1 d_Mdl_octet_10 rfl rfl ?_
    refine gg_if_lt 22 d_Mdl_octet_11 (by decide) (fun c11 => ?_) (fun c11 => ?_)
    · exact absurd c11 (nI_pos (by omega))
    · refine gg_iload_n 1 d_Mdl_octet_14 rfl rfl ?_
      refine gg_aload_n 0 d_Mdl_octet_15 rfl rfl ?_
      refine gg_get f_Mdl_46 d_Mdl_octet_16 rfl rfl ?_
      refine gg_icmp_lt 26 d_Mdl_octet_19 (by decide) (fun c19 => ?_) (fun c19 => ?_)
      · refine gg_aload_n 0 d_Mdl_octet_26 rfl rfl ?_
        refine gg_get f_Mdl_13 d_Mdl_octet_27 rfl rfl ?_
        refine gg_iload_n 1 d_Mdl_octet_30 rfl rfl ?_
        refine gg_iald d_Mdl_octet_31 rfl (by omega) (by decide) ?_
        exact gg_ireturn d_Mdl_octet_32 rfl rfl ⟨rfl, rfl⟩
      · exact absurd (nI_lt hj (by omega)) c19
  · exact absurd c2 (sp_m1 (by omega))
set_option maxHeartbeats 4000000 in
set_option maxRecDepth 100000 in
theorem c_Mdl_octet_bad  {x : Int32} (hx : ¬ x = -1) (hi : ¬ sp_in x mO) (ho : mO ≤ 536) : gg_K l D cA d y_Mdl_octet b_Mdl_octet 2 (some .int) [.ref 14, .int x] (hp tN tF oN oF rN rF pN pF bN bF eN eF lo mT mO mW mR mP zT zO zX zB zL zR zP zQ lm) (gg_is (some (.int (-1))) (hp tN tF oN oF rN rF pN pF bN bF eN eF lo mT mO mW mR mP zT zO zX zB zL zR zP zQ lm)) := by
  refine gg_K.start (L := [some (.ref 14), some (.int x)]) rfl (plainFor_of_name (by decide)) rfl (Nat.le_of_ble_eq_true rfl) ?_
  refine gg_iload_n 1 d_Mdl_octet_0 rfl rfl ?_
  refine gg_iconst (v := (-1)) d_Mdl_octet_1 (by decide) ?_
  refine gg_icmp_ne 10 d_Mdl_octet_2 (by decide) (fun c2 => ?_) (fun c2 => ?_)
  · refine gg_iload_n 1 d_Mdl_octet_10 rfl rfl ?_
    refine gg_if_lt 22 d_Mdl_octet_11 (by decide) (fun c11 => ?_) (fun c11 => ?_)
    · refine gg_iconst (v := (-1)) d_Mdl_octet_22 (by decide) ?_
      refine gg_goto 32 d_Mdl_octet_23 (by decide) ?_
      exact gg_ireturn d_Mdl_octet_32 rfl rfl ⟨rfl, rfl⟩
    · refine gg_iload_n 1 d_Mdl_octet_14 rfl rfl ?_
      refine gg_aload_n 0 d_Mdl_octet_15 rfl rfl ?_
      refine gg_get f_Mdl_46 d_Mdl_octet_16 rfl rfl ?_
      refine gg_icmp_lt 26 d_Mdl_octet_19 (by decide) (fun c19 => ?_) (fun c19 => ?_)
      · rw [sp_lt0] at c11
        rw [sp_ltn (by omega)] at c19
        exact absurd ⟨by omega, by omega⟩ hi
      · refine gg_iconst (v := (-1)) d_Mdl_octet_22 (by decide) ?_
        refine gg_goto 32 d_Mdl_octet_23 (by decide) ?_
        exact gg_ireturn d_Mdl_octet_32 rfl rfl ⟨rfl, rfl⟩
  · exact absurd c2 hx
set_option maxHeartbeats 4000000 in
set_option maxRecDepth 100000 in
theorem c_Mdl_seed  {v : Int64}  : gg_K l D cA d y_Mdl_seed b_Mdl_seed 5 (some .long) [.ref 14, .long v] (hp tN tF oN oF rN rF pN pF bN bF eN eF lo mT mO mW mR mP zT zO zX zB zL zR zP zQ lm) (gg_is (some (.long lm)) (hp tN tF oN oF rN rF pN pF bN bF eN eF lo mT mO mW mR mP zT zO zX zB zL zR zP zQ v)) := by
  refine gg_K.start (L := [some (.ref 14), some (.long v), none, none, none]) rfl (plainFor_of_name (by decide)) rfl (Nat.le_of_ble_eq_true rfl) ?_
  refine gg_aload_n 0 d_Mdl_seed_0 rfl rfl ?_
  refine gg_get f_Mdl_75 d_Mdl_seed_1 rfl rfl ?_
  refine gg_lstore_n 3 d_Mdl_seed_4 rfl (by decide) rfl ?_
  dsimp only [List.set]
  refine gg_aload_n 0 d_Mdl_seed_5 rfl rfl ?_
  refine gg_lload_n 1 d_Mdl_seed_6 rfl rfl ?_
  refine gg_putl u_Mdl_75 d_Mdl_seed_7 rfl (Nat.le_of_ble_eq_true rfl) ?_
  dsimp only [List.set]
  show gg_G _ _ _ _ _ _ _ _ _ _ _ _ (hp tN tF oN oF rN rF pN pF bN bF eN eF lo mT mO mW mR mP zT zO zX zB zL zR zP zQ v)
  refine gg_lload_n 3 d_Mdl_seed_10 rfl rfl ?_
  exact gg_lreturn d_Mdl_seed_11 rfl ⟨rfl, rfl⟩
set_option maxHeartbeats 4000000 in
set_option maxRecDepth 100000 in
theorem c_Mdl_draw    : gg_K l D cA d y_Mdl_draw b_Mdl_draw 3 (some .long) [.ref 14] (hp tN tF oN oF rN rF pN pF bN bF eN eF lo mT mO mW mR mP zT zO zX zB zL zR zP zQ lm) (gg_is (some (.long (sp_dr (lm + (-7046029254386353131))))) (hp tN tF oN oF rN rF pN pF bN bF eN eF lo mT mO mW mR mP zT zO zX zB zL zR zP zQ (lm + (-7046029254386353131)))) := by
  refine gg_K.start (L := [some (.ref 14), none, none]) rfl (plainFor_of_name (by decide)) rfl (Nat.le_of_ble_eq_true rfl) ?_
  refine gg_aload_n 0 d_Mdl_draw_0 rfl rfl ?_
  refine gg_dup d_Mdl_draw_1 rfl ?_
  refine gg_get f_Mdl_75 d_Mdl_draw_2 rfl rfl ?_
  refine gg_ldc2 k_469 d_Mdl_draw_5 ?_
  refine gg_ladd d_Mdl_draw_8 ?_
  refine gg_putl u_Mdl_75 d_Mdl_draw_9 rfl (Nat.le_of_ble_eq_true rfl) ?_
  dsimp only [List.set]
  show gg_G _ _ _ _ _ _ _ _ _ _ _ _ (hp tN tF oN oF rN rF pN pF bN bF eN eF lo mT mO mW mR mP zT zO zX zB zL zR zP zQ (lm + (-7046029254386353131)))
  refine gg_aload_n 0 d_Mdl_draw_12 rfl rfl ?_
  refine gg_get f_Mdl_75 d_Mdl_draw_13 rfl rfl ?_
  refine gg_lstore_n 1 d_Mdl_draw_16 rfl (by decide) rfl ?_
  dsimp only [List.set]
  refine gg_lload_n 1 d_Mdl_draw_17 rfl rfl ?_
  refine gg_lload_n 1 d_Mdl_draw_18 rfl rfl ?_
  refine gg_bipush (v := 30) d_Mdl_draw_19 (by decide) ?_
  refine gg_lushr d_Mdl_draw_21 rfl ?_
  refine gg_lxor d_Mdl_draw_22 ?_
  refine gg_ldc2 k_470 d_Mdl_draw_23 ?_
  refine gg_lmul d_Mdl_draw_26 ?_
  refine gg_lstore_n 1 d_Mdl_draw_27 rfl (by decide) rfl ?_
  dsimp only [List.set]
  refine gg_lload_n 1 d_Mdl_draw_28 rfl rfl ?_
  refine gg_lload_n 1 d_Mdl_draw_29 rfl rfl ?_
  refine gg_bipush (v := 27) d_Mdl_draw_30 (by decide) ?_
  refine gg_lushr d_Mdl_draw_32 rfl ?_
  refine gg_lxor d_Mdl_draw_33 ?_
  refine gg_ldc2 k_471 d_Mdl_draw_34 ?_
  refine gg_lmul d_Mdl_draw_37 ?_
  refine gg_lstore_n 1 d_Mdl_draw_38 rfl (by decide) rfl ?_
  dsimp only [List.set]
  refine gg_lload_n 1 d_Mdl_draw_39 rfl rfl ?_
  refine gg_lload_n 1 d_Mdl_draw_40 rfl rfl ?_
  refine gg_bipush (v := 31) d_Mdl_draw_41 (by decide) ?_
  refine gg_lushr d_Mdl_draw_43 rfl ?_
  refine gg_lxor d_Mdl_draw_44 ?_
  exact gg_lreturn d_Mdl_draw_45 rfl ⟨rfl, rfl⟩
set_option maxHeartbeats 4000000 in
set_option maxRecDepth 100000 in
theorem c_Mdl_push  {x : Int32} (h0 : mP < 600) : gg_K l D cA d y_Mdl_push b_Mdl_push 2 (some .int) [.ref 14, .int x] (hp tN tF oN oF rN rF pN pF bN bF eN eF lo mT mO mW mR mP zT zO zX zB zL zR zP zQ lm) (gg_is (some (.int (nI (mP + 1)))) (hp tN tF oN oF rN rF pN pF bN bF eN eF lo mT mO mW mR (mP + 1) zT zO zX zB zL zR (upd zP mP x) zQ lm)) := by
  refine gg_K.start (L := [some (.ref 14), some (.int x)]) rfl (plainFor_of_name (by decide)) rfl (Nat.le_of_ble_eq_true rfl) ?_
  refine gg_aload_n 0 d_Mdl_push_0 rfl rfl ?_
  refine gg_get f_Mdl_85 d_Mdl_push_1 rfl rfl ?_
  refine gg_sipush (v := nI 600) d_Mdl_push_4 (by decide) ?_
  refine gg_icmp_ne 13 d_Mdl_push_7 (by decide) (fun c7 => ?_) (fun c7 => ?_)
  · refine gg_aload_n 0 d_Mdl_push_13 rfl rfl ?_
    refine gg_get f_Mdl_28 d_Mdl_push_14 rfl rfl ?_
    refine gg_aload_n 0 d_Mdl_push_17 rfl rfl ?_
    refine gg_get f_Mdl_85 d_Mdl_push_18 rfl rfl ?_
    refine gg_iload_n 1 d_Mdl_push_21 rfl rfl ?_
    refine gg_iast d_Mdl_push_22 rfl (by omega) (by decide) ?_
    show gg_G _ _ _ _ _ _ _ _ _ _ _ _ (hp tN tF oN oF rN rF pN pF bN bF eN eF lo mT mO mW mR mP zT zO zX zB zL zR (upd zP mP x) zQ lm)
    refine gg_aload_n 0 d_Mdl_push_23 rfl rfl ?_
    refine gg_dup d_Mdl_push_24 rfl ?_
    refine gg_get f_Mdl_85 d_Mdl_push_25 rfl rfl ?_
    refine gg_iconst (v := 1) d_Mdl_push_28 (by decide) ?_
    refine gg_iadd d_Mdl_push_29 ?_
    rw [nI_1]
    refine gg_puti u_Mdl_85 d_Mdl_push_30 rfl (Nat.le_of_ble_eq_true rfl) ?_
    dsimp only [List.set]
    show gg_G _ _ _ _ _ _ _ _ _ _ _ _ (hp tN tF oN oF rN rF pN pF bN bF eN eF lo mT mO mW mR (mP + 1) zT zO zX zB zL zR (upd zP mP x) zQ lm)
    refine gg_aload_n 0 d_Mdl_push_33 rfl rfl ?_
    refine gg_get f_Mdl_85 d_Mdl_push_34 rfl rfl ?_
    exact gg_ireturn d_Mdl_push_37 rfl rfl ⟨rfl, rfl⟩
  · have e9 := (nI_eq (by omega) (by omega)).mp c7
    omega
set_option maxHeartbeats 4000000 in
set_option maxRecDepth 100000 in
theorem c_Mdl_push_full  {x : Int32} (h0 : mP = 600) : gg_K l D cA d y_Mdl_push b_Mdl_push 2 (some .int) [.ref 14, .int x] (hp tN tF oN oF rN rF pN pF bN bF eN eF lo mT mO mW mR mP zT zO zX zB zL zR zP zQ lm) (gg_is (some (.int (-3))) (hp tN tF oN oF rN rF pN pF bN bF eN eF lo mT mO mW mR mP zT zO zX zB zL zR zP zQ lm)) := by
  refine gg_K.start (L := [some (.ref 14), some (.int x)]) rfl (plainFor_of_name (by decide)) rfl (Nat.le_of_ble_eq_true rfl) ?_
  refine gg_aload_n 0 d_Mdl_push_0 rfl rfl ?_
  refine gg_get f_Mdl_85 d_Mdl_push_1 rfl rfl ?_
  refine gg_sipush (v := nI 600) d_Mdl_push_4 (by decide) ?_
  refine gg_icmp_ne 13 d_Mdl_push_7 (by decide) (fun c7 => ?_) (fun c7 => ?_)
  · exact absurd (by rw [h0]) c7
  · refine gg_bipush (v := (-3)) d_Mdl_push_10 (by decide) ?_
    exact gg_ireturn d_Mdl_push_12 rfl rfl ⟨rfl, rfl⟩
set_option maxHeartbeats 4000000 in
set_option maxRecDepth 100000 in
theorem c_Mdl_pop_none  {s : Int32} (h0 : mP = 0) : gg_K l D cA d y_Mdl_pop b_Mdl_pop 2 (some .long) [.ref 14, .int s] (hp tN tF oN oF rN rF pN pF bN bF eN eF lo mT mO mW mR mP zT zO zX zB zL zR zP zQ lm) (gg_is (some (.long 1099511627776)) (hp tN tF oN oF rN rF pN pF bN bF eN eF lo mT mO mW mR mP zT zO zX zB zL zR zP zQ lm)) := by
  refine gg_K.start (L := [some (.ref 14), some (.int s)]) rfl (plainFor_of_name (by decide)) rfl (Nat.le_of_ble_eq_true rfl) ?_
  refine gg_aload_n 0 d_Mdl_pop_0 rfl rfl ?_
  refine gg_get f_Mdl_85 d_Mdl_pop_1 rfl rfl ?_
  refine gg_if_ne 11 d_Mdl_pop_4 (by decide) (fun c4 => ?_) (fun c4 => ?_)
  · exact absurd (by rw [h0]; exact nI_0) c4
  · refine gg_ldc2 k_438 d_Mdl_pop_7 ?_
    exact gg_lreturn d_Mdl_pop_10 rfl ⟨rfl, rfl⟩
set_option maxHeartbeats 4000000 in
set_option maxRecDepth 100000 in
theorem c_Mdl_pop  {s : Int32} (h0 : 0 < mP) (h1 : mP ≤ 600) (hs : s = 0) : gg_K l D cA d y_Mdl_pop b_Mdl_pop 2 (some .long) [.ref 14, .int s] (hp tN tF oN oF rN rF pN pF bN bF eN eF lo mT mO mW mR mP zT zO zX zB zL zR zP zQ lm) (gg_is (some (.long (zP (mP - 1)).toInt64)) (hp tN tF oN oF rN rF pN pF bN bF eN eF lo mT mO mW mR (mP - 1) zT zO zX zB zL zR zP zQ lm)) := by
  refine gg_K.start (L := [some (.ref 14), some (.int s)]) rfl (plainFor_of_name (by decide)) rfl (Nat.le_of_ble_eq_true rfl) ?_
  refine gg_aload_n 0 d_Mdl_pop_0 rfl rfl ?_
  refine gg_get f_Mdl_85 d_Mdl_pop_1 rfl rfl ?_
  refine gg_if_ne 11 d_Mdl_pop_4 (by decide) (fun c4 => ?_) (fun c4 => ?_)
  · refine gg_iload_n 1 d_Mdl_pop_11 rfl rfl ?_
    refine gg_if_ne 25 d_Mdl_pop_12 (by decide) (fun c12 => ?_) (fun c12 => ?_)
    · exact absurd hs c12
    · refine gg_aload_n 0 d_Mdl_pop_15 rfl rfl ?_
      refine gg_dup d_Mdl_pop_16 rfl ?_
      refine gg_get f_Mdl_85 d_Mdl_pop_17 rfl rfl ?_
      refine gg_iconst (v := 1) d_Mdl_pop_20 (by decide) ?_
      refine gg_isub d_Mdl_pop_21 ?_
      rw [sp_pred h0]
      refine gg_puti u_Mdl_85 d_Mdl_pop_22 rfl (Nat.le_of_ble_eq_true rfl) ?_
      dsimp only [List.set]
      show gg_G _ _ _ _ _ _ _ _ _ _ _ _ (hp tN tF oN oF rN rF pN pF bN bF eN eF lo mT mO mW mR (mP - 1) zT zO zX zB zL zR zP zQ lm)
      refine gg_aload_n 0 d_Mdl_pop_25 rfl rfl ?_
      refine gg_get f_Mdl_28 d_Mdl_pop_26 rfl rfl ?_
      refine gg_iload_n 1 d_Mdl_pop_29 rfl rfl ?_
      refine gg_if_eq 42 d_Mdl_pop_30 (by decide) (fun c30 => ?_) (fun c30 => ?_)
      · refine gg_aload_n 0 d_Mdl_pop_42 rfl rfl ?_
        refine gg_get f_Mdl_85 d_Mdl_pop_43 rfl rfl ?_
        refine gg_iald d_Mdl_pop_46 rfl (by omega) (by decide) ?_
        refine gg_i2l d_Mdl_pop_47 rfl ?_
        exact gg_lreturn d_Mdl_pop_48 rfl ⟨rfl, rfl⟩
      · exact absurd hs c30
  · exact absurd c4 (nI_ne0 h0 (by omega))
set_option maxHeartbeats 4000000 in
set_option maxRecDepth 100000 in
theorem c_Mdl_pop_stays  {s : Int32} (h0 : 0 < mP) (h1 : mP ≤ 600) (hs : ¬ s = 0) : gg_K l D cA d y_Mdl_pop b_Mdl_pop 2 (some .long) [.ref 14, .int s] (hp tN tF oN oF rN rF pN pF bN bF eN eF lo mT mO mW mR mP zT zO zX zB zL zR zP zQ lm) (gg_is (some (.long (zP (mP - 1)).toInt64)) (hp tN tF oN oF rN rF pN pF bN bF eN eF lo mT mO mW mR mP zT zO zX zB zL zR zP zQ lm)) := by
  refine gg_K.start (L := [some (.ref 14), some (.int s)]) rfl (plainFor_of_name (by decide)) rfl (Nat.le_of_ble_eq_true rfl) ?_
  refine gg_aload_n 0 d_Mdl_pop_0 rfl rfl ?_
  refine gg_get f_Mdl_85 d_Mdl_pop_1 rfl rfl ?_
  refine gg_if_ne 11 d_Mdl_pop_4 (by decide) (fun c4 => ?_) (fun c4 => ?_)
  · refine gg_iload_n 1 d_Mdl_pop_11 rfl rfl ?_
    refine gg_if_ne 25 d_Mdl_pop_12 (by decide) (fun c12 => ?_) (fun c12 => ?_)
    · refine gg_aload_n 0 d_Mdl_pop_25 rfl rfl ?_
      refine gg_get f_Mdl_28 d_Mdl_pop_26 rfl rfl ?_
      refine gg_iload_n 1 d_Mdl_pop_29 rfl rfl ?_
      refine gg_if_eq 42 d_Mdl_pop_30 (by decide) (fun c30 => ?_) (fun c30 => ?_)
      · exact absurd c30 hs
      · refine gg_aload_n 0 d_Mdl_pop_33 rfl rfl ?_
        refine gg_get f_Mdl_85 d_Mdl_pop_34 rfl rfl ?_
        refine gg_iconst (v := 1) d_Mdl_pop_37 (by decide) ?_
        refine gg_isub d_Mdl_pop_38 ?_
        refine gg_goto 46 d_Mdl_pop_39 (by decide) ?_
        rw [sp_pred h0]
        refine gg_iald d_Mdl_pop_46 rfl (by omega) (by decide) ?_
        refine gg_i2l d_Mdl_pop_47 rfl ?_
        exact gg_lreturn d_Mdl_pop_48 rfl ⟨rfl, rfl⟩
    · exact absurd c12 hs
  · exact absurd c4 (nI_ne0 h0 (by omega))
set_option maxHeartbeats 4000000 in
set_option maxRecDepth 100000 in
theorem c_Mdl_search  {v : Int32} (h0 : mP ≤ 600) : gg_K l D cA d y_Mdl_search b_Mdl_search 4 (some .int) [.ref 14, .int v] (hp tN tF oN oF rN rF pN pF bN bF eN eF lo mT mO mW mR mP zT zO zX zB zL zR zP zQ lm) (gg_is (some (.int (mo_se zP v mP mP))) (hp tN tF oN oF rN rF pN pF bN bF eN eF lo mT mO mW mR mP zT zO zX zB zL zR zP zQ lm)) := by
  have loop : ∀ k : Nat, ∀ i, mP - i = k → i ≤ mP → gg_G l D cA d R_Mdl b_Mdl_search 4 (some .int) (gg_is (some (.int (mo_se zP v mP mP))) (hp tN tF oN oF rN rF pN pF bN bF eN eF lo mT mO mW mR mP zT zO zX zB zL zR zP zQ lm)) 4 [some (.ref 14), some (.int v), some (.int (mo_se zP v mP i)), some (.int (nI i))] [] ((hp tN tF oN oF rN rF pN pF bN bF eN eF lo mT mO mW mR mP zT zO zX zB zL zR zP zQ lm)) := by
    intro k
    induction k with
    | zero =>
      intro i hk hi
      refine gg_iload_n 3 d_Mdl_search_4 rfl rfl ?_
      refine gg_aload_n 0 d_Mdl_search_5 rfl rfl ?_
      refine gg_get f_Mdl_85 d_Mdl_search_6 rfl rfl ?_
      refine gg_icmp_ge 35 d_Mdl_search_9 (by decide) (fun c9 => ?_) (fun c9 => ?_)
      · refine gg_iload_n 2 d_Mdl_search_35 rfl rfl ?_
        exact gg_ireturn d_Mdl_search_36 rfl rfl ⟨by rw [show i = mP by omega], rfl⟩
      · exact absurd (nI_le (by omega) (by omega)) c9
    | succ k ih =>
      intro i hk hi
      refine gg_iload_n 3 d_Mdl_search_4 rfl rfl ?_
      refine gg_aload_n 0 d_Mdl_search_5 rfl rfl ?_
      refine gg_get f_Mdl_85 d_Mdl_search_6 rfl rfl ?_
      refine gg_icmp_ge 35 d_Mdl_search_9 (by decide) (fun c9 => ?_) (fun c9 => ?_)
      · exact absurd c9 (nI_ge (by omega) (by omega))
      · refine gg_aload_n 0 d_Mdl_search_12 rfl rfl ?_
        refine gg_get f_Mdl_28 d_Mdl_search_13 rfl rfl ?_
        refine gg_iload_n 3 d_Mdl_search_16 rfl rfl ?_
        refine gg_iald d_Mdl_search_17 rfl (by omega) (by decide) ?_
        refine gg_iload_n 1 d_Mdl_search_18 rfl rfl ?_
        refine gg_icmp_ne 29 d_Mdl_search_19 (by decide) (fun c19 => ?_) (fun c19 => ?_)
        · rw [← mo_se_ne (n := mP) c19]
          refine gg_iinc (1) d_Mdl_search_29 rfl (by decide) (by decide) rfl ?_
          dsimp only [List.set]
          refine gg_goto 4 d_Mdl_search_32 (by decide) ?_
          rw [nI_1]
          exact ih (i + 1) (by omega) (by omega)
        · have hq := mo_se_is (n := mP) c19
          refine gg_aload_n 0 d_Mdl_search_22 rfl rfl ?_
          refine gg_get f_Mdl_85 d_Mdl_search_23 rfl rfl ?_
          refine gg_iload_n 3 d_Mdl_search_26 rfl rfl ?_
          refine gg_isub d_Mdl_search_27 ?_
          rw [← hq]
          refine gg_istore_n 2 d_Mdl_search_28 rfl (by decide) rfl ?_
          dsimp only [List.set]
          refine gg_iinc (1) d_Mdl_search_29 rfl (by decide) (by decide) rfl ?_
          dsimp only [List.set]
          refine gg_goto 4 d_Mdl_search_32 (by decide) ?_
          rw [nI_1]
          exact ih (i + 1) (by omega) (by omega)
  refine gg_K.start (L := [some (.ref 14), some (.int v), none, none]) rfl (plainFor_of_name (by decide)) rfl (Nat.le_of_ble_eq_true rfl) ?_
  refine gg_iconst (v := (-1)) d_Mdl_search_0 (by decide) ?_
  refine gg_istore_n 2 d_Mdl_search_1 rfl (by decide) rfl ?_
  dsimp only [List.set]
  refine gg_iconst (v := 0) d_Mdl_search_2 (by decide) ?_
  refine gg_istore_n 3 d_Mdl_search_3 rfl (by decide) rfl ?_
  dsimp only [List.set]
  exact loop mP 0 rfl (Nat.zero_le _)
set_option maxHeartbeats 4000000 in
set_option maxRecDepth 100000 in
theorem c_Mdl_insert  {i : Nat} {x : Int32} (hi : i ≤ mR) (h0 : mR < 600) : gg_K l D cA d y_Mdl_insert b_Mdl_insert 4 (some .int) [.ref 14, .int (nI i), .int x] (hp tN tF oN oF rN rF pN pF bN bF eN eF lo mT mO mW mR mP zT zO zX zB zL zR zP zQ lm) (gg_is (some (.int (nI (mR + 1)))) (hp tN tF oN oF rN rF pN pF bN bF eN eF lo mT mO mW (mR + 1) mP zT zO zX zB zL (upd (mo_in zR mR i) i x) zP zQ lm)) := by
  have loop : ∀ k : Nat, ∀ j, j - i = k → i ≤ j → j ≤ mR → gg_G l D cA d R_Mdl b_Mdl_insert 4 (some .int) (gg_is (some (.int (nI (mR + 1)))) (hp tN tF oN oF rN rF pN pF bN bF eN eF lo mT mO mW (mR + 1) mP zT zO zX zB zL (upd (mo_in zR mR i) i x) zP zQ lm)) 32 [some (.ref 14), some (.int (nI i)), some (.int x), some (.int (nI j))] [] ((hp tN tF oN oF rN rF pN pF bN bF eN eF lo mT mO mW mR mP zT zO zX zB zL (mo_in zR mR j) zP zQ lm)) := by
    intro k
    induction k with
    | zero =>
      intro j hk hj hm
      refine gg_iload_n 3 d_Mdl_insert_32 rfl rfl ?_
      refine gg_iload_n 1 d_Mdl_insert_33 rfl rfl ?_
      refine gg_icmp_le 57 d_Mdl_insert_34 (by decide) (fun c34 => ?_) (fun c34 => ?_)
      · rw [show j = i by omega]
        refine gg_aload_n 0 d_Mdl_insert_57 rfl rfl ?_
        refine gg_get f_Mdl_25 d_Mdl_insert_58 rfl rfl ?_
        refine gg_iload_n 1 d_Mdl_insert_61 rfl rfl ?_
        refine gg_iload_n 2 d_Mdl_insert_62 rfl rfl ?_
        refine gg_iast d_Mdl_insert_63 rfl (by omega) (by decide) ?_
        show gg_G _ _ _ _ _ _ _ _ _ _ _ _ (hp tN tF oN oF rN rF pN pF bN bF eN eF lo mT mO mW mR mP zT zO zX zB zL (upd (mo_in zR mR i) i x) zP zQ lm)
        refine gg_aload_n 0 d_Mdl_insert_64 rfl rfl ?_
        refine gg_dup d_Mdl_insert_65 rfl ?_
        refine gg_get f_Mdl_88 d_Mdl_insert_66 rfl rfl ?_
        refine gg_iconst (v := 1) d_Mdl_insert_69 (by decide) ?_
        refine gg_iadd d_Mdl_insert_70 ?_
        rw [nI_1]
        refine gg_puti u_Mdl_88 d_Mdl_insert_71 rfl (Nat.le_of_ble_eq_true rfl) ?_
        dsimp only [List.set]
        show gg_G _ _ _ _ _ _ _ _ _ _ _ _ (hp tN tF oN oF rN rF pN pF bN bF eN eF lo mT mO mW (mR + 1) mP zT zO zX zB zL (upd (mo_in zR mR i) i x) zP zQ lm)
        refine gg_aload_n 0 d_Mdl_insert_74 rfl rfl ?_
        refine gg_get f_Mdl_88 d_Mdl_insert_75 rfl rfl ?_
        exact gg_ireturn d_Mdl_insert_78 rfl rfl ⟨rfl, rfl⟩
      · exact absurd (nI_le (by omega) (by omega)) c34
    | succ k ih =>
      intro j hk hj hm
      refine gg_iload_n 3 d_Mdl_insert_32 rfl rfl ?_
      refine gg_iload_n 1 d_Mdl_insert_33 rfl rfl ?_
      refine gg_icmp_le 57 d_Mdl_insert_34 (by decide) (fun c34 => ?_) (fun c34 => ?_)
      · exact absurd c34 (nI_ge (by omega) (by omega))
      · refine gg_aload_n 0 d_Mdl_insert_37 rfl rfl ?_
        refine gg_get f_Mdl_25 d_Mdl_insert_38 rfl rfl ?_
        refine gg_iload_n 3 d_Mdl_insert_41 rfl rfl ?_
        refine gg_aload_n 0 d_Mdl_insert_42 rfl rfl ?_
        refine gg_get f_Mdl_25 d_Mdl_insert_43 rfl rfl ?_
        refine gg_iload_n 3 d_Mdl_insert_46 rfl rfl ?_
        refine gg_iconst (v := 1) d_Mdl_insert_47 (by decide) ?_
        refine gg_isub d_Mdl_insert_48 ?_
        rw [sp_pred (by omega)]
        refine gg_iald d_Mdl_insert_49 rfl (by omega) (by decide) ?_
        refine gg_iast d_Mdl_insert_50 rfl (by omega) (by decide) ?_
        obtain ⟨j, rfl⟩ : ∃ j0, j = j0 + 1 := ⟨j - 1, by omega⟩
        rw [Nat.add_sub_cancel, mo_in_step (by omega)]
        show gg_G _ _ _ _ _ _ _ _ _ _ _ _ (hp tN tF oN oF rN rF pN pF bN bF eN eF lo mT mO mW mR mP zT zO zX zB zL (mo_in zR mR j) zP zQ lm)
        refine gg_iinc (-1) d_Mdl_insert_51 rfl (by decide) (by decide) rfl ?_
        dsimp only [List.set]
        refine gg_goto 32 d_Mdl_insert_54 (by decide) ?_
        rw [pk_m1]
        exact ih j (by omega) (by omega) (by omega)
  refine gg_K.start (L := [some (.ref 14), some (.int (nI i)), some (.int x), none]) rfl (plainFor_of_name (by decide)) rfl (Nat.le_of_ble_eq_true rfl) ?_
  refine gg_iload_n 1 d_Mdl_insert_0 rfl rfl ?_
  refine gg_if_lt 12 d_Mdl_insert_1 (by decide) (fun c1 => ?_) (fun c1 => ?_)
  · exact absurd c1 (nI_pos (by omega))
  · refine gg_iload_n 1 d_Mdl_insert_4 rfl rfl ?_
    refine gg_aload_n 0 d_Mdl_insert_5 rfl rfl ?_
    refine gg_get f_Mdl_88 d_Mdl_insert_6 rfl rfl ?_
    refine gg_icmp_le 14 d_Mdl_insert_9 (by decide) (fun c9 => ?_) (fun c9 => ?_)
    · refine gg_aload_n 0 d_Mdl_insert_14 rfl rfl ?_
      refine gg_get f_Mdl_88 d_Mdl_insert_15 rfl rfl ?_
      refine gg_sipush (v := nI 600) d_Mdl_insert_18 (by decide) ?_
      refine gg_icmp_ne 27 d_Mdl_insert_21 (by decide) (fun c21 => ?_) (fun c21 => ?_)
      · refine gg_aload_n 0 d_Mdl_insert_27 rfl rfl ?_
        refine gg_get f_Mdl_88 d_Mdl_insert_28 rfl rfl ?_
        refine gg_istore_n 3 d_Mdl_insert_31 rfl (by decide) rfl ?_
        dsimp only [List.set]
        have e0 := loop (mR - i) mR rfl hi (Nat.le_refl _)
        rw [mo_in0] at e0
        exact e0
      · have e9 := (nI_eq (by omega) (by omega)).mp c21
        omega
    · exact absurd (nI_le hi (by omega)) c9
set_option maxHeartbeats 4000000 in
set_option maxRecDepth 100000 in
theorem c_Mdl_insert_full  {i : Nat} {x : Int32} (hi : i ≤ mR) (h0 : mR = 600) : gg_K l D cA d y_Mdl_insert b_Mdl_insert 4 (some .int) [.ref 14, .int (nI i), .int x] (hp tN tF oN oF rN rF pN pF bN bF eN eF lo mT mO mW mR mP zT zO zX zB zL zR zP zQ lm) (gg_is (some (.int (-3))) (hp tN tF oN oF rN rF pN pF bN bF eN eF lo mT mO mW mR mP zT zO zX zB zL zR zP zQ lm)) := by
  refine gg_K.start (L := [some (.ref 14), some (.int (nI i)), some (.int x), none]) rfl (plainFor_of_name (by decide)) rfl (Nat.le_of_ble_eq_true rfl) ?_
  refine gg_iload_n 1 d_Mdl_insert_0 rfl rfl ?_
  refine gg_if_lt 12 d_Mdl_insert_1 (by decide) (fun c1 => ?_) (fun c1 => ?_)
  · exact absurd c1 (nI_pos (by omega))
  · refine gg_iload_n 1 d_Mdl_insert_4 rfl rfl ?_
    refine gg_aload_n 0 d_Mdl_insert_5 rfl rfl ?_
    refine gg_get f_Mdl_88 d_Mdl_insert_6 rfl rfl ?_
    refine gg_icmp_le 14 d_Mdl_insert_9 (by decide) (fun c9 => ?_) (fun c9 => ?_)
    · refine gg_aload_n 0 d_Mdl_insert_14 rfl rfl ?_
      refine gg_get f_Mdl_88 d_Mdl_insert_15 rfl rfl ?_
      refine gg_sipush (v := nI 600) d_Mdl_insert_18 (by decide) ?_
      refine gg_icmp_ne 27 d_Mdl_insert_21 (by decide) (fun c21 => ?_) (fun c21 => ?_)
      · exact absurd (by rw [h0]) c21
      · refine gg_bipush (v := (-3)) d_Mdl_insert_24 (by decide) ?_
        exact gg_ireturn d_Mdl_insert_26 rfl rfl ⟨rfl, rfl⟩
    · exact absurd (nI_le hi (by omega)) c9
set_option maxHeartbeats 4000000 in
set_option maxRecDepth 100000 in
theorem c_Mdl_insert_bad  {y x : Int32} (hx : ¬ (0 ≤ y.toInt ∧ y.toInt ≤ (mR : Int))) (h0 : mR ≤ 600) : gg_K l D cA d y_Mdl_insert b_Mdl_insert 4 (some .int) [.ref 14, .int y, .int x] (hp tN tF oN oF rN rF pN pF bN bF eN eF lo mT mO mW mR mP zT zO zX zB zL zR zP zQ lm) (gg_is (some (.int (-1))) (hp tN tF oN oF rN rF pN pF bN bF eN eF lo mT mO mW mR mP zT zO zX zB zL zR zP zQ lm)) := by
  refine gg_K.start (L := [some (.ref 14), some (.int y), some (.int x), none]) rfl (plainFor_of_name (by decide)) rfl (Nat.le_of_ble_eq_true rfl) ?_
  refine gg_iload_n 1 d_Mdl_insert_0 rfl rfl ?_
  refine gg_if_lt 12 d_Mdl_insert_1 (by decide) (fun c1 => ?_) (fun c1 => ?_)
  · refine gg_iconst (v := (-1)) d_Mdl_insert_12 (by decide) ?_
    exact gg_ireturn d_Mdl_insert_13 rfl rfl ⟨rfl, rfl⟩
  · refine gg_iload_n 1 d_Mdl_insert_4 rfl rfl ?_
    refine gg_aload_n 0 d_Mdl_insert_5 rfl rfl ?_
    refine gg_get f_Mdl_88 d_Mdl_insert_6 rfl rfl ?_
    refine gg_icmp_le 14 d_Mdl_insert_9 (by decide) (fun c9 => ?_) (fun c9 => ?_)
    · rw [sp_lt0] at c1
      rw [sp_nle (by omega)] at c9
      omega
    · refine gg_iconst (v := (-1)) d_Mdl_insert_12 (by decide) ?_
      exact gg_ireturn d_Mdl_insert_13 rfl rfl ⟨rfl, rfl⟩
set_option maxHeartbeats 4000000 in
set_option maxRecDepth 100000 in
theorem c_Mdl_none  {x : Int32} (h0 : mR ≤ 600) : gg_K l D cA d y_Mdl_none b_Mdl_none 2 (some .boolean) [.ref 14, .int x] (hp tN tF oN oF rN rF pN pF bN bF eN eF lo mT mO mW mR mP zT zO zX zB zL zR zP zQ lm) (gg_is (some (.int (sp_b (¬ sp_in x mR)))) (hp tN tF oN oF rN rF pN pF bN bF eN eF lo mT mO mW mR mP zT zO zX zB zL zR zP zQ lm)) := by
  refine gg_K.start (L := [some (.ref 14), some (.int x)]) rfl (plainFor_of_name (by decide)) rfl (Nat.le_of_ble_eq_true rfl) ?_
  refine gg_iload_n 1 d_Mdl_none_0 rfl rfl ?_
  refine gg_if_lt 12 d_Mdl_none_1 (by decide) (fun c1 => ?_) (fun c1 => ?_)
  · rw [sp_lt0] at c1
    refine gg_iconst (v := 1) d_Mdl_none_12 (by decide) ?_
    refine gg_goto 17 d_Mdl_none_13 (by decide) ?_
    exact gg_ireturn d_Mdl_none_17 rfl (by decide) ⟨by first | rw [sp_bt (by omega)] | rw [sp_bf (by omega)], rfl⟩
  · rw [sp_lt0] at c1
    refine gg_iload_n 1 d_Mdl_none_4 rfl rfl ?_
    refine gg_aload_n 0 d_Mdl_none_5 rfl rfl ?_
    refine gg_get f_Mdl_88 d_Mdl_none_6 rfl rfl ?_
    refine gg_icmp_lt 16 d_Mdl_none_9 (by decide) (fun c9 => ?_) (fun c9 => ?_)
    · rw [sp_ltn (by omega)] at c9
      refine gg_iconst (v := 0) d_Mdl_none_16 (by decide) ?_
      exact gg_ireturn d_Mdl_none_17 rfl (by decide) ⟨by first | rw [sp_bt (by omega)] | rw [sp_bf (by omega)], rfl⟩
    · rw [sp_ltn (by omega)] at c9
      refine gg_iconst (v := 1) d_Mdl_none_12 (by decide) ?_
      refine gg_goto 17 d_Mdl_none_13 (by decide) ?_
      exact gg_ireturn d_Mdl_none_17 rfl (by decide) ⟨by first | rw [sp_bt (by omega)] | rw [sp_bf (by omega)], rfl⟩
set_option maxHeartbeats 4000000 in
set_option maxRecDepth 100000 in
theorem c_Mdl_remove  {j : Nat} (hj : j < mR) (h0 : mR ≤ 600) (hd : 1 ≤ d) : gg_K l D cA d y_Mdl_remove b_Mdl_remove 4 (some .long) [.ref 14, .int (nI j)] (hp tN tF oN oF rN rF pN pF bN bF eN eF lo mT mO mW mR mP zT zO zX zB zL zR zP zQ lm) (gg_is (some (.long (zR j).toInt64)) (hp tN tF oN oF rN rF pN pF bN bF eN eF lo mT mO mW (mR - 1) mP zT zO zX zB zL (mo_dl zR j (mR - 1)) zP zQ lm)) := by
  have loop : ∀ k : Nat, ∀ i, mR - 1 - i = k → j ≤ i → i ≤ mR - 1 → gg_G l D cA d R_Mdl b_Mdl_remove 4 (some .long) (gg_is (some (.long (zR j).toInt64)) (hp tN tF oN oF rN rF pN pF bN bF eN eF lo mT mO mW (mR - 1) mP zT zO zX zB zL (mo_dl zR j (mR - 1)) zP zQ lm)) 21 [some (.ref 14), some (.int (nI j)), some (.int (zR j)), some (.int (nI i))] [] ((hp tN tF oN oF rN rF pN pF bN bF eN eF lo mT mO mW mR mP zT zO zX zB zL (mo_dl zR j i) zP zQ lm)) := by
    intro k
    induction k with
    | zero =>
      intro i hk hji hi
      refine gg_iload_n 3 d_Mdl_remove_21 rfl rfl ?_
      refine gg_iconst (v := 1) d_Mdl_remove_22 (by decide) ?_
      refine gg_iadd d_Mdl_remove_23 ?_
      refine gg_aload_n 0 d_Mdl_remove_24 rfl rfl ?_
      refine gg_get f_Mdl_88 d_Mdl_remove_25 rfl rfl ?_
      rw [nI_1]
      refine gg_icmp_ge 51 d_Mdl_remove_28 (by decide) (fun c28 => ?_) (fun c28 => ?_)
      · rw [show i = mR - 1 by omega]
        refine gg_aload_n 0 d_Mdl_remove_51 rfl rfl ?_
        refine gg_dup d_Mdl_remove_52 rfl ?_
        refine gg_get f_Mdl_88 d_Mdl_remove_53 rfl rfl ?_
        refine gg_iconst (v := 1) d_Mdl_remove_56 (by decide) ?_
        refine gg_isub d_Mdl_remove_57 ?_
        rw [sp_pred (by omega)]
        refine gg_puti u_Mdl_88 d_Mdl_remove_58 rfl (Nat.le_of_ble_eq_true rfl) ?_
        dsimp only [List.set]
        show gg_G _ _ _ _ _ _ _ _ _ _ _ _ (hp tN tF oN oF rN rF pN pF bN bF eN eF lo mT mO mW (mR - 1) mP zT zO zX zB zL (mo_dl zR j (mR - 1)) zP zQ lm)
        refine gg_iload_n 2 d_Mdl_remove_61 rfl rfl ?_
        refine gg_i2l d_Mdl_remove_62 rfl ?_
        exact gg_lreturn d_Mdl_remove_63 rfl ⟨rfl, rfl⟩
      · exact absurd (nI_le (by omega) (by omega)) c28
    | succ k ih =>
      intro i hk hji hi
      refine gg_iload_n 3 d_Mdl_remove_21 rfl rfl ?_
      refine gg_iconst (v := 1) d_Mdl_remove_22 (by decide) ?_
      refine gg_iadd d_Mdl_remove_23 ?_
      refine gg_aload_n 0 d_Mdl_remove_24 rfl rfl ?_
      refine gg_get f_Mdl_88 d_Mdl_remove_25 rfl rfl ?_
      rw [nI_1]
      refine gg_icmp_ge 51 d_Mdl_remove_28 (by decide) (fun c28 => ?_) (fun c28 => ?_)
      · exact absurd c28 (nI_ge (by omega) (by omega))
      · refine gg_aload_n 0 d_Mdl_remove_31 rfl rfl ?_
        refine gg_get f_Mdl_25 d_Mdl_remove_32 rfl rfl ?_
        refine gg_iload_n 3 d_Mdl_remove_35 rfl rfl ?_
        refine gg_aload_n 0 d_Mdl_remove_36 rfl rfl ?_
        refine gg_get f_Mdl_25 d_Mdl_remove_37 rfl rfl ?_
        refine gg_iload_n 3 d_Mdl_remove_40 rfl rfl ?_
        refine gg_iconst (v := 1) d_Mdl_remove_41 (by decide) ?_
        refine gg_iadd d_Mdl_remove_42 ?_
        rw [nI_1]
        refine gg_iald d_Mdl_remove_43 rfl (by omega) (by decide) ?_
        refine gg_iast d_Mdl_remove_44 rfl (by omega) (by decide) ?_
        rw [mo_dl_step hji]
        show gg_G _ _ _ _ _ _ _ _ _ _ _ _ (hp tN tF oN oF rN rF pN pF bN bF eN eF lo mT mO mW mR mP zT zO zX zB zL (mo_dl zR j (i + 1)) zP zQ lm)
        refine gg_iinc (1) d_Mdl_remove_45 rfl (by decide) (by decide) rfl ?_
        dsimp only [List.set]
        refine gg_goto 21 d_Mdl_remove_48 (by decide) ?_
        rw [nI_1]
        exact ih (i + 1) (by omega) (by omega) (by omega)
  refine gg_K.start (L := [some (.ref 14), some (.int (nI j)), none, none]) rfl (plainFor_of_name (by decide)) rfl (Nat.le_of_ble_eq_true rfl) ?_
  refine gg_aload_n 0 d_Mdl_remove_0 rfl rfl ?_
  refine gg_iload_n 1 d_Mdl_remove_1 rfl rfl ?_
  refine gg_cv1 m_Mdl_91 d_Mdl_remove_2 (c_Mdl_none (d := 0) h0) rfl rfl rfl rfl (by omega) rfl (Nat.le_of_ble_eq_true rfl) ?_
  rw [sp_bf (not_not_intro (sp_in_of hj (by omega)))]
  refine gg_if_eq 12 d_Mdl_remove_5 (by decide) (fun c5 => ?_) (fun c5 => ?_)
  · refine gg_aload_n 0 d_Mdl_remove_12 rfl rfl ?_
    refine gg_get f_Mdl_25 d_Mdl_remove_13 rfl rfl ?_
    refine gg_iload_n 1 d_Mdl_remove_16 rfl rfl ?_
    refine gg_iald d_Mdl_remove_17 rfl (by omega) (by decide) ?_
    refine gg_istore_n 2 d_Mdl_remove_18 rfl (by decide) rfl ?_
    dsimp only [List.set]
    refine gg_iload_n 1 d_Mdl_remove_19 rfl rfl ?_
    refine gg_istore_n 3 d_Mdl_remove_20 rfl (by decide) rfl ?_
    dsimp only [List.set]
    have e0 := loop (mR - 1 - j) j rfl (Nat.le_refl _) (by omega)
    rw [mo_dl0] at e0
    exact e0
  · exact absurd rfl c5
set_option maxHeartbeats 4000000 in
set_option maxRecDepth 100000 in
theorem c_Mdl_set  {j : Nat} {x : Int32} (hj : j < mR) (h0 : mR ≤ 600) (hd : 1 ≤ d) : gg_K l D cA d y_Mdl_set b_Mdl_set 4 (some .long) [.ref 14, .int (nI j), .int x] (hp tN tF oN oF rN rF pN pF bN bF eN eF lo mT mO mW mR mP zT zO zX zB zL zR zP zQ lm) (gg_is (some (.long (zR j).toInt64)) (hp tN tF oN oF rN rF pN pF bN bF eN eF lo mT mO mW mR mP zT zO zX zB zL (upd zR j x) zP zQ lm)) := by
  refine gg_K.start (L := [some (.ref 14), some (.int (nI j)), some (.int x), none]) rfl (plainFor_of_name (by decide)) rfl (Nat.le_of_ble_eq_true rfl) ?_
  refine gg_aload_n 0 d_Mdl_set_0 rfl rfl ?_
  refine gg_iload_n 1 d_Mdl_set_1 rfl rfl ?_
  refine gg_cv1 m_Mdl_91 d_Mdl_set_2 (c_Mdl_none (d := 0) h0) rfl rfl rfl rfl (by omega) rfl (Nat.le_of_ble_eq_true rfl) ?_
  rw [sp_bf (not_not_intro (sp_in_of hj (by omega)))]
  refine gg_if_eq 12 d_Mdl_set_5 (by decide) (fun c5 => ?_) (fun c5 => ?_)
  · refine gg_aload_n 0 d_Mdl_set_12 rfl rfl ?_
    refine gg_get f_Mdl_25 d_Mdl_set_13 rfl rfl ?_
    refine gg_iload_n 1 d_Mdl_set_16 rfl rfl ?_
    refine gg_iald d_Mdl_set_17 rfl (by omega) (by decide) ?_
    refine gg_istore_n 3 d_Mdl_set_18 rfl (by decide) rfl ?_
    dsimp only [List.set]
    refine gg_aload_n 0 d_Mdl_set_19 rfl rfl ?_
    refine gg_get f_Mdl_25 d_Mdl_set_20 rfl rfl ?_
    refine gg_iload_n 1 d_Mdl_set_23 rfl rfl ?_
    refine gg_iload_n 2 d_Mdl_set_24 rfl rfl ?_
    refine gg_iast d_Mdl_set_25 rfl (by omega) (by decide) ?_
    show gg_G _ _ _ _ _ _ _ _ _ _ _ _ (hp tN tF oN oF rN rF pN pF bN bF eN eF lo mT mO mW mR mP zT zO zX zB zL (upd zR j x) zP zQ lm)
    refine gg_iload_n 3 d_Mdl_set_26 rfl rfl ?_
    refine gg_i2l d_Mdl_set_27 rfl ?_
    exact gg_lreturn d_Mdl_set_28 rfl ⟨rfl, rfl⟩
  · exact absurd rfl c5
set_option maxHeartbeats 4000000 in
set_option maxRecDepth 100000 in
theorem c_Mdl_get  {j : Nat} (hj : j < mR) (h0 : mR ≤ 600) (hd : 1 ≤ d) : gg_K l D cA d y_Mdl_get b_Mdl_get 2 (some .long) [.ref 14, .int (nI j)] (hp tN tF oN oF rN rF pN pF bN bF eN eF lo mT mO mW mR mP zT zO zX zB zL zR zP zQ lm) (gg_is (some (.long (zR j).toInt64)) (hp tN tF oN oF rN rF pN pF bN bF eN eF lo mT mO mW mR mP zT zO zX zB zL zR zP zQ lm)) := by
  refine gg_K.start (L := [some (.ref 14), some (.int (nI j))]) rfl (plainFor_of_name (by decide)) rfl (Nat.le_of_ble_eq_true rfl) ?_
  refine gg_aload_n 0 d_Mdl_get_0 rfl rfl ?_
  refine gg_iload_n 1 d_Mdl_get_1 rfl rfl ?_
  refine gg_cv1 m_Mdl_91 d_Mdl_get_2 (c_Mdl_none (d := 0) h0) rfl rfl rfl rfl (by omega) rfl (Nat.le_of_ble_eq_true rfl) ?_
  rw [sp_bf (not_not_intro (sp_in_of hj (by omega)))]
  refine gg_if_eq 14 d_Mdl_get_5 (by decide) (fun c5 => ?_) (fun c5 => ?_)
  · refine gg_aload_n 0 d_Mdl_get_14 rfl rfl ?_
    refine gg_get f_Mdl_25 d_Mdl_get_15 rfl rfl ?_
    refine gg_iload_n 1 d_Mdl_get_18 rfl rfl ?_
    refine gg_iald d_Mdl_get_19 rfl (by omega) (by decide) ?_
    refine gg_i2l d_Mdl_get_20 rfl ?_
    exact gg_lreturn d_Mdl_get_21 rfl ⟨rfl, rfl⟩
  · exact absurd rfl c5
set_option maxHeartbeats 4000000 in
set_option maxRecDepth 100000 in
theorem c_Mdl_remove_bad  {y : Int32} (hi : ¬ sp_in y mR) (h0 : mR ≤ 600) (hd : 1 ≤ d) : gg_K l D cA d y_Mdl_remove b_Mdl_remove 4 (some .long) [.ref 14, .int y] (hp tN tF oN oF rN rF pN pF bN bF eN eF lo mT mO mW mR mP zT zO zX zB zL zR zP zQ lm) (gg_is (some (.long 1099511627776)) (hp tN tF oN oF rN rF pN pF bN bF eN eF lo mT mO mW mR mP zT zO zX zB zL zR zP zQ lm)) := by
  refine gg_K.start (L := [some (.ref 14), some (.int y), none, none]) rfl (plainFor_of_name (by decide)) rfl (Nat.le_of_ble_eq_true rfl) ?_
  refine gg_aload_n 0 d_Mdl_remove_0 rfl rfl ?_
  refine gg_iload_n 1 d_Mdl_remove_1 rfl rfl ?_
  refine gg_cv1 m_Mdl_91 d_Mdl_remove_2 (c_Mdl_none (d := 0) h0) rfl rfl rfl rfl (by omega) rfl (Nat.le_of_ble_eq_true rfl) ?_
  rw [sp_bt hi]
  refine gg_if_eq 12 d_Mdl_remove_5 (by decide) (fun c5 => ?_) (fun c5 => ?_)
  · exact absurd c5 (by decide)
  · refine gg_ldc2 k_438 d_Mdl_remove_8 ?_
    exact gg_lreturn d_Mdl_remove_11 rfl ⟨rfl, rfl⟩
set_option maxHeartbeats 4000000 in
set_option maxRecDepth 100000 in
theorem c_Mdl_set_bad  {y x : Int32} (hi : ¬ sp_in y mR) (h0 : mR ≤ 600) (hd : 1 ≤ d) : gg_K l D cA d y_Mdl_set b_Mdl_set 4 (some .long) [.ref 14, .int y, .int x] (hp tN tF oN oF rN rF pN pF bN bF eN eF lo mT mO mW mR mP zT zO zX zB zL zR zP zQ lm) (gg_is (some (.long 1099511627776)) (hp tN tF oN oF rN rF pN pF bN bF eN eF lo mT mO mW mR mP zT zO zX zB zL zR zP zQ lm)) := by
  refine gg_K.start (L := [some (.ref 14), some (.int y), some (.int x), none]) rfl (plainFor_of_name (by decide)) rfl (Nat.le_of_ble_eq_true rfl) ?_
  refine gg_aload_n 0 d_Mdl_set_0 rfl rfl ?_
  refine gg_iload_n 1 d_Mdl_set_1 rfl rfl ?_
  refine gg_cv1 m_Mdl_91 d_Mdl_set_2 (c_Mdl_none (d := 0) h0) rfl rfl rfl rfl (by omega) rfl (Nat.le_of_ble_eq_true rfl) ?_
  rw [sp_bt hi]
  refine gg_if_eq 12 d_Mdl_set_5 (by decide) (fun c5 => ?_) (fun c5 => ?_)
  · exact absurd c5 (by decide)
  · refine gg_ldc2 k_438 d_Mdl_set_8 ?_
    exact gg_lreturn d_Mdl_set_11 rfl ⟨rfl, rfl⟩
set_option maxHeartbeats 4000000 in
set_option maxRecDepth 100000 in
theorem c_Mdl_get_bad  {y : Int32} (hi : ¬ sp_in y mR) (h0 : mR ≤ 600) (hd : 1 ≤ d) : gg_K l D cA d y_Mdl_get b_Mdl_get 2 (some .long) [.ref 14, .int y] (hp tN tF oN oF rN rF pN pF bN bF eN eF lo mT mO mW mR mP zT zO zX zB zL zR zP zQ lm) (gg_is (some (.long 1099511627776)) (hp tN tF oN oF rN rF pN pF bN bF eN eF lo mT mO mW mR mP zT zO zX zB zL zR zP zQ lm)) := by
  refine gg_K.start (L := [some (.ref 14), some (.int y)]) rfl (plainFor_of_name (by decide)) rfl (Nat.le_of_ble_eq_true rfl) ?_
  refine gg_aload_n 0 d_Mdl_get_0 rfl rfl ?_
  refine gg_iload_n 1 d_Mdl_get_1 rfl rfl ?_
  refine gg_cv1 m_Mdl_91 d_Mdl_get_2 (c_Mdl_none (d := 0) h0) rfl rfl rfl rfl (by omega) rfl (Nat.le_of_ble_eq_true rfl) ?_
  rw [sp_bt hi]
  refine gg_if_eq 14 d_Mdl_get_5 (by decide) (fun c5 => ?_) (fun c5 => ?_)
  · exact absurd c5 (by decide)
  · refine gg_ldc2 k_438 d_Mdl_get_8 ?_
    refine gg_goto 21 d_Mdl_get_11 (by decide) ?_
    exact gg_lreturn d_Mdl_get_21 rfl ⟨rfl, rfl⟩
set_option maxHeartbeats 4000000 in
set_option maxRecDepth 100000 in
theorem c_Mdl_size  {n : Nat} (hn : n ≤ 600) (h0 : mR ≤ 600) : gg_K l D cA d y_Mdl_size b_Mdl_size 2 (some .int) [.ref 14, .int (nI n)] (hp tN tF oN oF rN rF pN pF bN bF eN eF lo mT mO mW mR mP zT zO zX zB zL zR zP zQ lm) (gg_is (some (.int (nI n))) (hp tN tF oN oF rN rF pN pF bN bF eN eF lo mT mO mW n mP zT zO zX zB zL (sp_z zR mR n) zP zQ lm)) := by
  have loop : ∀ k : Nat, ∀ i, n - i = k → mR ≤ i → (i ≤ mR ∨ i ≤ n) → gg_G l D cA d R_Mdl b_Mdl_size 2 (some .int) (gg_is (some (.int (nI n))) (hp tN tF oN oF rN rF pN pF bN bF eN eF lo mT mO mW n mP zT zO zX zB zL (sp_z zR mR n) zP zQ lm)) 13 [some (.ref 14), some (.int (nI n))] [] ((hp tN tF oN oF rN rF pN pF bN bF eN eF lo mT mO mW i mP zT zO zX zB zL (sp_z zR mR i) zP zQ lm)) := by
    intro k
    induction k with
    | zero =>
      intro i hk hi hm
      refine gg_aload_n 0 d_Mdl_size_13 rfl rfl ?_
      refine gg_get f_Mdl_88 d_Mdl_size_14 rfl rfl ?_
      refine gg_iload_n 1 d_Mdl_size_17 rfl rfl ?_
      refine gg_icmp_ge 44 d_Mdl_size_18 (by decide) (fun c18 => ?_) (fun c18 => ?_)
      · refine gg_aload_n 0 d_Mdl_size_44 rfl rfl ?_
        refine gg_iload_n 1 d_Mdl_size_45 rfl rfl ?_
        rw [sp_z_end (show n ≤ i by omega) hm]
        refine gg_puti u_Mdl_88 d_Mdl_size_46 rfl (Nat.le_of_ble_eq_true rfl) ?_
        dsimp only [List.set]
        show gg_G _ _ _ _ _ _ _ _ _ _ _ _ (hp tN tF oN oF rN rF pN pF bN bF eN eF lo mT mO mW n mP zT zO zX zB zL (sp_z zR mR n) zP zQ lm)
        refine gg_iload_n 1 d_Mdl_size_49 rfl rfl ?_
        exact gg_ireturn d_Mdl_size_50 rfl rfl ⟨rfl, rfl⟩
      · exact absurd (nI_le (by omega) (by omega)) c18
    | succ k ih =>
      intro i hk hi hm
      refine gg_aload_n 0 d_Mdl_size_13 rfl rfl ?_
      refine gg_get f_Mdl_88 d_Mdl_size_14 rfl rfl ?_
      refine gg_iload_n 1 d_Mdl_size_17 rfl rfl ?_
      refine gg_icmp_ge 44 d_Mdl_size_18 (by decide) (fun c18 => ?_) (fun c18 => ?_)
      · exact absurd c18 (nI_ge (by omega) (by omega))
      · refine gg_aload_n 0 d_Mdl_size_21 rfl rfl ?_
        refine gg_get f_Mdl_25 d_Mdl_size_22 rfl rfl ?_
        refine gg_aload_n 0 d_Mdl_size_25 rfl rfl ?_
        refine gg_get f_Mdl_88 d_Mdl_size_26 rfl rfl ?_
        refine gg_iconst (v := 0) d_Mdl_size_29 (by decide) ?_
        refine gg_iast d_Mdl_size_30 rfl (by omega) (by decide) ?_
        rw [sp_z_step hi]
        show gg_G _ _ _ _ _ _ _ _ _ _ _ _ (hp tN tF oN oF rN rF pN pF bN bF eN eF lo mT mO mW i mP zT zO zX zB zL (sp_z zR mR (i + 1)) zP zQ lm)
        refine gg_aload_n 0 d_Mdl_size_31 rfl rfl ?_
        refine gg_dup d_Mdl_size_32 rfl ?_
        refine gg_get f_Mdl_88 d_Mdl_size_33 rfl rfl ?_
        refine gg_iconst (v := 1) d_Mdl_size_36 (by decide) ?_
        refine gg_iadd d_Mdl_size_37 ?_
        rw [nI_1]
        refine gg_puti u_Mdl_88 d_Mdl_size_38 rfl (Nat.le_of_ble_eq_true rfl) ?_
        dsimp only [List.set]
        show gg_G _ _ _ _ _ _ _ _ _ _ _ _ (hp tN tF oN oF rN rF pN pF bN bF eN eF lo mT mO mW (i + 1) mP zT zO zX zB zL (sp_z zR mR (i + 1)) zP zQ lm)
        refine gg_goto 13 d_Mdl_size_41 (by decide) ?_
        exact ih (i + 1) (by omega) (by omega) (by omega)
  refine gg_K.start (L := [some (.ref 14), some (.int (nI n))]) rfl (plainFor_of_name (by decide)) rfl (Nat.le_of_ble_eq_true rfl) ?_
  refine gg_iload_n 1 d_Mdl_size_0 rfl rfl ?_
  refine gg_if_lt 11 d_Mdl_size_1 (by decide) (fun c1 => ?_) (fun c1 => ?_)
  · exact absurd c1 (nI_pos (by omega))
  · refine gg_iload_n 1 d_Mdl_size_4 rfl rfl ?_
    refine gg_sipush (v := nI 600) d_Mdl_size_5 (by decide) ?_
    refine gg_icmp_le 13 d_Mdl_size_8 (by decide) (fun c8 => ?_) (fun c8 => ?_)
    · have e0 := loop (n - mR) mR rfl (Nat.le_refl _) (Or.inl (Nat.le_refl _))
      rw [sp_z_self] at e0
      exact e0
    · exact absurd (nI_le hn (by omega)) c8
set_option maxHeartbeats 4000000 in
set_option maxRecDepth 100000 in
theorem c_Mdl_size_bad  {y : Int32} (hx : ¬ (0 ≤ y.toInt ∧ y.toInt ≤ 600)) (h0 : mR ≤ 600) : gg_K l D cA d y_Mdl_size b_Mdl_size 2 (some .int) [.ref 14, .int y] (hp tN tF oN oF rN rF pN pF bN bF eN eF lo mT mO mW mR mP zT zO zX zB zL zR zP zQ lm) (gg_is (some (.int (-1))) (hp tN tF oN oF rN rF pN pF bN bF eN eF lo mT mO mW mR mP zT zO zX zB zL zR zP zQ lm)) := by
  refine gg_K.start (L := [some (.ref 14), some (.int y)]) rfl (plainFor_of_name (by decide)) rfl (Nat.le_of_ble_eq_true rfl) ?_
  refine gg_iload_n 1 d_Mdl_size_0 rfl rfl ?_
  refine gg_if_lt 11 d_Mdl_size_1 (by decide) (fun c1 => ?_) (fun c1 => ?_)
  · refine gg_iconst (v := (-1)) d_Mdl_size_11 (by decide) ?_
    exact gg_ireturn d_Mdl_size_12 rfl rfl ⟨rfl, rfl⟩
  · refine gg_iload_n 1 d_Mdl_size_4 rfl rfl ?_
    refine gg_sipush (v := nI 600) d_Mdl_size_5 (by decide) ?_
    refine gg_icmp_le 13 d_Mdl_size_8 (by decide) (fun c8 => ?_) (fun c8 => ?_)
    · rw [sp_lt0] at c1
      rw [sp_nle (by omega)] at c8
      omega
    · refine gg_iconst (v := (-1)) d_Mdl_size_11 (by decide) ?_
      exact gg_ireturn d_Mdl_size_12 rfl rfl ⟨rfl, rfl⟩
set_option maxHeartbeats 4000000 in
set_option maxRecDepth 100000 in
theorem c_Mdl_swap  {i j : Nat} (hi : i < mR) (hj : j < mR) (h0 : mR ≤ 600) (hd : 1 ≤ d) : gg_K l D cA d y_Mdl_swap b_Mdl_swap 4 (some .int) [.ref 14, .int (nI i), .int (nI j)] (hp tN tF oN oF rN rF pN pF bN bF eN eF lo mT mO mW mR mP zT zO zX zB zL zR zP zQ lm) (gg_is (some (.int 0)) (hp tN tF oN oF rN rF pN pF bN bF eN eF lo mT mO mW mR mP zT zO zX zB zL (upd (upd zR i (zR j)) j (zR i)) zP zQ lm)) := by
  refine gg_K.start (L := [some (.ref 14), some (.int (nI i)), some (.int (nI j)), none]) rfl (plainFor_of_name (by decide)) rfl (Nat.le_of_ble_eq_true rfl) ?_
  refine gg_aload_n 0 d_Mdl_swap_0 rfl rfl ?_
  refine gg_iload_n 1 d_Mdl_swap_1 rfl rfl ?_
  refine gg_cv1 m_Mdl_91 d_Mdl_swap_2 (c_Mdl_none (d := 0) h0) rfl rfl rfl rfl (by omega) rfl (Nat.le_of_ble_eq_true rfl) ?_
  rw [sp_bf (not_not_intro (sp_in_of hi (by omega)))]
  refine gg_if_ne 16 d_Mdl_swap_5 (by decide) (fun c5 => ?_) (fun c5 => ?_)
  · exact absurd rfl c5
  · refine gg_aload_n 0 d_Mdl_swap_8 rfl rfl ?_
    refine gg_iload_n 2 d_Mdl_swap_9 rfl rfl ?_
    refine gg_cv1 m_Mdl_91 d_Mdl_swap_10 (c_Mdl_none (d := 0) h0) rfl rfl rfl rfl (by omega) rfl (Nat.le_of_ble_eq_true rfl) ?_
    rw [sp_bf (not_not_intro (sp_in_of hj (by omega)))]
    refine gg_if_eq 18 d_Mdl_swap_13 (by decide) (fun c13 => ?_) (fun c13 => ?_)
    · refine gg_aload_n 0 d_Mdl_swap_18 rfl rfl ?_
      refine gg_get f_Mdl_25 d_Mdl_swap_19 rfl rfl ?_
      refine gg_iload_n 1 d_Mdl_swap_22 rfl rfl ?_
      refine gg_iald d_Mdl_swap_23 rfl (by omega) (by decide) ?_
      refine gg_istore_n 3 d_Mdl_swap_24 rfl (by decide) rfl ?_
      dsimp only [List.set]
      refine gg_aload_n 0 d_Mdl_swap_25 rfl rfl ?_
      refine gg_get f_Mdl_25 d_Mdl_swap_26 rfl rfl ?_
      refine gg_iload_n 1 d_Mdl_swap_29 rfl rfl ?_
      refine gg_aload_n 0 d_Mdl_swap_30 rfl rfl ?_
      refine gg_get f_Mdl_25 d_Mdl_swap_31 rfl rfl ?_
      refine gg_iload_n 2 d_Mdl_swap_34 rfl rfl ?_
      refine gg_iald d_Mdl_swap_35 rfl (by omega) (by decide) ?_
      refine gg_iast d_Mdl_swap_36 rfl (by omega) (by decide) ?_
      show gg_G _ _ _ _ _ _ _ _ _ _ _ _ (hp tN tF oN oF rN rF pN pF bN bF eN eF lo mT mO mW mR mP zT zO zX zB zL (upd zR i (zR j)) zP zQ lm)
      refine gg_aload_n 0 d_Mdl_swap_37 rfl rfl ?_
      refine gg_get f_Mdl_25 d_Mdl_swap_38 rfl rfl ?_
      refine gg_iload_n 2 d_Mdl_swap_41 rfl rfl ?_
      refine gg_iload_n 3 d_Mdl_swap_42 rfl rfl ?_
      refine gg_iast d_Mdl_swap_43 rfl (by omega) (by decide) ?_
      show gg_G _ _ _ _ _ _ _ _ _ _ _ _ (hp tN tF oN oF rN rF pN pF bN bF eN eF lo mT mO mW mR mP zT zO zX zB zL (upd (upd zR i (zR j)) j (zR i)) zP zQ lm)
      refine gg_iconst (v := 0) d_Mdl_swap_44 (by decide) ?_
      exact gg_ireturn d_Mdl_swap_45 rfl rfl ⟨rfl, rfl⟩
    · exact absurd rfl c13
set_option maxHeartbeats 4000000 in
set_option maxRecDepth 100000 in
theorem c_Mdl_swap_bad  {x y : Int32} (hx : ¬ (sp_in x mR ∧ sp_in y mR)) (h0 : mR ≤ 600) (hd : 1 ≤ d) : gg_K l D cA d y_Mdl_swap b_Mdl_swap 4 (some .int) [.ref 14, .int x, .int y] (hp tN tF oN oF rN rF pN pF bN bF eN eF lo mT mO mW mR mP zT zO zX zB zL zR zP zQ lm) (gg_is (some (.int (-1))) (hp tN tF oN oF rN rF pN pF bN bF eN eF lo mT mO mW mR mP zT zO zX zB zL zR zP zQ lm)) := by
  refine gg_K.start (L := [some (.ref 14), some (.int x), some (.int y), none]) rfl (plainFor_of_name (by decide)) rfl (Nat.le_of_ble_eq_true rfl) ?_
  refine gg_aload_n 0 d_Mdl_swap_0 rfl rfl ?_
  refine gg_iload_n 1 d_Mdl_swap_1 rfl rfl ?_
  refine gg_cv1 m_Mdl_91 d_Mdl_swap_2 (c_Mdl_none (d := 0) h0) rfl rfl rfl rfl (by omega) rfl (Nat.le_of_ble_eq_true rfl) ?_
  refine gg_if_ne 16 d_Mdl_swap_5 (by decide) (fun c5 => ?_) (fun c5 => ?_)
  · refine gg_iconst (v := (-1)) d_Mdl_swap_16 (by decide) ?_
    exact gg_ireturn d_Mdl_swap_17 rfl rfl ⟨rfl, rfl⟩
  · refine gg_aload_n 0 d_Mdl_swap_8 rfl rfl ?_
    refine gg_iload_n 2 d_Mdl_swap_9 rfl rfl ?_
    refine gg_cv1 m_Mdl_91 d_Mdl_swap_10 (c_Mdl_none (d := 0) h0) rfl rfl rfl rfl (by omega) rfl (Nat.le_of_ble_eq_true rfl) ?_
    refine gg_if_eq 18 d_Mdl_swap_13 (by decide) (fun c13 => ?_) (fun c13 => ?_)
    · exact absurd ⟨Decidable.not_not.mp (sp_b0 c5), Decidable.not_not.mp (sp_b0 c13)⟩ hx
    · refine gg_iconst (v := (-1)) d_Mdl_swap_16 (by decide) ?_
      exact gg_ireturn d_Mdl_swap_17 rfl rfl ⟨rfl, rfl⟩
set_option maxHeartbeats 4000000 in
set_option maxRecDepth 100000 in
theorem c_Mdl_often  {v : Int32} (h0 : mR ≤ 600) : gg_K l D cA d y_Mdl_often b_Mdl_often 4 (some .int) [.ref 14, .int v] (hp tN tF oN oF rN rF pN pF bN bF eN eF lo mT mO mW mR mP zT zO zX zB zL zR zP zQ lm) (gg_is (some (.int (nI (sp_ct zR v mR)))) (hp tN tF oN oF rN rF pN pF bN bF eN eF lo mT mO mW mR mP zT zO zX zB zL zR zP zQ lm)) := by
  have loop : ∀ k : Nat, ∀ i, mR - i = k → i ≤ mR → gg_G l D cA d R_Mdl b_Mdl_often 4 (some .int) (gg_is (some (.int (nI (sp_ct zR v mR)))) (hp tN tF oN oF rN rF pN pF bN bF eN eF lo mT mO mW mR mP zT zO zX zB zL zR zP zQ lm)) 4 [some (.ref 14), some (.int v), some (.int (nI (sp_ct zR v i))), some (.int (nI i))] [] ((hp tN tF oN oF rN rF pN pF bN bF eN eF lo mT mO mW mR mP zT zO zX zB zL zR zP zQ lm)) := by
    intro k
    induction k with
    | zero =>
      intro i hk hi
      refine gg_iload_n 3 d_Mdl_often_4 rfl rfl ?_
      refine gg_aload_n 0 d_Mdl_often_5 rfl rfl ?_
      refine gg_get f_Mdl_88 d_Mdl_often_6 rfl rfl ?_
      refine gg_icmp_ge 31 d_Mdl_often_9 (by decide) (fun c9 => ?_) (fun c9 => ?_)
      · refine gg_iload_n 2 d_Mdl_often_31 rfl rfl ?_
        exact gg_ireturn d_Mdl_often_32 rfl rfl ⟨by rw [show i = mR by omega], rfl⟩
      · exact absurd (nI_le (by omega) (by omega)) c9
    | succ k ih =>
      intro i hk hi
      refine gg_iload_n 3 d_Mdl_often_4 rfl rfl ?_
      refine gg_aload_n 0 d_Mdl_often_5 rfl rfl ?_
      refine gg_get f_Mdl_88 d_Mdl_often_6 rfl rfl ?_
      refine gg_icmp_ge 31 d_Mdl_often_9 (by decide) (fun c9 => ?_) (fun c9 => ?_)
      · exact absurd c9 (nI_ge (by omega) (by omega))
      · refine gg_aload_n 0 d_Mdl_often_12 rfl rfl ?_
        refine gg_get f_Mdl_25 d_Mdl_often_13 rfl rfl ?_
        refine gg_iload_n 3 d_Mdl_often_16 rfl rfl ?_
        refine gg_iald d_Mdl_often_17 rfl (by omega) (by decide) ?_
        refine gg_iload_n 1 d_Mdl_often_18 rfl rfl ?_
        refine gg_icmp_ne 25 d_Mdl_often_19 (by decide) (fun c19 => ?_) (fun c19 => ?_)
        · have hc : sp_ct zR v (i + 1) = sp_ct zR v i := if_neg c19
          refine gg_iinc (1) d_Mdl_often_25 rfl (by decide) (by decide) rfl ?_
          dsimp only [List.set]
          refine gg_goto 4 d_Mdl_often_28 (by decide) ?_
          simp only [nI_1]
          rw [← hc]
          exact ih (i + 1) (by omega) (by omega)
        · have hc : sp_ct zR v (i + 1) = sp_ct zR v i + 1 := if_pos c19
          refine gg_iinc (1) d_Mdl_often_22 rfl (by decide) (by decide) rfl ?_
          dsimp only [List.set]
          refine gg_iinc (1) d_Mdl_often_25 rfl (by decide) (by decide) rfl ?_
          dsimp only [List.set]
          refine gg_goto 4 d_Mdl_often_28 (by decide) ?_
          simp only [nI_1]
          rw [← hc]
          exact ih (i + 1) (by omega) (by omega)
  refine gg_K.start (L := [some (.ref 14), some (.int v), none, none]) rfl (plainFor_of_name (by decide)) rfl (Nat.le_of_ble_eq_true rfl) ?_
  refine gg_iconst (v := 0) d_Mdl_often_0 (by decide) ?_
  refine gg_istore_n 2 d_Mdl_often_1 rfl (by decide) rfl ?_
  dsimp only [List.set]
  refine gg_iconst (v := 0) d_Mdl_often_2 (by decide) ?_
  refine gg_istore_n 3 d_Mdl_often_3 rfl (by decide) rfl ?_
  dsimp only [List.set]
  exact loop mR 0 rfl (Nat.zero_le _)
set_option maxHeartbeats 4000000 in
set_option maxRecDepth 100000 in
theorem c_Mdl_stands  {s : Nat} (hs : s + mP ≤ 600) (h1 : mP ≤ 600) : gg_K l D cA d y_Mdl_stands b_Mdl_stands 3 (some .boolean) [.ref 14, .int (nI s)] (hp tN tF oN oF rN rF pN pF bN bF eN eF lo mT mO mW mR mP zT zO zX zB zL zR zP zQ lm) (gg_is (some (.int (sp_b (sp_st zR zP mP s)))) (hp tN tF oN oF rN rF pN pF bN bF eN eF lo mT mO mW mR mP zT zO zX zB zL zR zP zQ lm)) := by
  have loop : ∀ k : Nat, ∀ i, mP - i = k → i ≤ mP → (∀ j, j < i → zR (s + j) = zP j) → gg_G l D cA d R_Mdl b_Mdl_stands 3 (some .boolean) (gg_is (some (.int (sp_b (sp_st zR zP mP s)))) (hp tN tF oN oF rN rF pN pF bN bF eN eF lo mT mO mW mR mP zT zO zX zB zL zR zP zQ lm)) 2 [some (.ref 14), some (.int (nI s)), some (.int (nI i))] [] ((hp tN tF oN oF rN rF pN pF bN bF eN eF lo mT mO mW mR mP zT zO zX zB zL zR zP zQ lm)) := by
    intro k
    induction k with
    | zero =>
      intro i hk hi hj
      refine gg_iload_n 2 d_Mdl_stands_2 rfl rfl ?_
      refine gg_aload_n 0 d_Mdl_stands_3 rfl rfl ?_
      refine gg_get f_Mdl_85 d_Mdl_stands_4 rfl rfl ?_
      refine gg_icmp_ge 35 d_Mdl_stands_7 (by decide) (fun c7 => ?_) (fun c7 => ?_)
      · rw [sp_bt (show sp_st zR zP mP s from fun j q => hj j (by omega))]
        refine gg_iconst (v := 1) d_Mdl_stands_35 (by decide) ?_
        exact gg_ireturn d_Mdl_stands_36 rfl (by decide) ⟨rfl, rfl⟩
      · exact absurd (nI_le (by omega) (by omega)) c7
    | succ k ih =>
      intro i hk hi hj
      refine gg_iload_n 2 d_Mdl_stands_2 rfl rfl ?_
      refine gg_aload_n 0 d_Mdl_stands_3 rfl rfl ?_
      refine gg_get f_Mdl_85 d_Mdl_stands_4 rfl rfl ?_
      refine gg_icmp_ge 35 d_Mdl_stands_7 (by decide) (fun c7 => ?_) (fun c7 => ?_)
      · exact absurd c7 (nI_ge (by omega) (by omega))
      · refine gg_aload_n 0 d_Mdl_stands_10 rfl rfl ?_
        refine gg_get f_Mdl_25 d_Mdl_stands_11 rfl rfl ?_
        refine gg_iload_n 1 d_Mdl_stands_14 rfl rfl ?_
        refine gg_iload_n 2 d_Mdl_stands_15 rfl rfl ?_
        refine gg_iadd d_Mdl_stands_16 ?_
        rw [nI_add]
        refine gg_iald d_Mdl_stands_17 rfl (by omega) (by decide) ?_
        refine gg_aload_n 0 d_Mdl_stands_18 rfl rfl ?_
        refine gg_get f_Mdl_28 d_Mdl_stands_19 rfl rfl ?_
        refine gg_iload_n 2 d_Mdl_stands_22 rfl rfl ?_
        refine gg_iald d_Mdl_stands_23 rfl (by omega) (by decide) ?_
        refine gg_icmp_eq 29 d_Mdl_stands_24 (by decide) (fun c24 => ?_) (fun c24 => ?_)
        · refine gg_iinc (1) d_Mdl_stands_29 rfl (by decide) (by decide) rfl ?_
          dsimp only [List.set]
          refine gg_goto 2 d_Mdl_stands_32 (by decide) ?_
          rw [nI_1]
          exact ih (i + 1) (by omega) (by omega) (lt_s hj c24)
        · rw [sp_bf (show ¬ sp_st zR zP mP s from fun q => c24 (q i (by omega)))]
          refine gg_iconst (v := 0) d_Mdl_stands_27 (by decide) ?_
          exact gg_ireturn d_Mdl_stands_28 rfl (by decide) ⟨rfl, rfl⟩
  refine gg_K.start (L := [some (.ref 14), some (.int (nI s)), none]) rfl (plainFor_of_name (by decide)) rfl (Nat.le_of_ble_eq_true rfl) ?_
  refine gg_iconst (v := 0) d_Mdl_stands_0 (by decide) ?_
  refine gg_istore_n 2 d_Mdl_stands_1 rfl (by decide) rfl ?_
  dsimp only [List.set]
  exact loop mP 0 rfl (Nat.zero_le _) lt_0
set_option maxHeartbeats 4000000 in
set_option maxRecDepth 100000 in
theorem c_Mdl_replace  {v w : Int32} (h0 : mR ≤ 600) (hd : 1 ≤ d) : gg_K l D cA d y_Mdl_replace b_Mdl_replace 5 (some .int) [.ref 14, .int v, .int w] (hp tN tF oN oF rN rF pN pF bN bF eN eF lo mT mO mW mR mP zT zO zX zB zL zR zP zQ lm) (gg_is (some (.int (nI (sp_ct zR v mR)))) (hp tN tF oN oF rN rF pN pF bN bF eN eF lo mT mO mW mR mP zT zO zX zB zL (sp_rp zR mR v w) zP zQ lm)) := by
  have loop : ∀ k : Nat, ∀ i, mR - i = k → i ≤ mR → gg_G l D cA d R_Mdl b_Mdl_replace 5 (some .int) (gg_is (some (.int (nI (sp_ct zR v mR)))) (hp tN tF oN oF rN rF pN pF bN bF eN eF lo mT mO mW mR mP zT zO zX zB zL (sp_rp zR mR v w) zP zQ lm)) 9 [some (.ref 14), some (.int v), some (.int w), some (.int (nI (sp_ct zR v mR))), some (.int (nI i))] [] ((hp tN tF oN oF rN rF pN pF bN bF eN eF lo mT mO mW mR mP zT zO zX zB zL (sp_rp zR i v w) zP zQ lm)) := by
    intro k
    induction k with
    | zero =>
      intro i hk hi
      refine gg_iload d_Mdl_replace_9 rfl ?_
      refine gg_aload_n 0 d_Mdl_replace_11 rfl rfl ?_
      refine gg_get f_Mdl_88 d_Mdl_replace_12 rfl rfl ?_
      refine gg_icmp_ge 43 d_Mdl_replace_15 (by decide) (fun c15 => ?_) (fun c15 => ?_)
      · refine gg_iload_n 3 d_Mdl_replace_43 rfl rfl ?_
        exact gg_ireturn d_Mdl_replace_44 rfl rfl ⟨rfl, by rw [show i = mR by omega]⟩
      · exact absurd (nI_le (by omega) (by omega)) c15
    | succ k ih =>
      intro i hk hi
      refine gg_iload d_Mdl_replace_9 rfl ?_
      refine gg_aload_n 0 d_Mdl_replace_11 rfl rfl ?_
      refine gg_get f_Mdl_88 d_Mdl_replace_12 rfl rfl ?_
      refine gg_icmp_ge 43 d_Mdl_replace_15 (by decide) (fun c15 => ?_) (fun c15 => ?_)
      · exact absurd c15 (nI_ge (by omega) (by omega))
      · refine gg_aload_n 0 d_Mdl_replace_18 rfl rfl ?_
        refine gg_get f_Mdl_25 d_Mdl_replace_19 rfl rfl ?_
        refine gg_iload d_Mdl_replace_22 rfl ?_
        refine gg_iald d_Mdl_replace_24 rfl (by omega) (by decide) ?_
        rw [sp_rp_at]
        refine gg_iload_n 1 d_Mdl_replace_25 rfl rfl ?_
        refine gg_icmp_ne 37 d_Mdl_replace_26 (by decide) (fun c26 => ?_) (fun c26 => ?_)
        · rw [sp_rp_ne (w := w) c26]
          refine gg_iinc (1) d_Mdl_replace_37 rfl (by decide) (by decide) rfl ?_
          dsimp only [List.set]
          refine gg_goto 9 d_Mdl_replace_40 (by decide) ?_
          rw [nI_1]
          exact ih (i + 1) (by omega) (by omega)
        · have hq := sp_rp_is (w := w) c26
          refine gg_aload_n 0 d_Mdl_replace_29 rfl rfl ?_
          refine gg_get f_Mdl_25 d_Mdl_replace_30 rfl rfl ?_
          refine gg_iload d_Mdl_replace_33 rfl ?_
          refine gg_iload_n 2 d_Mdl_replace_35 rfl rfl ?_
          refine gg_iast d_Mdl_replace_36 rfl (by omega) (by decide) ?_
          rw [hq]
          show gg_G _ _ _ _ _ _ _ _ _ _ _ _ (hp tN tF oN oF rN rF pN pF bN bF eN eF lo mT mO mW mR mP zT zO zX zB zL (sp_rp zR (i + 1) v w) zP zQ lm)
          refine gg_iinc (1) d_Mdl_replace_37 rfl (by decide) (by decide) rfl ?_
          dsimp only [List.set]
          refine gg_goto 9 d_Mdl_replace_40 (by decide) ?_
          rw [nI_1]
          exact ih (i + 1) (by omega) (by omega)
  refine gg_K.start (L := [some (.ref 14), some (.int v), some (.int w), none, none]) rfl (plainFor_of_name (by decide)) rfl (Nat.le_of_ble_eq_true rfl) ?_
  refine gg_aload_n 0 d_Mdl_replace_0 rfl rfl ?_
  refine gg_iload_n 1 d_Mdl_replace_1 rfl rfl ?_
  refine gg_cv1 m_Mdl_98 d_Mdl_replace_2 (c_Mdl_often (d := 0) h0) rfl rfl rfl rfl (by omega) rfl (Nat.le_of_ble_eq_true rfl) ?_
  refine gg_istore_n 3 d_Mdl_replace_5 rfl (by decide) rfl ?_
  dsimp only [List.set]
  refine gg_iconst (v := 0) d_Mdl_replace_6 (by decide) ?_
  refine gg_istore d_Mdl_replace_7 (by decide) rfl ?_
  dsimp only [List.set]
  have e0 := loop mR 0 rfl (Nat.zero_le _)
  rw [sp_rp0] at e0
  exact e0
set_option maxHeartbeats 4000000 in
set_option maxRecDepth 100000 in
theorem c_Mdl_count0    : gg_K l D cA d y_Mdl_count b_Mdl_count 2 (some .int) [.ref 14, .int 0] (hp tN tF oN oF rN rF pN pF bN bF eN eF lo mT mO mW mR mP zT zO zX zB zL zR zP zQ lm) (gg_is (some (.int (nI mR))) (hp tN tF oN oF rN rF pN pF bN bF eN eF lo mT mO mW mR mP zT zO zX zB zL zR zP zQ lm)) := by
  refine gg_K.start (L := [some (.ref 14), some (.int 0)]) rfl (plainFor_of_name (by decide)) rfl (Nat.le_of_ble_eq_true rfl) ?_
  refine gg_iload_n 1 d_Mdl_count_0 rfl rfl ?_
  refine gg_tableIn (off := 31) 32 d_Mdl_count_1 (by decide) (by decide) (by decide) (by decide) ?_
  refine gg_aload_n 0 d_Mdl_count_32 rfl rfl ?_
  refine gg_get f_Mdl_88 d_Mdl_count_33 rfl rfl ?_
  exact gg_ireturn d_Mdl_count_36 rfl rfl ⟨rfl, rfl⟩
set_option maxHeartbeats 4000000 in
set_option maxRecDepth 100000 in
theorem c_Mdl_count1    : gg_K l D cA d y_Mdl_count b_Mdl_count 2 (some .int) [.ref 14, .int 1] (hp tN tF oN oF rN rF pN pF bN bF eN eF lo mT mO mW mR mP zT zO zX zB zL zR zP zQ lm) (gg_is (some (.int (nI mP))) (hp tN tF oN oF rN rF pN pF bN bF eN eF lo mT mO mW mR mP zT zO zX zB zL zR zP zQ lm)) := by
  refine gg_K.start (L := [some (.ref 14), some (.int 1)]) rfl (plainFor_of_name (by decide)) rfl (Nat.le_of_ble_eq_true rfl) ?_
  refine gg_iload_n 1 d_Mdl_count_0 rfl rfl ?_
  refine gg_tableIn (off := 36) 37 d_Mdl_count_1 (by decide) (by decide) (by decide) (by decide) ?_
  refine gg_aload_n 0 d_Mdl_count_37 rfl rfl ?_
  refine gg_get f_Mdl_85 d_Mdl_count_38 rfl rfl ?_
  exact gg_ireturn d_Mdl_count_41 rfl rfl ⟨rfl, rfl⟩
set_option maxHeartbeats 4000000 in
set_option maxRecDepth 100000 in
theorem c_Mdl_count2    : gg_K l D cA d y_Mdl_count b_Mdl_count 2 (some .int) [.ref 14, .int 2] (hp tN tF oN oF rN rF pN pF bN bF eN eF lo mT mO mW mR mP zT zO zX zB zL zR zP zQ lm) (gg_is (some (.int (nI mT))) (hp tN tF oN oF rN rF pN pF bN bF eN eF lo mT mO mW mR mP zT zO zX zB zL zR zP zQ lm)) := by
  refine gg_K.start (L := [some (.ref 14), some (.int 2)]) rfl (plainFor_of_name (by decide)) rfl (Nat.le_of_ble_eq_true rfl) ?_
  refine gg_iload_n 1 d_Mdl_count_0 rfl rfl ?_
  refine gg_tableIn (off := 41) 42 d_Mdl_count_1 (by decide) (by decide) (by decide) (by decide) ?_
  refine gg_aload_n 0 d_Mdl_count_42 rfl rfl ?_
  refine gg_get f_Mdl_34 d_Mdl_count_43 rfl rfl ?_
  exact gg_ireturn d_Mdl_count_46 rfl rfl ⟨rfl, rfl⟩
set_option maxHeartbeats 4000000 in
set_option maxRecDepth 100000 in
theorem c_Mdl_count3    : gg_K l D cA d y_Mdl_count b_Mdl_count 2 (some .int) [.ref 14, .int 3] (hp tN tF oN oF rN rF pN pF bN bF eN eF lo mT mO mW mR mP zT zO zX zB zL zR zP zQ lm) (gg_is (some (.int (nI mW))) (hp tN tF oN oF rN rF pN pF bN bF eN eF lo mT mO mW mR mP zT zO zX zB zL zR zP zQ lm)) := by
  refine gg_K.start (L := [some (.ref 14), some (.int 3)]) rfl (plainFor_of_name (by decide)) rfl (Nat.le_of_ble_eq_true rfl) ?_
  refine gg_iload_n 1 d_Mdl_count_0 rfl rfl ?_
  refine gg_tableIn (off := 46) 47 d_Mdl_count_1 (by decide) (by decide) (by decide) (by decide) ?_
  refine gg_aload_n 0 d_Mdl_count_47 rfl rfl ?_
  refine gg_get f_Mdl_64 d_Mdl_count_48 rfl rfl ?_
  exact gg_ireturn d_Mdl_count_51 rfl rfl ⟨rfl, rfl⟩
set_option maxHeartbeats 4000000 in
set_option maxRecDepth 100000 in
theorem c_Mdl_count_bad  {y : Int32} (hx : y.toInt < 0 ∨ 3 < y.toInt) : gg_K l D cA d y_Mdl_count b_Mdl_count 2 (some .int) [.ref 14, .int y] (hp tN tF oN oF rN rF pN pF bN bF eN eF lo mT mO mW mR mP zT zO zX zB zL zR zP zQ lm) (gg_is (some (.int (-1))) (hp tN tF oN oF rN rF pN pF bN bF eN eF lo mT mO mW mR mP zT zO zX zB zL zR zP zQ lm)) := by
  refine gg_K.start (L := [some (.ref 14), some (.int y)]) rfl (plainFor_of_name (by decide)) rfl (Nat.le_of_ble_eq_true rfl) ?_
  refine gg_iload_n 1 d_Mdl_count_0 rfl rfl ?_
  refine gg_tableOut 52 d_Mdl_count_1 hx (by decide) ?_
  refine gg_iconst (v := (-1)) d_Mdl_count_52 (by decide) ?_
  exact gg_ireturn d_Mdl_count_53 rfl rfl ⟨rfl, rfl⟩
end MDL
