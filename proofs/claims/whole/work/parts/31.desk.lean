theorem sp_z_le {f : Nat → Int32} {n w : Nat} (h : w ≤ n) : sp_z f n w = f := by
  rw [← sp_z_end (i := n) h (Or.inl (Nat.le_refl n)), sp_z_self]
theorem sp_lf_neg {f : Nat → Int32} {v : Int32} : ∀ {k : Nat}, k < 2 ^ 31 → sp_lf f v k < 0 → sp_lf f v k = -1
  | 0, _, _ => rfl
  | k + 1, hk, h => by
    unfold sp_lf at h ⊢
    by_cases q : f k = v
    · rw [if_pos q] at h
      exact absurd h (nI_pos (by omega))
    · rw [if_neg q] at h ⊢
      exact sp_lf_neg (by omega) h
theorem sp_ff_neg {f : Nat → Int32} {v : Int32} : ∀ {k i : Nat}, i + k < 2 ^ 31 → sp_ff f v k i < 0 → sp_ff f v k i = -1
  | 0, _, _, _ => rfl
  | k + 1, i, hk, h => by
    unfold sp_ff at h ⊢
    by_cases q : f i = v
    · rw [if_pos q] at h
      exact absurd h (nI_pos (by omega))
    · rw [if_neg q] at h ⊢
      exact sp_ff_neg (by omega) h
/-- a contract whose second argument is written otherwise -/
theorem gg_K.arg {l : Launch} {D : va_G} {cA : ClassId} {d : Nat} {y : MethodName} {cc : ByteArray} {nL : Nat} {rt : Option FieldType} {a : Value} {x x' : Int32} {av : List Value} {h : List gg_C} {Post : Option Value → List gg_C → Prop} (e : x = x') (hK : gg_K l D cA d y cc nL rt (a :: .int x :: av) h Post) : gg_K l D cA d y cc nL rt (a :: .int x' :: av) h Post := e ▸ hK
section DSK
variable {l : Launch} {D : va_G} {cA : ClassId} {d : Nat} {tN oN rN pN bN eN mT mO mW mR mP : Nat} {tF oF rF pF bF eF zT zO zX zB zL zR zP zQ : Nat → Int32} {lo lm : Int64}
set_option maxHeartbeats 4000000 in
set_option maxRecDepth 100000 in
theorem c_Dsk_addFourBytes  {x : Int32} (ht : tN + 4 ≤ 400) (hd : 1 ≤ d) : gg_K l D cA d y_Dsk_addFourBytes b_Dsk_addFourBytes 3 none [.ref 0, .int x] (hp tN tF oN oF rN rF pN pF bN bF eN eF lo mT mO mW mR mP zT zO zX zB zL zR zP zQ lm) (gg_is none (hp (tN + 4) (sp_fd tF tN x) oN oF rN rF pN pF bN bF eN eF lo mT mO mW mR mP zT zO zX zB zL zR zP zQ lm)) := by
  have loop : ∀ k : Nat, ∀ t, 4 - t = k → t ≤ 4 → gg_G l D cA d R_Dsk b_Dsk_addFourBytes 3 none (gg_is none (hp (tN + 4) (sp_fd tF tN x) oN oF rN rF pN pF bN bF eN eF lo mT mO mW mR mP zT zO zX zB zL zR zP zQ lm)) 3 [some (.ref 0), some (.int x), some (.int (sp_s t))] [] ((hp (tN + t) (sp_ft tF tN x t) oN oF rN rF pN pF bN bF eN eF lo mT mO mW mR mP zT zO zX zB zL zR zP zQ lm)) := by
    intro k
    induction k with
    | zero =>
      intro t hk ht4
      refine gg_iload_n 2 d_Dsk_addFourBytes_3 rfl rfl ?_
      refine gg_if_lt 27 d_Dsk_addFourBytes_4 (by decide) (fun c4 => ?_) (fun c4 => ?_)
      · exact gg_return d_Dsk_addFourBytes_27 rfl ⟨rfl, by rw [show t = 4 by omega]; rfl⟩
      · exact absurd (by rw [show t = 4 by omega]; decide) c4
    | succ k ih =>
      intro t hk ht4
      refine gg_iload_n 2 d_Dsk_addFourBytes_3 rfl rfl ?_
      refine gg_if_lt 27 d_Dsk_addFourBytes_4 (by decide) (fun c4 => ?_) (fun c4 => ?_)
      · exact absurd c4 (sp_s_pos t (by omega))
      · refine gg_aload_n 0 d_Dsk_addFourBytes_7 rfl rfl ?_
        refine gg_get f_Dsk_14 d_Dsk_addFourBytes_8 rfl rfl ?_
        refine gg_iload_n 1 d_Dsk_addFourBytes_11 rfl rfl ?_
        refine gg_iload_n 2 d_Dsk_addFourBytes_12 rfl rfl ?_
        refine gg_iushr d_Dsk_addFourBytes_13 rfl ?_
        refine gg_sipush (v := 255) d_Dsk_addFourBytes_14 (by decide) ?_
        refine gg_iand d_Dsk_addFourBytes_17 ?_
        rw [sp_byu x t (by omega)]
        refine gg_cv0 m_Dsk_49 d_Dsk_addFourBytes_18 (c_Row_add (d := 0) (hr_t (by omega)) (by omega)) rfl rfl rfl rfl (by omega) rfl (Nat.le_of_ble_eq_true rfl) ?_
        rw [sp_ft_step]
        show gg_G _ _ _ _ _ _ _ _ _ _ _ _ (hp (tN + t + 1) (sp_ft tF tN x (t + 1)) oN oF rN rF pN pF bN bF eN eF lo mT mO mW mR mP zT zO zX zB zL zR zP zQ lm)
        refine gg_iinc (-8) d_Dsk_addFourBytes_21 rfl (by decide) (by decide) rfl ?_
        dsimp only [List.set]
        refine gg_goto 3 d_Dsk_addFourBytes_24 (by decide) ?_
        rw [sp_s_next t (by omega)]
        exact ih (t + 1) (by omega) (by omega)
  refine gg_K.start (L := [some (.ref 0), some (.int x), none]) rfl (plainFor_of_name (by decide)) rfl (Nat.le_of_ble_eq_true rfl) ?_
  refine gg_bipush (v := 24) d_Dsk_addFourBytes_0 (by decide) ?_
  refine gg_istore_n 2 d_Dsk_addFourBytes_2 rfl (by decide) rfl ?_
  dsimp only [List.set]
  have e0 := loop 4 0 rfl (by decide)
  rw [sp_ft0] at e0
  exact e0
set_option maxHeartbeats 4000000 in
set_option maxRecDepth 100000 in
theorem c_Dsk_feed  {x1 x2 x3 x4 x5 : Int32} (ht : tN + 20 ≤ 400) (hd : 2 ≤ d) : gg_K l D cA d y_Dsk_feed b_Dsk_feed 6 (some .int) [.ref 0, .int x1, .int x2, .int x3, .int x4, .int x5] (hp tN tF oN oF rN rF pN pF bN bF eN eF lo mT mO mW mR mP zT zO zX zB zL zR zP zQ lm) (gg_is (some (.int (nI (tN + 4 + 4 + 4 + 4 + 4)))) (hp (tN + 4 + 4 + 4 + 4 + 4) (sp_fd (sp_fd (sp_fd (sp_fd (sp_fd tF tN x1) (tN + 4) x2) (tN + 4 + 4) x3) (tN + 4 + 4 + 4) x4) (tN + 4 + 4 + 4 + 4) x5) oN oF rN rF pN pF bN bF eN eF lo mT mO mW mR mP zT zO zX zB zL zR zP zQ lm)) := by
  refine gg_K.start (L := [some (.ref 0), some (.int x1), some (.int x2), some (.int x3), some (.int x4), some (.int x5)]) rfl (plainFor_of_name (by decide)) rfl (Nat.le_of_ble_eq_true rfl) ?_
  refine gg_aload_n 0 d_Dsk_feed_0 rfl rfl ?_
  refine gg_get f_Dsk_14 d_Dsk_feed_1 rfl rfl ?_
  refine gg_bipush (v := nI 20) d_Dsk_feed_4 (by decide) ?_
  refine gg_cv1 m_Dsk_38 d_Dsk_feed_6 (c_Row_room (d := 0) (hr_t (by omega)) (by decide)) rfl rfl rfl rfl (by omega) rfl (Nat.le_of_ble_eq_true rfl) ?_
  rw [sp_bt (show 20 + tN ≤ 400 by omega)]
  refine gg_if_ne 15 d_Dsk_feed_9 (by decide) (fun c9 => ?_) (fun c9 => ?_)
  · refine gg_aload_n 0 d_Dsk_feed_15 rfl rfl ?_
    refine gg_iload_n 1 d_Dsk_feed_16 rfl rfl ?_
    refine gg_cv0 m_Dsk_42 d_Dsk_feed_17 (c_Dsk_addFourBytes (d := 1) (by omega) (by omega)) rfl rfl rfl rfl (by omega) rfl (Nat.le_of_ble_eq_true rfl) ?_
    refine gg_aload_n 0 d_Dsk_feed_20 rfl rfl ?_
    refine gg_iload_n 2 d_Dsk_feed_21 rfl rfl ?_
    refine gg_cv0 m_Dsk_42 d_Dsk_feed_22 (c_Dsk_addFourBytes (d := 1) (by omega) (by omega)) rfl rfl rfl rfl (by omega) rfl (Nat.le_of_ble_eq_true rfl) ?_
    refine gg_aload_n 0 d_Dsk_feed_25 rfl rfl ?_
    refine gg_iload_n 3 d_Dsk_feed_26 rfl rfl ?_
    refine gg_cv0 m_Dsk_42 d_Dsk_feed_27 (c_Dsk_addFourBytes (d := 1) (by omega) (by omega)) rfl rfl rfl rfl (by omega) rfl (Nat.le_of_ble_eq_true rfl) ?_
    refine gg_aload_n 0 d_Dsk_feed_30 rfl rfl ?_
    refine gg_iload d_Dsk_feed_31 rfl ?_
    refine gg_cv0 m_Dsk_42 d_Dsk_feed_33 (c_Dsk_addFourBytes (d := 1) (by omega) (by omega)) rfl rfl rfl rfl (by omega) rfl (Nat.le_of_ble_eq_true rfl) ?_
    refine gg_aload_n 0 d_Dsk_feed_36 rfl rfl ?_
    refine gg_iload d_Dsk_feed_37 rfl ?_
    refine gg_cv0 m_Dsk_42 d_Dsk_feed_39 (c_Dsk_addFourBytes (d := 1) (by omega) (by omega)) rfl rfl rfl rfl (by omega) rfl (Nat.le_of_ble_eq_true rfl) ?_
    refine gg_aload_n 0 d_Dsk_feed_42 rfl rfl ?_
    refine gg_get f_Dsk_14 d_Dsk_feed_43 rfl rfl ?_
    refine gg_cv1 m_Dsk_45 d_Dsk_feed_46 (c_Row_length (d := 0) (hr_t (by omega))) rfl rfl rfl rfl (by omega) rfl (Nat.le_of_ble_eq_true rfl) ?_
    exact gg_ireturn d_Dsk_feed_49 rfl rfl ⟨rfl, rfl⟩
  · exact absurd c9 (by decide)
set_option maxHeartbeats 4000000 in
set_option maxRecDepth 100000 in
theorem c_Dsk_feed_full  {x1 x2 x3 x4 x5 : Int32} (ht : ¬ tN + 20 ≤ 400) (ht2 : tN ≤ 400) (hd : 2 ≤ d) : gg_K l D cA d y_Dsk_feed b_Dsk_feed 6 (some .int) [.ref 0, .int x1, .int x2, .int x3, .int x4, .int x5] (hp tN tF oN oF rN rF pN pF bN bF eN eF lo mT mO mW mR mP zT zO zX zB zL zR zP zQ lm) (gg_is (some (.int (-3))) (hp tN tF oN oF rN rF pN pF bN bF eN eF lo mT mO mW mR mP zT zO zX zB zL zR zP zQ lm)) := by
  refine gg_K.start (L := [some (.ref 0), some (.int x1), some (.int x2), some (.int x3), some (.int x4), some (.int x5)]) rfl (plainFor_of_name (by decide)) rfl (Nat.le_of_ble_eq_true rfl) ?_
  refine gg_aload_n 0 d_Dsk_feed_0 rfl rfl ?_
  refine gg_get f_Dsk_14 d_Dsk_feed_1 rfl rfl ?_
  refine gg_bipush (v := nI 20) d_Dsk_feed_4 (by decide) ?_
  refine gg_cv1 m_Dsk_38 d_Dsk_feed_6 (c_Row_room (d := 0) (hr_t (by omega)) (by decide)) rfl rfl rfl rfl (by omega) rfl (Nat.le_of_ble_eq_true rfl) ?_
  rw [sp_bf (show ¬ 20 + tN ≤ 400 by omega)]
  refine gg_if_ne 15 d_Dsk_feed_9 (by decide) (fun c9 => ?_) (fun c9 => ?_)
  · exact absurd rfl c9
  · refine gg_bipush (v := (-3)) d_Dsk_feed_12 (by decide) ?_
    exact gg_ireturn d_Dsk_feed_14 rfl rfl ⟨rfl, rfl⟩
set_option maxHeartbeats 4000000 in
set_option maxRecDepth 100000 in
theorem c_Dsk_end  {n : Nat} (hn : n ≤ tN) (ht : tN ≤ 400) (hd : 1 ≤ d) : gg_K l D cA d y_Dsk_end b_Dsk_end 2 (some .int) [.ref 0, .int (nI n)] (hp tN tF oN oF rN rF pN pF bN bF eN eF lo mT mO mW mR mP zT zO zX zB zL zR zP zQ lm) (gg_is (some (.int (nI n))) (hp n tF oN oF rN rF pN pF bN bF eN eF lo mT mO mW mR mP zT zO zX zB zL zR zP zQ lm)) := by
  refine gg_K.start (L := [some (.ref 0), some (.int (nI n))]) rfl (plainFor_of_name (by decide)) rfl (Nat.le_of_ble_eq_true rfl) ?_
  refine gg_iload_n 1 d_Dsk_end_0 rfl rfl ?_
  refine gg_if_lt 15 d_Dsk_end_1 (by decide) (fun c1 => ?_) (fun c1 => ?_)
  · exact absurd c1 (nI_pos (by omega))
  · refine gg_iload_n 1 d_Dsk_end_4 rfl rfl ?_
    refine gg_aload_n 0 d_Dsk_end_5 rfl rfl ?_
    refine gg_get f_Dsk_14 d_Dsk_end_6 rfl rfl ?_
    refine gg_cv1 m_Dsk_45 d_Dsk_end_9 (c_Row_length (d := 0) (hr_t (by omega))) rfl rfl rfl rfl (by omega) rfl (Nat.le_of_ble_eq_true rfl) ?_
    refine gg_icmp_le 17 d_Dsk_end_12 (by decide) (fun c12 => ?_) (fun c12 => ?_)
    · refine gg_aload_n 0 d_Dsk_end_17 rfl rfl ?_
      refine gg_get f_Dsk_14 d_Dsk_end_18 rfl rfl ?_
      refine gg_iload_n 1 d_Dsk_end_21 rfl rfl ?_
      refine gg_cv0 m_Dsk_52 d_Dsk_end_22 (c_Row_resize (d := 0) (hr_t ht) (by omega)) rfl rfl rfl rfl (by omega) rfl (Nat.le_of_ble_eq_true rfl) ?_
      rw [sp_z_le hn]
      show gg_G _ _ _ _ _ _ _ _ _ _ _ _ (hp n tF oN oF rN rF pN pF bN bF eN eF lo mT mO mW mR mP zT zO zX zB zL zR zP zQ lm)
      refine gg_iload_n 1 d_Dsk_end_25 rfl rfl ?_
      exact gg_ireturn d_Dsk_end_26 rfl rfl ⟨rfl, rfl⟩
    · exact absurd (nI_le hn (by omega)) c12
set_option maxHeartbeats 4000000 in
set_option maxRecDepth 100000 in
theorem c_Dsk_end_bad  {x : Int32} (hx : ¬ (0 ≤ x.toInt ∧ x.toInt ≤ (tN : Int))) (ht : tN ≤ 400) (hd : 1 ≤ d) : gg_K l D cA d y_Dsk_end b_Dsk_end 2 (some .int) [.ref 0, .int x] (hp tN tF oN oF rN rF pN pF bN bF eN eF lo mT mO mW mR mP zT zO zX zB zL zR zP zQ lm) (gg_is (some (.int (-1))) (hp tN tF oN oF rN rF pN pF bN bF eN eF lo mT mO mW mR mP zT zO zX zB zL zR zP zQ lm)) := by
  refine gg_K.start (L := [some (.ref 0), some (.int x)]) rfl (plainFor_of_name (by decide)) rfl (Nat.le_of_ble_eq_true rfl) ?_
  refine gg_iload_n 1 d_Dsk_end_0 rfl rfl ?_
  refine gg_if_lt 15 d_Dsk_end_1 (by decide) (fun c1 => ?_) (fun c1 => ?_)
  · refine gg_iconst (v := (-1)) d_Dsk_end_15 (by decide) ?_
    exact gg_ireturn d_Dsk_end_16 rfl rfl ⟨rfl, rfl⟩
  · refine gg_iload_n 1 d_Dsk_end_4 rfl rfl ?_
    refine gg_aload_n 0 d_Dsk_end_5 rfl rfl ?_
    refine gg_get f_Dsk_14 d_Dsk_end_6 rfl rfl ?_
    refine gg_cv1 m_Dsk_45 d_Dsk_end_9 (c_Row_length (d := 0) (hr_t (by omega))) rfl rfl rfl rfl (by omega) rfl (Nat.le_of_ble_eq_true rfl) ?_
    refine gg_icmp_le 17 d_Dsk_end_12 (by decide) (fun c12 => ?_) (fun c12 => ?_)
    · rw [sp_lt0] at c1
      rw [sp_nle (by omega)] at c12
      omega
    · refine gg_iconst (v := (-1)) d_Dsk_end_15 (by decide) ?_
      exact gg_ireturn d_Dsk_end_16 rfl rfl ⟨rfl, rfl⟩
set_option maxHeartbeats 4000000 in
set_option maxRecDepth 100000 in
theorem c_Dsk_octet_all   (ho : oN ≤ 536) (hd : 1 ≤ d) : gg_K l D cA d y_Dsk_octet b_Dsk_octet 2 (some .int) [.ref 0, .int (-1)] (hp tN tF oN oF rN rF pN pF bN bF eN eF lo mT mO mW mR mP zT zO zX zB zL zR zP zQ lm) (gg_is (some (.int (nI oN))) (hp tN tF oN oF rN rF pN pF bN bF eN eF lo mT mO mW mR mP zT zO zX zB zL zR zP zQ lm)) := by
  refine gg_K.start (L := [some (.ref 0), some (.int (-1))]) rfl (plainFor_of_name (by decide)) rfl (Nat.le_of_ble_eq_true rfl) ?_
  refine gg_iload_n 1 d_Dsk_octet_0 rfl rfl ?_
  refine gg_iconst (v := (-1)) d_Dsk_octet_1 (by decide) ?_
  refine gg_icmp_ne 13 d_Dsk_octet_2 (by decide) (fun c2 => ?_) (fun c2 => ?_)
  · exact absurd rfl c2
  · refine gg_aload_n 0 d_Dsk_octet_5 rfl rfl ?_
    refine gg_get f_Dsk_18 d_Dsk_octet_6 rfl rfl ?_
    refine gg_cv1 m_Dsk_45 d_Dsk_octet_9 (c_Row_length (d := 0) (hr_o (by omega))) rfl rfl rfl rfl (by omega) rfl (Nat.le_of_ble_eq_true rfl) ?_
    exact gg_ireturn d_Dsk_octet_12 rfl rfl ⟨rfl, rfl⟩
set_option maxHeartbeats 4000000 in
set_option maxRecDepth 100000 in
theorem c_Dsk_octet  {j : Nat} (hj : j < oN) (ho : oN ≤ 536) (hd : 1 ≤ d) : gg_K l D cA d y_Dsk_octet b_Dsk_octet 2 (some .int) [.ref 0, .int (nI j)] (hp tN tF oN oF rN rF pN pF bN bF eN eF lo mT mO mW mR mP zT zO zX zB zL zR zP zQ lm) (gg_is (some (.int (oF j))) (hp tN tF oN oF rN rF pN pF bN bF eN eF lo mT mO mW mR mP zT zO zX zB zL zR zP zQ lm)) := by
  refine gg_K.start (L := [some (.ref 0), some (.int (nI j))]) rfl (plainFor_of_name (by decide)) rfl (Nat.le_of_ble_eq_true rfl) ?_
  refine gg_iload_n 1 d_Dsk_octet_0 rfl rfl ?_
  refine gg_iconst (v := (-1)) d_Dsk_octet_1 (by decide) ?_
  refine gg_icmp_ne 13 d_Dsk_octet_2 (by decide) (fun c2 => ?_) (fun c2 => ?_)
  · refine gg_aload_n 0 d_Dsk_octet_13 rfl rfl ?_
    refine gg_get f_Dsk_18 d_Dsk_octet_14 rfl rfl ?_
    refine gg_iload_n 1 d_Dsk_octet_17 rfl rfl ?_
    refine gg_cv1 m_Dsk_104 d_Dsk_octet_18 (c_Row_has (d := 0) (hr_o ho)) rfl rfl rfl rfl (by omega) rfl (Nat.le_of_ble_eq_true rfl) ?_
    rw [sp_bt (sp_in_of hj (by omega))]
    refine gg_if_eq 35 d_Dsk_octet_21 (by decide) (fun c21 => ?_) (fun c21 => ?_)
    · exact absurd c21 (by decide)
    · refine gg_aload_n 0 d_Dsk_octet_24 rfl rfl ?_
      refine gg_get f_Dsk_18 d_Dsk_octet_25 rfl rfl ?_
      refine gg_iload_n 1 d_Dsk_octet_28 rfl rfl ?_
      refine gg_cv1 m_Dsk_80 d_Dsk_octet_29 (c_Row_at (d := 0) (hr_o ho) (by omega)) rfl rfl rfl rfl (by omega) rfl (Nat.le_of_ble_eq_true rfl) ?_
      refine gg_goto 36 d_Dsk_octet_32 (by decide) ?_
      exact gg_ireturn d_Dsk_octet_36 rfl rfl ⟨rfl, rfl⟩
  · exact absurd c2 (sp_m1 (by omega))
set_option maxHeartbeats 4000000 in
set_option maxRecDepth 100000 in
theorem c_Dsk_octet_bad  {x : Int32} (hx : ¬ x = -1) (hi : ¬ sp_in x oN) (ho : oN ≤ 536) (hd : 1 ≤ d) : gg_K l D cA d y_Dsk_octet b_Dsk_octet 2 (some .int) [.ref 0, .int x] (hp tN tF oN oF rN rF pN pF bN bF eN eF lo mT mO mW mR mP zT zO zX zB zL zR zP zQ lm) (gg_is (some (.int (-1))) (hp tN tF oN oF rN rF pN pF bN bF eN eF lo mT mO mW mR mP zT zO zX zB zL zR zP zQ lm)) := by
  refine gg_K.start (L := [some (.ref 0), some (.int x)]) rfl (plainFor_of_name (by decide)) rfl (Nat.le_of_ble_eq_true rfl) ?_
  refine gg_iload_n 1 d_Dsk_octet_0 rfl rfl ?_
  refine gg_iconst (v := (-1)) d_Dsk_octet_1 (by decide) ?_
  refine gg_icmp_ne 13 d_Dsk_octet_2 (by decide) (fun c2 => ?_) (fun c2 => ?_)
  · refine gg_aload_n 0 d_Dsk_octet_13 rfl rfl ?_
    refine gg_get f_Dsk_18 d_Dsk_octet_14 rfl rfl ?_
    refine gg_iload_n 1 d_Dsk_octet_17 rfl rfl ?_
    refine gg_cv1 m_Dsk_104 d_Dsk_octet_18 (c_Row_has (d := 0) (hr_o ho)) rfl rfl rfl rfl (by omega) rfl (Nat.le_of_ble_eq_true rfl) ?_
    rw [sp_bf hi]
    refine gg_if_eq 35 d_Dsk_octet_21 (by decide) (fun c21 => ?_) (fun c21 => ?_)
    · refine gg_iconst (v := (-1)) d_Dsk_octet_35 (by decide) ?_
      exact gg_ireturn d_Dsk_octet_36 rfl rfl ⟨rfl, rfl⟩
    · exact absurd rfl c21
  · exact absurd c2 hx
set_option maxHeartbeats 4000000 in
set_option maxRecDepth 100000 in
theorem c_Dsk_seed  {v : Int64}  : gg_K l D cA d y_Dsk_seed b_Dsk_seed 5 (some .long) [.ref 0, .long v] (hp tN tF oN oF rN rF pN pF bN bF eN eF lo mT mO mW mR mP zT zO zX zB zL zR zP zQ lm) (gg_is (some (.long lo)) (hp tN tF oN oF rN rF pN pF bN bF eN eF v mT mO mW mR mP zT zO zX zB zL zR zP zQ lm)) := by
  refine gg_K.start (L := [some (.ref 0), some (.long v), none, none, none]) rfl (plainFor_of_name (by decide)) rfl (Nat.le_of_ble_eq_true rfl) ?_
  refine gg_aload_n 0 d_Dsk_seed_0 rfl rfl ?_
  refine gg_get f_Dsk_34 d_Dsk_seed_1 rfl rfl ?_
  refine gg_lstore_n 3 d_Dsk_seed_4 rfl (by decide) rfl ?_
  dsimp only [List.set]
  refine gg_aload_n 0 d_Dsk_seed_5 rfl rfl ?_
  refine gg_lload_n 1 d_Dsk_seed_6 rfl rfl ?_
  refine gg_putl u_Dsk_34 d_Dsk_seed_7 rfl (Nat.le_of_ble_eq_true rfl) ?_
  dsimp only [List.set]
  show gg_G _ _ _ _ _ _ _ _ _ _ _ _ (hp tN tF oN oF rN rF pN pF bN bF eN eF v mT mO mW mR mP zT zO zX zB zL zR zP zQ lm)
  refine gg_lload_n 3 d_Dsk_seed_10 rfl rfl ?_
  exact gg_lreturn d_Dsk_seed_11 rfl ⟨rfl, rfl⟩
def sp_us (x : Int64) (y : Int32) : Int64 := (x.toUInt64 >>> (y.toInt64.toUInt64 &&& Int64.toUInt64 63)).toInt64
def sp_dr (a : Int64) : Int64 := ((((a ^^^ sp_us a 30) * (-4658895280553007687)) ^^^ sp_us ((a ^^^ sp_us a 30) * (-4658895280553007687)) 27) * (-7723592293110705685)) ^^^ sp_us ((((a ^^^ sp_us a 30) * (-4658895280553007687)) ^^^ sp_us ((a ^^^ sp_us a 30) * (-4658895280553007687)) 27) * (-7723592293110705685)) 31
set_option maxHeartbeats 4000000 in
set_option maxRecDepth 100000 in
theorem c_Dsk_draw    : gg_K l D cA d y_Dsk_draw b_Dsk_draw 3 (some .long) [.ref 0] (hp tN tF oN oF rN rF pN pF bN bF eN eF lo mT mO mW mR mP zT zO zX zB zL zR zP zQ lm) (gg_is (some (.long (sp_dr (lo + (-7046029254386353131))))) (hp tN tF oN oF rN rF pN pF bN bF eN eF (lo + (-7046029254386353131)) mT mO mW mR mP zT zO zX zB zL zR zP zQ lm)) := by
  refine gg_K.start (L := [some (.ref 0), none, none]) rfl (plainFor_of_name (by decide)) rfl (Nat.le_of_ble_eq_true rfl) ?_
  refine gg_aload_n 0 d_Dsk_draw_0 rfl rfl ?_
  refine gg_dup d_Dsk_draw_1 rfl ?_
  refine gg_get f_Dsk_34 d_Dsk_draw_2 rfl rfl ?_
  refine gg_ldc2 k_201 d_Dsk_draw_5 ?_
  refine gg_ladd d_Dsk_draw_8 ?_
  refine gg_putl u_Dsk_34 d_Dsk_draw_9 rfl (Nat.le_of_ble_eq_true rfl) ?_
  dsimp only [List.set]
  show gg_G _ _ _ _ _ _ _ _ _ _ _ _ (hp tN tF oN oF rN rF pN pF bN bF eN eF (lo + (-7046029254386353131)) mT mO mW mR mP zT zO zX zB zL zR zP zQ lm)
  refine gg_aload_n 0 d_Dsk_draw_12 rfl rfl ?_
  refine gg_get f_Dsk_34 d_Dsk_draw_13 rfl rfl ?_
  refine gg_lstore_n 1 d_Dsk_draw_16 rfl (by decide) rfl ?_
  dsimp only [List.set]
  refine gg_lload_n 1 d_Dsk_draw_17 rfl rfl ?_
  refine gg_lload_n 1 d_Dsk_draw_18 rfl rfl ?_
  refine gg_bipush (v := 30) d_Dsk_draw_19 (by decide) ?_
  refine gg_lushr d_Dsk_draw_21 rfl ?_
  refine gg_lxor d_Dsk_draw_22 ?_
  refine gg_ldc2 k_202 d_Dsk_draw_23 ?_
  refine gg_lmul d_Dsk_draw_26 ?_
  refine gg_lstore_n 1 d_Dsk_draw_27 rfl (by decide) rfl ?_
  dsimp only [List.set]
  refine gg_lload_n 1 d_Dsk_draw_28 rfl rfl ?_
  refine gg_lload_n 1 d_Dsk_draw_29 rfl rfl ?_
  refine gg_bipush (v := 27) d_Dsk_draw_30 (by decide) ?_
  refine gg_lushr d_Dsk_draw_32 rfl ?_
  refine gg_lxor d_Dsk_draw_33 ?_
  refine gg_ldc2 k_203 d_Dsk_draw_34 ?_
  refine gg_lmul d_Dsk_draw_37 ?_
  refine gg_lstore_n 1 d_Dsk_draw_38 rfl (by decide) rfl ?_
  dsimp only [List.set]
  refine gg_lload_n 1 d_Dsk_draw_39 rfl rfl ?_
  refine gg_lload_n 1 d_Dsk_draw_40 rfl rfl ?_
  refine gg_bipush (v := 31) d_Dsk_draw_41 (by decide) ?_
  refine gg_lushr d_Dsk_draw_43 rfl ?_
  refine gg_lxor d_Dsk_draw_44 ?_
  exact gg_lreturn d_Dsk_draw_45 rfl ⟨rfl, rfl⟩
set_option maxHeartbeats 4000000 in
set_option maxRecDepth 100000 in
theorem c_Dsk_push  {x : Int32} (hp0 : pN < 600) (hd : 1 ≤ d) : gg_K l D cA d y_Dsk_push b_Dsk_push 2 (some .int) [.ref 0, .int x] (hp tN tF oN oF rN rF pN pF bN bF eN eF lo mT mO mW mR mP zT zO zX zB zL zR zP zQ lm) (gg_is (some (.int (nI (pN + 1)))) (hp tN tF oN oF rN rF (pN + 1) (upd pF pN x) bN bF eN eF lo mT mO mW mR mP zT zO zX zB zL zR zP zQ lm)) := by
  refine gg_K.start (L := [some (.ref 0), some (.int x)]) rfl (plainFor_of_name (by decide)) rfl (Nat.le_of_ble_eq_true rfl) ?_
  refine gg_aload_n 0 d_Dsk_push_0 rfl rfl ?_
  refine gg_get f_Dsk_24 d_Dsk_push_1 rfl rfl ?_
  refine gg_iconst (v := nI 1) d_Dsk_push_4 (by decide) ?_
  refine gg_cv1 m_Dsk_38 d_Dsk_push_5 (c_Row_room (d := 0) (k := 1) (hr_p (by omega)) (by decide)) rfl rfl rfl rfl (by omega) rfl (Nat.le_of_ble_eq_true rfl) ?_
  rw [sp_bt (show 1 + pN ≤ 600 by omega)]
  refine gg_if_ne 14 d_Dsk_push_8 (by decide) (fun c8 => ?_) (fun c8 => ?_)
  · refine gg_aload_n 0 d_Dsk_push_14 rfl rfl ?_
    refine gg_get f_Dsk_24 d_Dsk_push_15 rfl rfl ?_
    refine gg_iload_n 1 d_Dsk_push_18 rfl rfl ?_
    refine gg_cv0 m_Dsk_49 d_Dsk_push_19 (c_Row_add (d := 0) (hr_p (by omega)) hp0) rfl rfl rfl rfl (by omega) rfl (Nat.le_of_ble_eq_true rfl) ?_
    show gg_G _ _ _ _ _ _ _ _ _ _ _ _ (hp tN tF oN oF rN rF (pN + 1) (upd pF pN x) bN bF eN eF lo mT mO mW mR mP zT zO zX zB zL zR zP zQ lm)
    refine gg_aload_n 0 d_Dsk_push_22 rfl rfl ?_
    refine gg_get f_Dsk_24 d_Dsk_push_23 rfl rfl ?_
    refine gg_cv1 m_Dsk_45 d_Dsk_push_26 (c_Row_length (d := 0) (hr_p (by omega))) rfl rfl rfl rfl (by omega) rfl (Nat.le_of_ble_eq_true rfl) ?_
    exact gg_ireturn d_Dsk_push_29 rfl rfl ⟨rfl, rfl⟩
  · exact absurd c8 (by decide)
set_option maxHeartbeats 4000000 in
set_option maxRecDepth 100000 in
theorem c_Dsk_push_full  {x : Int32} (hp0 : pN = 600) (hd : 1 ≤ d) : gg_K l D cA d y_Dsk_push b_Dsk_push 2 (some .int) [.ref 0, .int x] (hp tN tF oN oF rN rF pN pF bN bF eN eF lo mT mO mW mR mP zT zO zX zB zL zR zP zQ lm) (gg_is (some (.int (-3))) (hp tN tF oN oF rN rF pN pF bN bF eN eF lo mT mO mW mR mP zT zO zX zB zL zR zP zQ lm)) := by
  refine gg_K.start (L := [some (.ref 0), some (.int x)]) rfl (plainFor_of_name (by decide)) rfl (Nat.le_of_ble_eq_true rfl) ?_
  refine gg_aload_n 0 d_Dsk_push_0 rfl rfl ?_
  refine gg_get f_Dsk_24 d_Dsk_push_1 rfl rfl ?_
  refine gg_iconst (v := nI 1) d_Dsk_push_4 (by decide) ?_
  refine gg_cv1 m_Dsk_38 d_Dsk_push_5 (c_Row_room (d := 0) (k := 1) (hr_p (by omega)) (by decide)) rfl rfl rfl rfl (by omega) rfl (Nat.le_of_ble_eq_true rfl) ?_
  rw [sp_bf (show ¬ 1 + pN ≤ 600 by omega)]
  refine gg_if_ne 14 d_Dsk_push_8 (by decide) (fun c8 => ?_) (fun c8 => ?_)
  · exact absurd rfl c8
  · refine gg_bipush (v := (-3)) d_Dsk_push_11 (by decide) ?_
    exact gg_ireturn d_Dsk_push_13 rfl rfl ⟨rfl, rfl⟩
set_option maxHeartbeats 4000000 in
set_option maxRecDepth 100000 in
theorem c_Dsk_pop_none  {s : Int32} (hp0 : pN = 0) (hd : 1 ≤ d) : gg_K l D cA d y_Dsk_pop b_Dsk_pop 4 (some .long) [.ref 0, .int s] (hp tN tF oN oF rN rF pN pF bN bF eN eF lo mT mO mW mR mP zT zO zX zB zL zR zP zQ lm) (gg_is (some (.long 1099511627776)) (hp tN tF oN oF rN rF pN pF bN bF eN eF lo mT mO mW mR mP zT zO zX zB zL zR zP zQ lm)) := by
  refine gg_K.start (L := [some (.ref 0), some (.int s), none, none]) rfl (plainFor_of_name (by decide)) rfl (Nat.le_of_ble_eq_true rfl) ?_
  refine gg_aload_n 0 d_Dsk_pop_0 rfl rfl ?_
  refine gg_get f_Dsk_24 d_Dsk_pop_1 rfl rfl ?_
  refine gg_cv1 m_Dsk_45 d_Dsk_pop_4 (c_Row_length (d := 0) (hr_p (by omega))) rfl rfl rfl rfl (by omega) rfl (Nat.le_of_ble_eq_true rfl) ?_
  refine gg_iconst (v := 1) d_Dsk_pop_7 (by decide) ?_
  refine gg_isub d_Dsk_pop_8 ?_
  refine gg_istore_n 2 d_Dsk_pop_9 rfl (by decide) rfl ?_
  dsimp only [List.set]
  refine gg_iload_n 2 d_Dsk_pop_10 rfl rfl ?_
  refine gg_if_ge 18 d_Dsk_pop_11 (by decide) (fun c11 => ?_) (fun c11 => ?_)
  · exact absurd c11 (by rw [hp0]; decide)
  · refine gg_ldc2 k_136 d_Dsk_pop_14 ?_
    exact gg_lreturn d_Dsk_pop_17 rfl ⟨rfl, rfl⟩
set_option maxHeartbeats 4000000 in
set_option maxRecDepth 100000 in
theorem c_Dsk_pop  {s : Int32} (hp0 : 0 < pN) (hp1 : pN ≤ 600) (hs : s = 0) (hd : 1 ≤ d) : gg_K l D cA d y_Dsk_pop b_Dsk_pop 4 (some .long) [.ref 0, .int s] (hp tN tF oN oF rN rF pN pF bN bF eN eF lo mT mO mW mR mP zT zO zX zB zL zR zP zQ lm) (gg_is (some (.long (pF (pN - 1)).toInt64)) (hp tN tF oN oF rN rF (pN - 1) pF bN bF eN eF lo mT mO mW mR mP zT zO zX zB zL zR zP zQ lm)) := by
  refine gg_K.start (L := [some (.ref 0), some (.int s), none, none]) rfl (plainFor_of_name (by decide)) rfl (Nat.le_of_ble_eq_true rfl) ?_
  refine gg_aload_n 0 d_Dsk_pop_0 rfl rfl ?_
  refine gg_get f_Dsk_24 d_Dsk_pop_1 rfl rfl ?_
  refine gg_cv1 m_Dsk_45 d_Dsk_pop_4 (c_Row_length (d := 0) (hr_p (by omega))) rfl rfl rfl rfl (by omega) rfl (Nat.le_of_ble_eq_true rfl) ?_
  refine gg_iconst (v := 1) d_Dsk_pop_7 (by decide) ?_
  refine gg_isub d_Dsk_pop_8 ?_
  rw [sp_pred hp0]
  refine gg_istore_n 2 d_Dsk_pop_9 rfl (by decide) rfl ?_
  dsimp only [List.set]
  refine gg_iload_n 2 d_Dsk_pop_10 rfl rfl ?_
  refine gg_if_ge 18 d_Dsk_pop_11 (by decide) (fun c11 => ?_) (fun c11 => ?_)
  · refine gg_aload_n 0 d_Dsk_pop_18 rfl rfl ?_
    refine gg_get f_Dsk_24 d_Dsk_pop_19 rfl rfl ?_
    refine gg_iload_n 2 d_Dsk_pop_22 rfl rfl ?_
    refine gg_cv1 m_Dsk_80 d_Dsk_pop_23 (c_Row_at (d := 0) (hr_p hp1) (by omega)) rfl rfl rfl rfl (by omega) rfl (Nat.le_of_ble_eq_true rfl) ?_
    refine gg_istore_n 3 d_Dsk_pop_26 rfl (by decide) rfl ?_
    dsimp only [List.set]
    refine gg_iload_n 1 d_Dsk_pop_27 rfl rfl ?_
    refine gg_if_ne 39 d_Dsk_pop_28 (by decide) (fun c28 => ?_) (fun c28 => ?_)
    · exact absurd hs c28
    · refine gg_aload_n 0 d_Dsk_pop_31 rfl rfl ?_
      refine gg_get f_Dsk_24 d_Dsk_pop_32 rfl rfl ?_
      refine gg_iload_n 2 d_Dsk_pop_35 rfl rfl ?_
      refine gg_cv0 m_Dsk_52 d_Dsk_pop_36 (c_Row_resize (d := 0) (hr_p hp1) (by omega)) rfl rfl rfl rfl (by omega) rfl (Nat.le_of_ble_eq_true rfl) ?_
      rw [sp_z_le (by omega)]
      show gg_G _ _ _ _ _ _ _ _ _ _ _ _ (hp tN tF oN oF rN rF (pN - 1) pF bN bF eN eF lo mT mO mW mR mP zT zO zX zB zL zR zP zQ lm)
      refine gg_iload_n 3 d_Dsk_pop_39 rfl rfl ?_
      refine gg_i2l d_Dsk_pop_40 rfl ?_
      exact gg_lreturn d_Dsk_pop_41 rfl ⟨rfl, rfl⟩
  · exact absurd (nI_pos' (by omega)) c11
set_option maxHeartbeats 4000000 in
set_option maxRecDepth 100000 in
theorem c_Dsk_pop_stays  {s : Int32} (hp0 : 0 < pN) (hp1 : pN ≤ 600) (hs : ¬ s = 0) (hd : 1 ≤ d) : gg_K l D cA d y_Dsk_pop b_Dsk_pop 4 (some .long) [.ref 0, .int s] (hp tN tF oN oF rN rF pN pF bN bF eN eF lo mT mO mW mR mP zT zO zX zB zL zR zP zQ lm) (gg_is (some (.long (pF (pN - 1)).toInt64)) (hp tN tF oN oF rN rF pN pF bN bF eN eF lo mT mO mW mR mP zT zO zX zB zL zR zP zQ lm)) := by
  refine gg_K.start (L := [some (.ref 0), some (.int s), none, none]) rfl (plainFor_of_name (by decide)) rfl (Nat.le_of_ble_eq_true rfl) ?_
  refine gg_aload_n 0 d_Dsk_pop_0 rfl rfl ?_
  refine gg_get f_Dsk_24 d_Dsk_pop_1 rfl rfl ?_
  refine gg_cv1 m_Dsk_45 d_Dsk_pop_4 (c_Row_length (d := 0) (hr_p (by omega))) rfl rfl rfl rfl (by omega) rfl (Nat.le_of_ble_eq_true rfl) ?_
  refine gg_iconst (v := 1) d_Dsk_pop_7 (by decide) ?_
  refine gg_isub d_Dsk_pop_8 ?_
  rw [sp_pred hp0]
  refine gg_istore_n 2 d_Dsk_pop_9 rfl (by decide) rfl ?_
  dsimp only [List.set]
  refine gg_iload_n 2 d_Dsk_pop_10 rfl rfl ?_
  refine gg_if_ge 18 d_Dsk_pop_11 (by decide) (fun c11 => ?_) (fun c11 => ?_)
  · refine gg_aload_n 0 d_Dsk_pop_18 rfl rfl ?_
    refine gg_get f_Dsk_24 d_Dsk_pop_19 rfl rfl ?_
    refine gg_iload_n 2 d_Dsk_pop_22 rfl rfl ?_
    refine gg_cv1 m_Dsk_80 d_Dsk_pop_23 (c_Row_at (d := 0) (hr_p hp1) (by omega)) rfl rfl rfl rfl (by omega) rfl (Nat.le_of_ble_eq_true rfl) ?_
    refine gg_istore_n 3 d_Dsk_pop_26 rfl (by decide) rfl ?_
    dsimp only [List.set]
    refine gg_iload_n 1 d_Dsk_pop_27 rfl rfl ?_
    refine gg_if_ne 39 d_Dsk_pop_28 (by decide) (fun c28 => ?_) (fun c28 => ?_)
    · refine gg_iload_n 3 d_Dsk_pop_39 rfl rfl ?_
      refine gg_i2l d_Dsk_pop_40 rfl ?_
      exact gg_lreturn d_Dsk_pop_41 rfl ⟨rfl, rfl⟩
    · exact absurd c28 hs
  · exact absurd (nI_pos' (by omega)) c11
set_option maxHeartbeats 4000000 in
set_option maxRecDepth 100000 in
theorem c_Dsk_search  {v : Int32} (hp1 : pN ≤ 600) (hd : 1 ≤ d) : gg_K l D cA d y_Dsk_search b_Dsk_search 3 (some .int) [.ref 0, .int v] (hp tN tF oN oF rN rF pN pF bN bF eN eF lo mT mO mW mR mP zT zO zX zB zL zR zP zQ lm) (gg_is (some (.int (if sp_lf pF v pN < 0 then -1 else nI pN - sp_lf pF v pN))) (hp tN tF oN oF rN rF pN pF bN bF eN eF lo mT mO mW mR mP zT zO zX zB zL zR zP zQ lm)) := by
  refine gg_K.start (L := [some (.ref 0), some (.int v), none]) rfl (plainFor_of_name (by decide)) rfl (Nat.le_of_ble_eq_true rfl) ?_
  refine gg_aload_n 0 d_Dsk_search_0 rfl rfl ?_
  refine gg_get f_Dsk_24 d_Dsk_search_1 rfl rfl ?_
  refine gg_aload_n 0 d_Dsk_search_4 rfl rfl ?_
  refine gg_get f_Dsk_24 d_Dsk_search_5 rfl rfl ?_
  refine gg_cv1 m_Dsk_45 d_Dsk_search_8 (c_Row_length (d := 0) (hr_p (by omega))) rfl rfl rfl rfl (by omega) rfl (Nat.le_of_ble_eq_true rfl) ?_
  refine gg_iconst (v := 1) d_Dsk_search_11 (by decide) ?_
  refine gg_isub d_Dsk_search_12 ?_
  refine gg_iload_n 1 d_Dsk_search_13 rfl rfl ?_
  refine gg_cv1 m_Dsk_113 d_Dsk_search_14 (c_Row_lastUpTo (d := 0) (hr_p hp1) hp1) rfl rfl rfl rfl (by omega) rfl (Nat.le_of_ble_eq_true rfl) ?_
  refine gg_istore_n 2 d_Dsk_search_17 rfl (by decide) rfl ?_
  dsimp only [List.set]
  refine gg_iload_n 2 d_Dsk_search_18 rfl rfl ?_
  refine gg_if_ge 26 d_Dsk_search_19 (by decide) (fun c19 => ?_) (fun c19 => ?_)
  · rw [sp_le0] at c19
    rw [if_neg (by rw [sp_lt0]; omega)]
    refine gg_aload_n 0 d_Dsk_search_26 rfl rfl ?_
    refine gg_get f_Dsk_24 d_Dsk_search_27 rfl rfl ?_
    refine gg_cv1 m_Dsk_45 d_Dsk_search_30 (c_Row_length (d := 0) (hr_p (by omega))) rfl rfl rfl rfl (by omega) rfl (Nat.le_of_ble_eq_true rfl) ?_
    refine gg_iload_n 2 d_Dsk_search_33 rfl rfl ?_
    refine gg_isub d_Dsk_search_34 ?_
    exact gg_ireturn d_Dsk_search_35 rfl rfl ⟨rfl, rfl⟩
  · rw [sp_le0] at c19
    rw [if_pos (by rw [sp_lt0]; omega)]
    refine gg_iconst (v := (-1)) d_Dsk_search_22 (by decide) ?_
    refine gg_goto 35 d_Dsk_search_23 (by decide) ?_
    exact gg_ireturn d_Dsk_search_35 rfl rfl ⟨rfl, rfl⟩
set_option maxHeartbeats 4000000 in
set_option maxRecDepth 100000 in
theorem c_Dsk_insert  {i : Nat} {x : Int32} (hi : i ≤ rN) (h0 : rN < 600) (hd : 2 ≤ d) : gg_K l D cA d y_Dsk_insert b_Dsk_insert 3 (some .int) [.ref 0, .int (nI i), .int x] (hp tN tF oN oF rN rF pN pF bN bF eN eF lo mT mO mW mR mP zT zO zX zB zL zR zP zQ lm) (gg_is (some (.int (nI (rN + 1)))) (hp tN tF oN oF (rN + 1) (upd (va_cpy rF rF i (i + 1) (rN - i)) i x) pN pF bN bF eN eF lo mT mO mW mR mP zT zO zX zB zL zR zP zQ lm)) := by
  refine gg_K.start (L := [some (.ref 0), some (.int (nI i)), some (.int x)]) rfl (plainFor_of_name (by decide)) rfl (Nat.le_of_ble_eq_true rfl) ?_
  refine gg_iload_n 1 d_Dsk_insert_0 rfl rfl ?_
  refine gg_if_lt 15 d_Dsk_insert_1 (by decide) (fun c1 => ?_) (fun c1 => ?_)
  · exact absurd c1 (nI_pos (by omega))
  · refine gg_iload_n 1 d_Dsk_insert_4 rfl rfl ?_
    refine gg_aload_n 0 d_Dsk_insert_5 rfl rfl ?_
    refine gg_get f_Dsk_21 d_Dsk_insert_6 rfl rfl ?_
    refine gg_cv1 m_Dsk_45 d_Dsk_insert_9 (c_Row_length (d := 0) (hr_r (by omega))) rfl rfl rfl rfl (by omega) rfl (Nat.le_of_ble_eq_true rfl) ?_
    refine gg_icmp_le 17 d_Dsk_insert_12 (by decide) (fun c12 => ?_) (fun c12 => ?_)
    · refine gg_aload_n 0 d_Dsk_insert_17 rfl rfl ?_
      refine gg_get f_Dsk_21 d_Dsk_insert_18 rfl rfl ?_
      refine gg_iconst (v := nI 1) d_Dsk_insert_21 (by decide) ?_
      refine gg_cv1 m_Dsk_38 d_Dsk_insert_22 (c_Row_room (d := 0) (k := 1) (hr_r (by omega)) (by decide)) rfl rfl rfl rfl (by omega) rfl (Nat.le_of_ble_eq_true rfl) ?_
      rw [sp_bt (show 1 + rN ≤ 600 by omega)]
      refine gg_if_ne 31 d_Dsk_insert_25 (by decide) (fun c25 => ?_) (fun c25 => ?_)
      · refine gg_aload_n 0 d_Dsk_insert_31 rfl rfl ?_
        refine gg_get f_Dsk_21 d_Dsk_insert_32 rfl rfl ?_
        refine gg_iload_n 1 d_Dsk_insert_35 rfl rfl ?_
        refine gg_iload_n 2 d_Dsk_insert_36 rfl rfl ?_
        refine gg_cv0 m_Dsk_117 d_Dsk_insert_37 (c_Row_addAt (d := 1) (hr_r (by omega)) hi h0 (by omega)) rfl rfl rfl rfl (by omega) rfl (Nat.le_of_ble_eq_true rfl) ?_
        show gg_G _ _ _ _ _ _ _ _ _ _ _ _ (hp tN tF oN oF (rN + 1) (upd (va_cpy rF rF i (i + 1) (rN - i)) i x) pN pF bN bF eN eF lo mT mO mW mR mP zT zO zX zB zL zR zP zQ lm)
        refine gg_aload_n 0 d_Dsk_insert_40 rfl rfl ?_
        refine gg_get f_Dsk_21 d_Dsk_insert_41 rfl rfl ?_
        refine gg_cv1 m_Dsk_45 d_Dsk_insert_44 (c_Row_length (d := 0) (hr_r (by omega))) rfl rfl rfl rfl (by omega) rfl (Nat.le_of_ble_eq_true rfl) ?_
        exact gg_ireturn d_Dsk_insert_47 rfl rfl ⟨rfl, rfl⟩
      · exact absurd c25 (by decide)
    · exact absurd (nI_le hi (by omega)) c12
set_option maxHeartbeats 4000000 in
set_option maxRecDepth 100000 in
theorem c_Dsk_insert_full  {i : Nat} {x : Int32} (hi : i ≤ rN) (h0 : rN = 600) (hd : 2 ≤ d) : gg_K l D cA d y_Dsk_insert b_Dsk_insert 3 (some .int) [.ref 0, .int (nI i), .int x] (hp tN tF oN oF rN rF pN pF bN bF eN eF lo mT mO mW mR mP zT zO zX zB zL zR zP zQ lm) (gg_is (some (.int (-3))) (hp tN tF oN oF rN rF pN pF bN bF eN eF lo mT mO mW mR mP zT zO zX zB zL zR zP zQ lm)) := by
  refine gg_K.start (L := [some (.ref 0), some (.int (nI i)), some (.int x)]) rfl (plainFor_of_name (by decide)) rfl (Nat.le_of_ble_eq_true rfl) ?_
  refine gg_iload_n 1 d_Dsk_insert_0 rfl rfl ?_
  refine gg_if_lt 15 d_Dsk_insert_1 (by decide) (fun c1 => ?_) (fun c1 => ?_)
  · exact absurd c1 (nI_pos (by omega))
  · refine gg_iload_n 1 d_Dsk_insert_4 rfl rfl ?_
    refine gg_aload_n 0 d_Dsk_insert_5 rfl rfl ?_
    refine gg_get f_Dsk_21 d_Dsk_insert_6 rfl rfl ?_
    refine gg_cv1 m_Dsk_45 d_Dsk_insert_9 (c_Row_length (d := 0) (hr_r (by omega))) rfl rfl rfl rfl (by omega) rfl (Nat.le_of_ble_eq_true rfl) ?_
    refine gg_icmp_le 17 d_Dsk_insert_12 (by decide) (fun c12 => ?_) (fun c12 => ?_)
    · refine gg_aload_n 0 d_Dsk_insert_17 rfl rfl ?_
      refine gg_get f_Dsk_21 d_Dsk_insert_18 rfl rfl ?_
      refine gg_iconst (v := nI 1) d_Dsk_insert_21 (by decide) ?_
      refine gg_cv1 m_Dsk_38 d_Dsk_insert_22 (c_Row_room (d := 0) (k := 1) (hr_r (by omega)) (by decide)) rfl rfl rfl rfl (by omega) rfl (Nat.le_of_ble_eq_true rfl) ?_
      rw [sp_bf (show ¬ 1 + rN ≤ 600 by omega)]
      refine gg_if_ne 31 d_Dsk_insert_25 (by decide) (fun c25 => ?_) (fun c25 => ?_)
      · exact absurd rfl c25
      · refine gg_bipush (v := (-3)) d_Dsk_insert_28 (by decide) ?_
        exact gg_ireturn d_Dsk_insert_30 rfl rfl ⟨rfl, rfl⟩
    · exact absurd (nI_le hi (by omega)) c12
set_option maxHeartbeats 4000000 in
set_option maxRecDepth 100000 in
theorem c_Dsk_insert_bad  {y x : Int32} (hx : ¬ (0 ≤ y.toInt ∧ y.toInt ≤ (rN : Int))) (h0 : rN ≤ 600) (hd : 2 ≤ d) : gg_K l D cA d y_Dsk_insert b_Dsk_insert 3 (some .int) [.ref 0, .int y, .int x] (hp tN tF oN oF rN rF pN pF bN bF eN eF lo mT mO mW mR mP zT zO zX zB zL zR zP zQ lm) (gg_is (some (.int (-1))) (hp tN tF oN oF rN rF pN pF bN bF eN eF lo mT mO mW mR mP zT zO zX zB zL zR zP zQ lm)) := by
  refine gg_K.start (L := [some (.ref 0), some (.int y), some (.int x)]) rfl (plainFor_of_name (by decide)) rfl (Nat.le_of_ble_eq_true rfl) ?_
  refine gg_iload_n 1 d_Dsk_insert_0 rfl rfl ?_
  refine gg_if_lt 15 d_Dsk_insert_1 (by decide) (fun c1 => ?_) (fun c1 => ?_)
  · refine gg_iconst (v := (-1)) d_Dsk_insert_15 (by decide) ?_
    exact gg_ireturn d_Dsk_insert_16 rfl rfl ⟨rfl, rfl⟩
  · refine gg_iload_n 1 d_Dsk_insert_4 rfl rfl ?_
    refine gg_aload_n 0 d_Dsk_insert_5 rfl rfl ?_
    refine gg_get f_Dsk_21 d_Dsk_insert_6 rfl rfl ?_
    refine gg_cv1 m_Dsk_45 d_Dsk_insert_9 (c_Row_length (d := 0) (hr_r (by omega))) rfl rfl rfl rfl (by omega) rfl (Nat.le_of_ble_eq_true rfl) ?_
    refine gg_icmp_le 17 d_Dsk_insert_12 (by decide) (fun c12 => ?_) (fun c12 => ?_)
    · rw [sp_lt0] at c1
      rw [sp_nle (by omega)] at c12
      omega
    · refine gg_iconst (v := (-1)) d_Dsk_insert_15 (by decide) ?_
      exact gg_ireturn d_Dsk_insert_16 rfl rfl ⟨rfl, rfl⟩
set_option maxHeartbeats 4000000 in
set_option maxRecDepth 100000 in
theorem c_Dsk_remove  {j : Nat} (hj : j < rN) (h0 : rN ≤ 600) (hd : 2 ≤ d) : gg_K l D cA d y_Dsk_remove b_Dsk_remove 3 (some .long) [.ref 0, .int (nI j)] (hp tN tF oN oF rN rF pN pF bN bF eN eF lo mT mO mW mR mP zT zO zX zB zL zR zP zQ lm) (gg_is (some (.long (rF j).toInt64)) (hp tN tF oN oF (rN - 1) (va_cpy rF rF (j + 1) j (rN - j - 1)) pN pF bN bF eN eF lo mT mO mW mR mP zT zO zX zB zL zR zP zQ lm)) := by
  refine gg_K.start (L := [some (.ref 0), some (.int (nI j)), none]) rfl (plainFor_of_name (by decide)) rfl (Nat.le_of_ble_eq_true rfl) ?_
  refine gg_aload_n 0 d_Dsk_remove_0 rfl rfl ?_
  refine gg_get f_Dsk_21 d_Dsk_remove_1 rfl rfl ?_
  refine gg_iload_n 1 d_Dsk_remove_4 rfl rfl ?_
  refine gg_cv1 m_Dsk_104 d_Dsk_remove_5 (c_Row_has (d := 0) (hr_r h0)) rfl rfl rfl rfl (by omega) rfl (Nat.le_of_ble_eq_true rfl) ?_
  rw [sp_bt (sp_in_of hj (by omega))]
  refine gg_if_ne 15 d_Dsk_remove_8 (by decide) (fun c8 => ?_) (fun c8 => ?_)
  · refine gg_aload_n 0 d_Dsk_remove_15 rfl rfl ?_
    refine gg_get f_Dsk_21 d_Dsk_remove_16 rfl rfl ?_
    refine gg_iload_n 1 d_Dsk_remove_19 rfl rfl ?_
    refine gg_cv1 m_Dsk_80 d_Dsk_remove_20 (c_Row_at (d := 0) (hr_r h0) (by omega)) rfl rfl rfl rfl (by omega) rfl (Nat.le_of_ble_eq_true rfl) ?_
    refine gg_istore_n 2 d_Dsk_remove_23 rfl (by decide) rfl ?_
    dsimp only [List.set]
    refine gg_aload_n 0 d_Dsk_remove_24 rfl rfl ?_
    refine gg_get f_Dsk_21 d_Dsk_remove_25 rfl rfl ?_
    refine gg_iload_n 1 d_Dsk_remove_28 rfl rfl ?_
    refine gg_cv0 m_Dsk_121 d_Dsk_remove_29 (c_Row_dropAt (d := 1) (hr_r h0) hj (by omega)) rfl rfl rfl rfl (by omega) rfl (Nat.le_of_ble_eq_true rfl) ?_
    show gg_G _ _ _ _ _ _ _ _ _ _ _ _ (hp tN tF oN oF (rN - 1) (va_cpy rF rF (j + 1) j (rN - j - 1)) pN pF bN bF eN eF lo mT mO mW mR mP zT zO zX zB zL zR zP zQ lm)
    refine gg_iload_n 2 d_Dsk_remove_32 rfl rfl ?_
    refine gg_i2l d_Dsk_remove_33 rfl ?_
    exact gg_lreturn d_Dsk_remove_34 rfl ⟨rfl, rfl⟩
  · exact absurd c8 (by decide)
set_option maxHeartbeats 4000000 in
set_option maxRecDepth 100000 in
theorem c_Dsk_remove_bad  {y : Int32} (hi : ¬ sp_in y rN) (h0 : rN ≤ 600) (hd : 2 ≤ d) : gg_K l D cA d y_Dsk_remove b_Dsk_remove 3 (some .long) [.ref 0, .int y] (hp tN tF oN oF rN rF pN pF bN bF eN eF lo mT mO mW mR mP zT zO zX zB zL zR zP zQ lm) (gg_is (some (.long 1099511627776)) (hp tN tF oN oF rN rF pN pF bN bF eN eF lo mT mO mW mR mP zT zO zX zB zL zR zP zQ lm)) := by
  refine gg_K.start (L := [some (.ref 0), some (.int y), none]) rfl (plainFor_of_name (by decide)) rfl (Nat.le_of_ble_eq_true rfl) ?_
  refine gg_aload_n 0 d_Dsk_remove_0 rfl rfl ?_
  refine gg_get f_Dsk_21 d_Dsk_remove_1 rfl rfl ?_
  refine gg_iload_n 1 d_Dsk_remove_4 rfl rfl ?_
  refine gg_cv1 m_Dsk_104 d_Dsk_remove_5 (c_Row_has (d := 0) (hr_r h0)) rfl rfl rfl rfl (by omega) rfl (Nat.le_of_ble_eq_true rfl) ?_
  rw [sp_bf hi]
  refine gg_if_ne 15 d_Dsk_remove_8 (by decide) (fun c8 => ?_) (fun c8 => ?_)
  · exact absurd rfl c8
  · refine gg_ldc2 k_136 d_Dsk_remove_11 ?_
    exact gg_lreturn d_Dsk_remove_14 rfl ⟨rfl, rfl⟩
set_option maxHeartbeats 4000000 in
set_option maxRecDepth 100000 in
theorem c_Dsk_set  {j : Nat} {x : Int32} (hj : j < rN) (h0 : rN ≤ 600) (hd : 2 ≤ d) : gg_K l D cA d y_Dsk_set b_Dsk_set 4 (some .long) [.ref 0, .int (nI j), .int x] (hp tN tF oN oF rN rF pN pF bN bF eN eF lo mT mO mW mR mP zT zO zX zB zL zR zP zQ lm) (gg_is (some (.long (rF j).toInt64)) (hp tN tF oN oF rN (upd rF j x) pN pF bN bF eN eF lo mT mO mW mR mP zT zO zX zB zL zR zP zQ lm)) := by
  refine gg_K.start (L := [some (.ref 0), some (.int (nI j)), some (.int x), none]) rfl (plainFor_of_name (by decide)) rfl (Nat.le_of_ble_eq_true rfl) ?_
  refine gg_aload_n 0 d_Dsk_set_0 rfl rfl ?_
  refine gg_get f_Dsk_21 d_Dsk_set_1 rfl rfl ?_
  refine gg_iload_n 1 d_Dsk_set_4 rfl rfl ?_
  refine gg_cv1 m_Dsk_104 d_Dsk_set_5 (c_Row_has (d := 0) (hr_r h0)) rfl rfl rfl rfl (by omega) rfl (Nat.le_of_ble_eq_true rfl) ?_
  rw [sp_bt (sp_in_of hj (by omega))]
  refine gg_if_ne 15 d_Dsk_set_8 (by decide) (fun c8 => ?_) (fun c8 => ?_)
  · refine gg_aload_n 0 d_Dsk_set_15 rfl rfl ?_
    refine gg_get f_Dsk_21 d_Dsk_set_16 rfl rfl ?_
    refine gg_iload_n 1 d_Dsk_set_19 rfl rfl ?_
    refine gg_cv1 m_Dsk_80 d_Dsk_set_20 (c_Row_at (d := 0) (hr_r h0) (by omega)) rfl rfl rfl rfl (by omega) rfl (Nat.le_of_ble_eq_true rfl) ?_
    refine gg_istore_n 3 d_Dsk_set_23 rfl (by decide) rfl ?_
    dsimp only [List.set]
    refine gg_aload_n 0 d_Dsk_set_24 rfl rfl ?_
    refine gg_get f_Dsk_21 d_Dsk_set_25 rfl rfl ?_
    refine gg_iload_n 1 d_Dsk_set_28 rfl rfl ?_
    refine gg_iload_n 2 d_Dsk_set_29 rfl rfl ?_
    refine gg_cv0 m_Dsk_124 d_Dsk_set_30 (c_Row_put (d := 0) (hr_r h0) (by omega)) rfl rfl rfl rfl (by omega) rfl (Nat.le_of_ble_eq_true rfl) ?_
    show gg_G _ _ _ _ _ _ _ _ _ _ _ _ (hp tN tF oN oF rN (upd rF j x) pN pF bN bF eN eF lo mT mO mW mR mP zT zO zX zB zL zR zP zQ lm)
    refine gg_iload_n 3 d_Dsk_set_33 rfl rfl ?_
    refine gg_i2l d_Dsk_set_34 rfl ?_
    exact gg_lreturn d_Dsk_set_35 rfl ⟨rfl, rfl⟩
  · exact absurd c8 (by decide)
set_option maxHeartbeats 4000000 in
set_option maxRecDepth 100000 in
theorem c_Dsk_set_bad  {y x : Int32} (hi : ¬ sp_in y rN) (h0 : rN ≤ 600) (hd : 2 ≤ d) : gg_K l D cA d y_Dsk_set b_Dsk_set 4 (some .long) [.ref 0, .int y, .int x] (hp tN tF oN oF rN rF pN pF bN bF eN eF lo mT mO mW mR mP zT zO zX zB zL zR zP zQ lm) (gg_is (some (.long 1099511627776)) (hp tN tF oN oF rN rF pN pF bN bF eN eF lo mT mO mW mR mP zT zO zX zB zL zR zP zQ lm)) := by
  refine gg_K.start (L := [some (.ref 0), some (.int y), some (.int x), none]) rfl (plainFor_of_name (by decide)) rfl (Nat.le_of_ble_eq_true rfl) ?_
  refine gg_aload_n 0 d_Dsk_set_0 rfl rfl ?_
  refine gg_get f_Dsk_21 d_Dsk_set_1 rfl rfl ?_
  refine gg_iload_n 1 d_Dsk_set_4 rfl rfl ?_
  refine gg_cv1 m_Dsk_104 d_Dsk_set_5 (c_Row_has (d := 0) (hr_r h0)) rfl rfl rfl rfl (by omega) rfl (Nat.le_of_ble_eq_true rfl) ?_
  rw [sp_bf hi]
  refine gg_if_ne 15 d_Dsk_set_8 (by decide) (fun c8 => ?_) (fun c8 => ?_)
  · exact absurd rfl c8
  · refine gg_ldc2 k_136 d_Dsk_set_11 ?_
    exact gg_lreturn d_Dsk_set_14 rfl ⟨rfl, rfl⟩
set_option maxHeartbeats 4000000 in
set_option maxRecDepth 100000 in
theorem c_Dsk_get  {j : Nat} (hj : j < rN) (h0 : rN ≤ 600) (hd : 1 ≤ d) : gg_K l D cA d y_Dsk_get b_Dsk_get 2 (some .long) [.ref 0, .int (nI j)] (hp tN tF oN oF rN rF pN pF bN bF eN eF lo mT mO mW mR mP zT zO zX zB zL zR zP zQ lm) (gg_is (some (.long (rF j).toInt64)) (hp tN tF oN oF rN rF pN pF bN bF eN eF lo mT mO mW mR mP zT zO zX zB zL zR zP zQ lm)) := by
  refine gg_K.start (L := [some (.ref 0), some (.int (nI j))]) rfl (plainFor_of_name (by decide)) rfl (Nat.le_of_ble_eq_true rfl) ?_
  refine gg_aload_n 0 d_Dsk_get_0 rfl rfl ?_
  refine gg_get f_Dsk_21 d_Dsk_get_1 rfl rfl ?_
  refine gg_iload_n 1 d_Dsk_get_4 rfl rfl ?_
  refine gg_cv1 m_Dsk_104 d_Dsk_get_5 (c_Row_has (d := 0) (hr_r h0)) rfl rfl rfl rfl (by omega) rfl (Nat.le_of_ble_eq_true rfl) ?_
  rw [sp_bt (sp_in_of hj (by omega))]
  refine gg_if_eq 23 d_Dsk_get_8 (by decide) (fun c8 => ?_) (fun c8 => ?_)
  · exact absurd c8 (by decide)
  · refine gg_aload_n 0 d_Dsk_get_11 rfl rfl ?_
    refine gg_get f_Dsk_21 d_Dsk_get_12 rfl rfl ?_
    refine gg_iload_n 1 d_Dsk_get_15 rfl rfl ?_
    refine gg_cv1 m_Dsk_80 d_Dsk_get_16 (c_Row_at (d := 0) (hr_r h0) (by omega)) rfl rfl rfl rfl (by omega) rfl (Nat.le_of_ble_eq_true rfl) ?_
    refine gg_i2l d_Dsk_get_19 rfl ?_
    refine gg_goto 26 d_Dsk_get_20 (by decide) ?_
    exact gg_lreturn d_Dsk_get_26 rfl ⟨rfl, rfl⟩
set_option maxHeartbeats 4000000 in
set_option maxRecDepth 100000 in
theorem c_Dsk_get_bad  {y : Int32} (hi : ¬ sp_in y rN) (h0 : rN ≤ 600) (hd : 1 ≤ d) : gg_K l D cA d y_Dsk_get b_Dsk_get 2 (some .long) [.ref 0, .int y] (hp tN tF oN oF rN rF pN pF bN bF eN eF lo mT mO mW mR mP zT zO zX zB zL zR zP zQ lm) (gg_is (some (.long 1099511627776)) (hp tN tF oN oF rN rF pN pF bN bF eN eF lo mT mO mW mR mP zT zO zX zB zL zR zP zQ lm)) := by
  refine gg_K.start (L := [some (.ref 0), some (.int y)]) rfl (plainFor_of_name (by decide)) rfl (Nat.le_of_ble_eq_true rfl) ?_
  refine gg_aload_n 0 d_Dsk_get_0 rfl rfl ?_
  refine gg_get f_Dsk_21 d_Dsk_get_1 rfl rfl ?_
  refine gg_iload_n 1 d_Dsk_get_4 rfl rfl ?_
  refine gg_cv1 m_Dsk_104 d_Dsk_get_5 (c_Row_has (d := 0) (hr_r h0)) rfl rfl rfl rfl (by omega) rfl (Nat.le_of_ble_eq_true rfl) ?_
  rw [sp_bf hi]
  refine gg_if_eq 23 d_Dsk_get_8 (by decide) (fun c8 => ?_) (fun c8 => ?_)
  · refine gg_ldc2 k_136 d_Dsk_get_23 ?_
    exact gg_lreturn d_Dsk_get_26 rfl ⟨rfl, rfl⟩
  · exact absurd rfl c8
set_option maxHeartbeats 4000000 in
set_option maxRecDepth 100000 in
theorem c_Dsk_find_first  {v s : Int32} {j : Nat} (hs : s = 0) (hj : j < rN) (h0 : rN ≤ 600) (hd : 1 ≤ d) : gg_K l D cA d y_Dsk_find b_Dsk_find 5 (some .int) [.ref 0, .int v, .int (nI j), .int s] (hp tN tF oN oF rN rF pN pF bN bF eN eF lo mT mO mW mR mP zT zO zX zB zL zR zP zQ lm) (gg_is (some (.int (sp_ff rF v (rN - j) j))) (hp tN tF oN oF rN rF pN pF bN bF eN eF lo mT mO mW mR mP zT zO zX zB zL zR zP zQ lm)) := by
  refine gg_K.start (L := [some (.ref 0), some (.int v), some (.int (nI j)), some (.int s), none]) rfl (plainFor_of_name (by decide)) rfl (Nat.le_of_ble_eq_true rfl) ?_
  refine gg_aload_n 0 d_Dsk_find_0 rfl rfl ?_
  refine gg_get f_Dsk_21 d_Dsk_find_1 rfl rfl ?_
  refine gg_iload_n 2 d_Dsk_find_4 rfl rfl ?_
  refine gg_cv1 m_Dsk_104 d_Dsk_find_5 (c_Row_has (d := 0) (hr_r h0)) rfl rfl rfl rfl (by omega) rfl (Nat.le_of_ble_eq_true rfl) ?_
  rw [sp_bt (sp_in_of hj (by omega))]
  refine gg_if_ne 13 d_Dsk_find_8 (by decide) (fun c8 => ?_) (fun c8 => ?_)
  · refine gg_iload_n 3 d_Dsk_find_13 rfl rfl ?_
    refine gg_if_eq 29 d_Dsk_find_14 (by decide) (fun c14 => ?_) (fun c14 => ?_)
    · refine gg_aload_n 0 d_Dsk_find_29 rfl rfl ?_
      refine gg_get f_Dsk_21 d_Dsk_find_30 rfl rfl ?_
      refine gg_iload_n 2 d_Dsk_find_33 rfl rfl ?_
      refine gg_iload_n 1 d_Dsk_find_34 rfl rfl ?_
      refine gg_cv1 m_Dsk_127 d_Dsk_find_35 (c_Row_firstFrom (d := 0) (hr_r h0) (by omega)) rfl rfl rfl rfl (by omega) rfl (Nat.le_of_ble_eq_true rfl) ?_
      refine gg_istore d_Dsk_find_38 (by decide) rfl ?_
      dsimp only [List.set]
      refine gg_iload d_Dsk_find_40 rfl ?_
      refine gg_if_ge 49 d_Dsk_find_42 (by decide) (fun c42 => ?_) (fun c42 => ?_)
      · refine gg_iload d_Dsk_find_49 rfl ?_
        exact gg_ireturn d_Dsk_find_51 rfl rfl ⟨rfl, rfl⟩
      · rw [sp_le0] at c42
        rw [sp_ff_neg (by omega) (sp_lt0.mpr (by omega))]
        refine gg_iconst (v := (-1)) d_Dsk_find_45 (by decide) ?_
        refine gg_goto 51 d_Dsk_find_46 (by decide) ?_
        exact gg_ireturn d_Dsk_find_51 rfl rfl ⟨rfl, rfl⟩
    · exact absurd hs c14
  · exact absurd c8 (by decide)
set_option maxHeartbeats 4000000 in
set_option maxRecDepth 100000 in
theorem c_Dsk_find_last  {v s : Int32} {j : Nat} (hs : ¬ s = 0) (hj : j < rN) (h0 : rN ≤ 600) (hd : 1 ≤ d) : gg_K l D cA d y_Dsk_find b_Dsk_find 5 (some .int) [.ref 0, .int v, .int (nI j), .int s] (hp tN tF oN oF rN rF pN pF bN bF eN eF lo mT mO mW mR mP zT zO zX zB zL zR zP zQ lm) (gg_is (some (.int (sp_lf rF v (j + 1)))) (hp tN tF oN oF rN rF pN pF bN bF eN eF lo mT mO mW mR mP zT zO zX zB zL zR zP zQ lm)) := by
  refine gg_K.start (L := [some (.ref 0), some (.int v), some (.int (nI j)), some (.int s), none]) rfl (plainFor_of_name (by decide)) rfl (Nat.le_of_ble_eq_true rfl) ?_
  refine gg_aload_n 0 d_Dsk_find_0 rfl rfl ?_
  refine gg_get f_Dsk_21 d_Dsk_find_1 rfl rfl ?_
  refine gg_iload_n 2 d_Dsk_find_4 rfl rfl ?_
  refine gg_cv1 m_Dsk_104 d_Dsk_find_5 (c_Row_has (d := 0) (hr_r h0)) rfl rfl rfl rfl (by omega) rfl (Nat.le_of_ble_eq_true rfl) ?_
  rw [sp_bt (sp_in_of hj (by omega))]
  refine gg_if_ne 13 d_Dsk_find_8 (by decide) (fun c8 => ?_) (fun c8 => ?_)
  · refine gg_iload_n 3 d_Dsk_find_13 rfl rfl ?_
    refine gg_if_eq 29 d_Dsk_find_14 (by decide) (fun c14 => ?_) (fun c14 => ?_)
    · exact absurd c14 hs
    · refine gg_aload_n 0 d_Dsk_find_17 rfl rfl ?_
      refine gg_get f_Dsk_21 d_Dsk_find_18 rfl rfl ?_
      refine gg_iload_n 2 d_Dsk_find_21 rfl rfl ?_
      refine gg_iload_n 1 d_Dsk_find_22 rfl rfl ?_
      refine gg_cv1 m_Dsk_113 d_Dsk_find_23 (gg_K.arg (nI_pred j) (c_Row_lastUpTo (d := 0) (i0 := j + 1) (hr_r h0) (by omega))) rfl rfl rfl rfl (by omega) rfl (Nat.le_of_ble_eq_true rfl) ?_
      refine gg_goto 38 d_Dsk_find_26 (by decide) ?_
      refine gg_istore d_Dsk_find_38 (by decide) rfl ?_
      dsimp only [List.set]
      refine gg_iload d_Dsk_find_40 rfl ?_
      refine gg_if_ge 49 d_Dsk_find_42 (by decide) (fun c42 => ?_) (fun c42 => ?_)
      · refine gg_iload d_Dsk_find_49 rfl ?_
        exact gg_ireturn d_Dsk_find_51 rfl rfl ⟨rfl, rfl⟩
      · rw [sp_le0] at c42
        rw [sp_lf_neg (by omega) (sp_lt0.mpr (by omega))]
        refine gg_iconst (v := (-1)) d_Dsk_find_45 (by decide) ?_
        refine gg_goto 51 d_Dsk_find_46 (by decide) ?_
        exact gg_ireturn d_Dsk_find_51 rfl rfl ⟨rfl, rfl⟩
  · exact absurd c8 (by decide)
set_option maxHeartbeats 4000000 in
set_option maxRecDepth 100000 in
theorem c_Dsk_find_bad  {v s y : Int32} (hi : ¬ sp_in y rN) (h0 : rN ≤ 600) (hd : 1 ≤ d) : gg_K l D cA d y_Dsk_find b_Dsk_find 5 (some .int) [.ref 0, .int v, .int y, .int s] (hp tN tF oN oF rN rF pN pF bN bF eN eF lo mT mO mW mR mP zT zO zX zB zL zR zP zQ lm) (gg_is (some (.int (-1))) (hp tN tF oN oF rN rF pN pF bN bF eN eF lo mT mO mW mR mP zT zO zX zB zL zR zP zQ lm)) := by
  refine gg_K.start (L := [some (.ref 0), some (.int v), some (.int y), some (.int s), none]) rfl (plainFor_of_name (by decide)) rfl (Nat.le_of_ble_eq_true rfl) ?_
  refine gg_aload_n 0 d_Dsk_find_0 rfl rfl ?_
  refine gg_get f_Dsk_21 d_Dsk_find_1 rfl rfl ?_
  refine gg_iload_n 2 d_Dsk_find_4 rfl rfl ?_
  refine gg_cv1 m_Dsk_104 d_Dsk_find_5 (c_Row_has (d := 0) (hr_r h0)) rfl rfl rfl rfl (by omega) rfl (Nat.le_of_ble_eq_true rfl) ?_
  rw [sp_bf hi]
  refine gg_if_ne 13 d_Dsk_find_8 (by decide) (fun c8 => ?_) (fun c8 => ?_)
  · exact absurd rfl c8
  · refine gg_iconst (v := (-1)) d_Dsk_find_11 (by decide) ?_
    exact gg_ireturn d_Dsk_find_12 rfl rfl ⟨rfl, rfl⟩
set_option maxHeartbeats 4000000 in
set_option maxRecDepth 100000 in
theorem c_Dsk_size  {n : Nat} (hn : n ≤ 600) (h0 : rN ≤ 600) (hd : 1 ≤ d) : gg_K l D cA d y_Dsk_size b_Dsk_size 2 (some .int) [.ref 0, .int (nI n)] (hp tN tF oN oF rN rF pN pF bN bF eN eF lo mT mO mW mR mP zT zO zX zB zL zR zP zQ lm) (gg_is (some (.int (nI n))) (hp tN tF oN oF n (sp_z rF rN n) pN pF bN bF eN eF lo mT mO mW mR mP zT zO zX zB zL zR zP zQ lm)) := by
  refine gg_K.start (L := [some (.ref 0), some (.int (nI n))]) rfl (plainFor_of_name (by decide)) rfl (Nat.le_of_ble_eq_true rfl) ?_
  refine gg_iload_n 1 d_Dsk_size_0 rfl rfl ?_
  refine gg_if_lt 11 d_Dsk_size_1 (by decide) (fun c1 => ?_) (fun c1 => ?_)
  · exact absurd c1 (nI_pos (by omega))
  · refine gg_iload_n 1 d_Dsk_size_4 rfl rfl ?_
    refine gg_sipush (v := nI 600) d_Dsk_size_5 (by decide) ?_
    refine gg_icmp_le 13 d_Dsk_size_8 (by decide) (fun c8 => ?_) (fun c8 => ?_)
    · refine gg_aload_n 0 d_Dsk_size_13 rfl rfl ?_
      refine gg_get f_Dsk_21 d_Dsk_size_14 rfl rfl ?_
      refine gg_iload_n 1 d_Dsk_size_17 rfl rfl ?_
      refine gg_cv0 m_Dsk_52 d_Dsk_size_18 (c_Row_resize (d := 0) (hr_r h0) hn) rfl rfl rfl rfl (by omega) rfl (Nat.le_of_ble_eq_true rfl) ?_
      show gg_G _ _ _ _ _ _ _ _ _ _ _ _ (hp tN tF oN oF n (sp_z rF rN n) pN pF bN bF eN eF lo mT mO mW mR mP zT zO zX zB zL zR zP zQ lm)
      refine gg_iload_n 1 d_Dsk_size_21 rfl rfl ?_
      exact gg_ireturn d_Dsk_size_22 rfl rfl ⟨rfl, rfl⟩
    · exact absurd (nI_le hn (by omega)) c8
set_option maxHeartbeats 4000000 in
set_option maxRecDepth 100000 in
theorem c_Dsk_size_bad  {y : Int32} (hx : ¬ (0 ≤ y.toInt ∧ y.toInt ≤ 600)) (h0 : rN ≤ 600) (hd : 1 ≤ d) : gg_K l D cA d y_Dsk_size b_Dsk_size 2 (some .int) [.ref 0, .int y] (hp tN tF oN oF rN rF pN pF bN bF eN eF lo mT mO mW mR mP zT zO zX zB zL zR zP zQ lm) (gg_is (some (.int (-1))) (hp tN tF oN oF rN rF pN pF bN bF eN eF lo mT mO mW mR mP zT zO zX zB zL zR zP zQ lm)) := by
  refine gg_K.start (L := [some (.ref 0), some (.int y)]) rfl (plainFor_of_name (by decide)) rfl (Nat.le_of_ble_eq_true rfl) ?_
  refine gg_iload_n 1 d_Dsk_size_0 rfl rfl ?_
  refine gg_if_lt 11 d_Dsk_size_1 (by decide) (fun c1 => ?_) (fun c1 => ?_)
  · refine gg_iconst (v := (-1)) d_Dsk_size_11 (by decide) ?_
    exact gg_ireturn d_Dsk_size_12 rfl rfl ⟨rfl, rfl⟩
  · refine gg_iload_n 1 d_Dsk_size_4 rfl rfl ?_
    refine gg_sipush (v := nI 600) d_Dsk_size_5 (by decide) ?_
    refine gg_icmp_le 13 d_Dsk_size_8 (by decide) (fun c8 => ?_) (fun c8 => ?_)
    · rw [sp_lt0] at c1
      rw [sp_nle (by omega)] at c8
      omega
    · refine gg_iconst (v := (-1)) d_Dsk_size_11 (by decide) ?_
      exact gg_ireturn d_Dsk_size_12 rfl rfl ⟨rfl, rfl⟩
set_option maxHeartbeats 4000000 in
set_option maxRecDepth 100000 in
theorem c_Dsk_swap  {i j : Nat} (hi : i < rN) (hj : j < rN) (h0 : rN ≤ 600) (hd : 1 ≤ d) : gg_K l D cA d y_Dsk_swap b_Dsk_swap 3 (some .int) [.ref 0, .int (nI i), .int (nI j)] (hp tN tF oN oF rN rF pN pF bN bF eN eF lo mT mO mW mR mP zT zO zX zB zL zR zP zQ lm) (gg_is (some (.int 0)) (hp tN tF oN oF rN (upd (upd rF i (rF j)) j (rF i)) pN pF bN bF eN eF lo mT mO mW mR mP zT zO zX zB zL zR zP zQ lm)) := by
  refine gg_K.start (L := [some (.ref 0), some (.int (nI i)), some (.int (nI j))]) rfl (plainFor_of_name (by decide)) rfl (Nat.le_of_ble_eq_true rfl) ?_
  refine gg_aload_n 0 d_Dsk_swap_0 rfl rfl ?_
  refine gg_get f_Dsk_21 d_Dsk_swap_1 rfl rfl ?_
  refine gg_iload_n 1 d_Dsk_swap_4 rfl rfl ?_
  refine gg_cv1 m_Dsk_104 d_Dsk_swap_5 (c_Row_has (d := 0) (hr_r h0)) rfl rfl rfl rfl (by omega) rfl (Nat.le_of_ble_eq_true rfl) ?_
  rw [sp_bt (sp_in_of hi (by omega))]
  refine gg_if_eq 22 d_Dsk_swap_8 (by decide) (fun c8 => ?_) (fun c8 => ?_)
  · exact absurd c8 (by decide)
  · refine gg_aload_n 0 d_Dsk_swap_11 rfl rfl ?_
    refine gg_get f_Dsk_21 d_Dsk_swap_12 rfl rfl ?_
    refine gg_iload_n 2 d_Dsk_swap_15 rfl rfl ?_
    refine gg_cv1 m_Dsk_104 d_Dsk_swap_16 (c_Row_has (d := 0) (hr_r h0)) rfl rfl rfl rfl (by omega) rfl (Nat.le_of_ble_eq_true rfl) ?_
    rw [sp_bt (sp_in_of hj (by omega))]
    refine gg_if_ne 24 d_Dsk_swap_19 (by decide) (fun c19 => ?_) (fun c19 => ?_)
    · refine gg_aload_n 0 d_Dsk_swap_24 rfl rfl ?_
      refine gg_get f_Dsk_21 d_Dsk_swap_25 rfl rfl ?_
      refine gg_iload_n 1 d_Dsk_swap_28 rfl rfl ?_
      refine gg_iload_n 2 d_Dsk_swap_29 rfl rfl ?_
      refine gg_cv0 m_Dsk_143 d_Dsk_swap_30 (c_Row_exchange (d := 0) (hr_r h0) (by omega) (by omega)) rfl rfl rfl rfl (by omega) rfl (Nat.le_of_ble_eq_true rfl) ?_
      show gg_G _ _ _ _ _ _ _ _ _ _ _ _ (hp tN tF oN oF rN (upd (upd rF i (rF j)) j (rF i)) pN pF bN bF eN eF lo mT mO mW mR mP zT zO zX zB zL zR zP zQ lm)
      refine gg_iconst (v := 0) d_Dsk_swap_33 (by decide) ?_
      exact gg_ireturn d_Dsk_swap_34 rfl rfl ⟨rfl, rfl⟩
    · exact absurd c19 (by decide)
set_option maxHeartbeats 4000000 in
set_option maxRecDepth 100000 in
theorem c_Dsk_swap_bad  {x y : Int32} (hx : ¬ (sp_in x rN ∧ sp_in y rN)) (h0 : rN ≤ 600) (hd : 1 ≤ d) : gg_K l D cA d y_Dsk_swap b_Dsk_swap 3 (some .int) [.ref 0, .int x, .int y] (hp tN tF oN oF rN rF pN pF bN bF eN eF lo mT mO mW mR mP zT zO zX zB zL zR zP zQ lm) (gg_is (some (.int (-1))) (hp tN tF oN oF rN rF pN pF bN bF eN eF lo mT mO mW mR mP zT zO zX zB zL zR zP zQ lm)) := by
  refine gg_K.start (L := [some (.ref 0), some (.int x), some (.int y)]) rfl (plainFor_of_name (by decide)) rfl (Nat.le_of_ble_eq_true rfl) ?_
  refine gg_aload_n 0 d_Dsk_swap_0 rfl rfl ?_
  refine gg_get f_Dsk_21 d_Dsk_swap_1 rfl rfl ?_
  refine gg_iload_n 1 d_Dsk_swap_4 rfl rfl ?_
  refine gg_cv1 m_Dsk_104 d_Dsk_swap_5 (c_Row_has (d := 0) (hr_r h0)) rfl rfl rfl rfl (by omega) rfl (Nat.le_of_ble_eq_true rfl) ?_
  refine gg_if_eq 22 d_Dsk_swap_8 (by decide) (fun c8 => ?_) (fun c8 => ?_)
  · refine gg_iconst (v := (-1)) d_Dsk_swap_22 (by decide) ?_
    exact gg_ireturn d_Dsk_swap_23 rfl rfl ⟨rfl, rfl⟩
  · refine gg_aload_n 0 d_Dsk_swap_11 rfl rfl ?_
    refine gg_get f_Dsk_21 d_Dsk_swap_12 rfl rfl ?_
    refine gg_iload_n 2 d_Dsk_swap_15 rfl rfl ?_
    refine gg_cv1 m_Dsk_104 d_Dsk_swap_16 (c_Row_has (d := 0) (hr_r h0)) rfl rfl rfl rfl (by omega) rfl (Nat.le_of_ble_eq_true rfl) ?_
    refine gg_if_ne 24 d_Dsk_swap_19 (by decide) (fun c19 => ?_) (fun c19 => ?_)
    · exact absurd ⟨sp_b1 c8, sp_b1 c19⟩ hx
    · refine gg_iconst (v := (-1)) d_Dsk_swap_22 (by decide) ?_
      exact gg_ireturn d_Dsk_swap_23 rfl rfl ⟨rfl, rfl⟩
end DSK
