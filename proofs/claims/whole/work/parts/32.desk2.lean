/-- a row in which v is replaced by w below i -/
def sp_rp (f : Nat → Int32) (i : Nat) (v w : Int32) : Nat → Int32 := fun k => if k < i ∧ f k = v then w else f k
theorem sp_rp0 (f : Nat → Int32) (v w : Int32) : sp_rp f 0 v w = f := by
  funext k
  unfold sp_rp
  rw [if_neg (by omega)]
theorem sp_rp_at (f : Nat → Int32) (i : Nat) (v w : Int32) : sp_rp f i v w i = f i := by
  unfold sp_rp
  rw [if_neg (by omega)]
theorem sp_rp_is {f : Nat → Int32} {i : Nat} {v w : Int32} (h : f i = v) : upd (sp_rp f i v w) i w = sp_rp f (i + 1) v w := by
  funext k
  unfold upd sp_rp
  by_cases h1 : k = i
  · subst h1
    rw [if_pos rfl, if_pos ⟨by omega, h⟩]
  · rw [if_neg h1]
    by_cases h2 : k < i ∧ f k = v
    · rw [if_pos h2, if_pos ⟨by omega, h2.2⟩]
    · rw [if_neg h2, if_neg (fun q => h2 ⟨by omega, q.2⟩)]
theorem sp_rp_ne {f : Nat → Int32} {i : Nat} {v w : Int32} (h : ¬ f i = v) : sp_rp f i v w = sp_rp f (i + 1) v w := by
  funext k
  unfold sp_rp
  by_cases h2 : k < i ∧ f k = v
  · rw [if_pos h2, if_pos ⟨by omega, h2.2⟩]
  · rw [if_neg h2, if_neg (fun q => h2 ⟨by
      have : k ≠ i := fun e => h (e ▸ q.2)
      omega, q.2⟩)]
theorem sp_nb_le (f : Nat → Int32) (v : Int32) : ∀ k i, sp_nb f v k i ≤ i + k
  | 0, i => Nat.le_refl i
  | k + 1, i => by
    unfold sp_nb
    have := sp_nb_le f v k (i + 1)
    split <;> omega
section DSK2
variable {l : Launch} {D : va_G} {cA : ClassId} {d : Nat} {tN oN rN pN bN eN mT mO mW mR mP : Nat} {tF oF rF pF bF eF zT zO zX zB zL zR zP zQ : Nat → Int32} {lo lm : Int64}
set_option maxHeartbeats 4000000 in
set_option maxRecDepth 100000 in
theorem c_Wrd_howMany   (he : eN ≤ 400) (hd : 1 ≤ d) : gg_K l D cA d y_Wrd_howMany b_Wrd_howMany 1 (some .int) [.ref 9] (hp tN tF oN oF rN rF pN pF bN bF eN eF lo mT mO mW mR mP zT zO zX zB zL zR zP zQ lm) (gg_is (some (.int (nI eN))) (hp tN tF oN oF rN rF pN pF bN bF eN eF lo mT mO mW mR mP zT zO zX zB zL zR zP zQ lm)) := by
  refine gg_K.start (L := [some (.ref 9)]) rfl (plainFor_of_name (by decide)) rfl (Nat.le_of_ble_eq_true rfl) ?_
  refine gg_aload_n 0 d_Wrd_howMany_0 rfl rfl ?_
  refine gg_get f_Wrd_18 d_Wrd_howMany_1 rfl rfl ?_
  refine gg_cv1 m_Wrd_21 d_Wrd_howMany_4 (c_Row_length (d := 0) (hr_e (by omega))) rfl rfl rfl rfl (by omega) rfl (Nat.le_of_ble_eq_true rfl) ?_
  exact gg_ireturn d_Wrd_howMany_7 rfl rfl ⟨rfl, rfl⟩
set_option maxHeartbeats 4000000 in
set_option maxRecDepth 100000 in
theorem c_Dsk_turn0  {x : Int32} (h0 : rN ≤ 600) (hd : 2 ≤ d) : gg_K l D cA d y_Dsk_turn b_Dsk_turn 3 (some .int) [.ref 0, .int 0, .int x] (hp tN tF oN oF rN rF pN pF bN bF eN eF lo mT mO mW mR mP zT zO zX zB zL zR zP zQ lm) (gg_is (some (.int (nI rN))) (hp tN tF oN oF rN (sp_rv rF 0 rN) pN pF bN bF eN eF lo mT mO mW mR mP zT zO zX zB zL zR zP zQ lm)) := by
  refine gg_K.start (L := [some (.ref 0), some (.int 0), some (.int x)]) rfl (plainFor_of_name (by decide)) rfl (Nat.le_of_ble_eq_true rfl) ?_
  refine gg_iload_n 1 d_Dsk_turn_0 rfl rfl ?_
  refine gg_tableIn (off := 31) 32 d_Dsk_turn_1 (by decide) (by decide) (by decide) (by decide) ?_
  refine gg_aload_n 0 d_Dsk_turn_32 rfl rfl ?_
  refine gg_get f_Dsk_21 d_Dsk_turn_33 rfl rfl ?_
  refine gg_iconst (v := nI 0) d_Dsk_turn_36 (by decide) ?_
  refine gg_aload_n 0 d_Dsk_turn_37 rfl rfl ?_
  refine gg_get f_Dsk_21 d_Dsk_turn_38 rfl rfl ?_
  refine gg_cv1 m_Dsk_45 d_Dsk_turn_41 (c_Row_length (d := 0) (hr_r (by omega))) rfl rfl rfl rfl (by omega) rfl (Nat.le_of_ble_eq_true rfl) ?_
  refine gg_cv0 m_Dsk_130 d_Dsk_turn_44 (c_Row_reverse (d := 1) (hr_r h0) (Nat.zero_le _) h0 (by omega)) rfl rfl rfl rfl (by omega) rfl (Nat.le_of_ble_eq_true rfl) ?_
  show gg_G _ _ _ _ _ _ _ _ _ _ _ _ (hp tN tF oN oF rN (sp_rv rF 0 rN) pN pF bN bF eN eF lo mT mO mW mR mP zT zO zX zB zL zR zP zQ lm)
  refine gg_goto 116 d_Dsk_turn_47 (by decide) ?_
  refine gg_aload_n 0 d_Dsk_turn_116 rfl rfl ?_
  refine gg_get f_Dsk_21 d_Dsk_turn_117 rfl rfl ?_
  refine gg_cv1 m_Dsk_45 d_Dsk_turn_120 (c_Row_length (d := 0) (hr_r (by omega))) rfl rfl rfl rfl (by omega) rfl (Nat.le_of_ble_eq_true rfl) ?_
  exact gg_ireturn d_Dsk_turn_123 rfl rfl ⟨rfl, rfl⟩
set_option maxHeartbeats 4000000 in
set_option maxRecDepth 100000 in
theorem c_Dsk_turn1_none  {x : Int32} (h1 : rN = 0) (hd : 3 ≤ d) : gg_K l D cA d y_Dsk_turn b_Dsk_turn 3 (some .int) [.ref 0, .int 1, .int x] (hp tN tF oN oF rN rF pN pF bN bF eN eF lo mT mO mW mR mP zT zO zX zB zL zR zP zQ lm) (gg_is (some (.int (nI rN))) (hp tN tF oN oF rN rF pN pF bN bF eN eF lo mT mO mW mR mP zT zO zX zB zL zR zP zQ lm)) := by
  refine gg_K.start (L := [some (.ref 0), some (.int 1), some (.int x)]) rfl (plainFor_of_name (by decide)) rfl (Nat.le_of_ble_eq_true rfl) ?_
  refine gg_iload_n 1 d_Dsk_turn_0 rfl rfl ?_
  refine gg_tableIn (off := 49) 50 d_Dsk_turn_1 (by decide) (by decide) (by decide) (by decide) ?_
  refine gg_aload_n 0 d_Dsk_turn_50 rfl rfl ?_
  refine gg_get f_Dsk_21 d_Dsk_turn_51 rfl rfl ?_
  refine gg_iload_n 2 d_Dsk_turn_54 rfl rfl ?_
  refine gg_cv0 m_Dsk_133 d_Dsk_turn_55 (c_Row_rotate0 (d := 2) (hr_r (by omega)) h1) rfl rfl rfl rfl (by omega) rfl (Nat.le_of_ble_eq_true rfl) ?_
  refine gg_goto 116 d_Dsk_turn_58 (by decide) ?_
  refine gg_aload_n 0 d_Dsk_turn_116 rfl rfl ?_
  refine gg_get f_Dsk_21 d_Dsk_turn_117 rfl rfl ?_
  refine gg_cv1 m_Dsk_45 d_Dsk_turn_120 (c_Row_length (d := 0) (hr_r (by omega))) rfl rfl rfl rfl (by omega) rfl (Nat.le_of_ble_eq_true rfl) ?_
  exact gg_ireturn d_Dsk_turn_123 rfl rfl ⟨rfl, rfl⟩
set_option maxHeartbeats 4000000 in
set_option maxRecDepth 100000 in
theorem c_Dsk_turn1  {x : Int32} (h1 : 0 < rN) (h0 : rN ≤ 600) (hd : 3 ≤ d) : gg_K l D cA d y_Dsk_turn b_Dsk_turn 3 (some .int) [.ref 0, .int 1, .int x] (hp tN tF oN oF rN rF pN pF bN bF eN eF lo mT mO mW mR mP zT zO zX zB zL zR zP zQ lm) (gg_is (some (.int (nI rN))) (hp tN tF oN oF rN (sp_rv (sp_rv (sp_rv rF 0 rN) 0 (sp_fm x rN)) (sp_fm x rN) rN) pN pF bN bF eN eF lo mT mO mW mR mP zT zO zX zB zL zR zP zQ lm)) := by
  refine gg_K.start (L := [some (.ref 0), some (.int 1), some (.int x)]) rfl (plainFor_of_name (by decide)) rfl (Nat.le_of_ble_eq_true rfl) ?_
  refine gg_iload_n 1 d_Dsk_turn_0 rfl rfl ?_
  refine gg_tableIn (off := 49) 50 d_Dsk_turn_1 (by decide) (by decide) (by decide) (by decide) ?_
  refine gg_aload_n 0 d_Dsk_turn_50 rfl rfl ?_
  refine gg_get f_Dsk_21 d_Dsk_turn_51 rfl rfl ?_
  refine gg_iload_n 2 d_Dsk_turn_54 rfl rfl ?_
  refine gg_cv0 m_Dsk_133 d_Dsk_turn_55 (c_Row_rotate (d := 2) (hr_r h0) h1 (by omega)) rfl rfl rfl rfl (by omega) rfl (Nat.le_of_ble_eq_true rfl) ?_
  show gg_G _ _ _ _ _ _ _ _ _ _ _ _ (hp tN tF oN oF rN (sp_rv (sp_rv (sp_rv rF 0 rN) 0 (sp_fm x rN)) (sp_fm x rN) rN) pN pF bN bF eN eF lo mT mO mW mR mP zT zO zX zB zL zR zP zQ lm)
  refine gg_goto 116 d_Dsk_turn_58 (by decide) ?_
  refine gg_aload_n 0 d_Dsk_turn_116 rfl rfl ?_
  refine gg_get f_Dsk_21 d_Dsk_turn_117 rfl rfl ?_
  refine gg_cv1 m_Dsk_45 d_Dsk_turn_120 (c_Row_length (d := 0) (hr_r (by omega))) rfl rfl rfl rfl (by omega) rfl (Nat.le_of_ble_eq_true rfl) ?_
  exact gg_ireturn d_Dsk_turn_123 rfl rfl ⟨rfl, rfl⟩
set_option maxHeartbeats 4000000 in
set_option maxRecDepth 100000 in
theorem c_Dsk_turn2  {x : Int32} (h0 : rN ≤ 600) (hd : 3 ≤ d) : gg_K l D cA d y_Dsk_turn b_Dsk_turn 3 (some .int) [.ref 0, .int 2, .int x] (hp tN tF oN oF rN rF pN pF bN bF eN eF lo mT mO mW mR mP zT zO zX zB zL zR zP zQ lm) (gg_is (some (.int (nI rN))) (hp tN tF oN oF rN (sp_fl rF rN x) pN pF bN bF eN eF lo mT mO mW mR mP zT zO zX zB zL zR zP zQ lm)) := by
  refine gg_K.start (L := [some (.ref 0), some (.int 2), some (.int x)]) rfl (plainFor_of_name (by decide)) rfl (Nat.le_of_ble_eq_true rfl) ?_
  refine gg_iload_n 1 d_Dsk_turn_0 rfl rfl ?_
  refine gg_tableIn (off := 60) 61 d_Dsk_turn_1 (by decide) (by decide) (by decide) (by decide) ?_
  refine gg_aload_n 0 d_Dsk_turn_61 rfl rfl ?_
  refine gg_get f_Dsk_21 d_Dsk_turn_62 rfl rfl ?_
  refine gg_iload_n 2 d_Dsk_turn_65 rfl rfl ?_
  refine gg_cv0 m_Dsk_136 d_Dsk_turn_66 (c_Row_fill (d := 2) (hr_r h0) (by omega)) rfl rfl rfl rfl (by omega) rfl (Nat.le_of_ble_eq_true rfl) ?_
  show gg_G _ _ _ _ _ _ _ _ _ _ _ _ (hp tN tF oN oF rN (sp_fl rF rN x) pN pF bN bF eN eF lo mT mO mW mR mP zT zO zX zB zL zR zP zQ lm)
  refine gg_goto 116 d_Dsk_turn_69 (by decide) ?_
  refine gg_aload_n 0 d_Dsk_turn_116 rfl rfl ?_
  refine gg_get f_Dsk_21 d_Dsk_turn_117 rfl rfl ?_
  refine gg_cv1 m_Dsk_45 d_Dsk_turn_120 (c_Row_length (d := 0) (hr_r (by omega))) rfl rfl rfl rfl (by omega) rfl (Nat.le_of_ble_eq_true rfl) ?_
  exact gg_ireturn d_Dsk_turn_123 rfl rfl ⟨rfl, rfl⟩
set_option maxHeartbeats 4000000 in
set_option maxRecDepth 100000 in
theorem c_Dsk_turn3  {x : Int32} (h1 : pN + rN ≤ 600) (hd : 2 ≤ d) : gg_K l D cA d y_Dsk_turn b_Dsk_turn 3 (some .int) [.ref 0, .int 3, .int x] (hp tN tF oN oF rN rF pN pF bN bF eN eF lo mT mO mW mR mP zT zO zX zB zL zR zP zQ lm) (gg_is (some (.int (nI (rN + (pN - 0))))) (hp tN tF oN oF (rN + (pN - 0)) (va_cpy pF rF 0 rN (pN - 0)) pN pF bN bF eN eF lo mT mO mW mR mP zT zO zX zB zL zR zP zQ lm)) := by
  refine gg_K.start (L := [some (.ref 0), some (.int 3), some (.int x)]) rfl (plainFor_of_name (by decide)) rfl (Nat.le_of_ble_eq_true rfl) ?_
  refine gg_iload_n 1 d_Dsk_turn_0 rfl rfl ?_
  refine gg_tableIn (off := 71) 72 d_Dsk_turn_1 (by decide) (by decide) (by decide) (by decide) ?_
  refine gg_aload_n 0 d_Dsk_turn_72 rfl rfl ?_
  refine gg_get f_Dsk_21 d_Dsk_turn_73 rfl rfl ?_
  refine gg_aload_n 0 d_Dsk_turn_76 rfl rfl ?_
  refine gg_get f_Dsk_24 d_Dsk_turn_77 rfl rfl ?_
  refine gg_cv1 m_Dsk_45 d_Dsk_turn_80 (c_Row_length (d := 0) (hr_p (by omega))) rfl rfl rfl rfl (by omega) rfl (Nat.le_of_ble_eq_true rfl) ?_
  refine gg_cv1 m_Dsk_38 d_Dsk_turn_83 (c_Row_room (d := 0) (hr_r (by omega)) (by omega)) rfl rfl rfl rfl (by omega) rfl (Nat.le_of_ble_eq_true rfl) ?_
  rw [sp_bt h1]
  refine gg_if_ne 92 d_Dsk_turn_86 (by decide) (fun c86 => ?_) (fun c86 => ?_)
  · refine gg_aload_n 0 d_Dsk_turn_92 rfl rfl ?_
    refine gg_get f_Dsk_21 d_Dsk_turn_93 rfl rfl ?_
    refine gg_aload_n 0 d_Dsk_turn_96 rfl rfl ?_
    refine gg_get f_Dsk_24 d_Dsk_turn_97 rfl rfl ?_
    refine gg_iconst (v := nI 0) d_Dsk_turn_100 (by decide) ?_
    refine gg_aload_n 0 d_Dsk_turn_101 rfl rfl ?_
    refine gg_get f_Dsk_24 d_Dsk_turn_102 rfl rfl ?_
    refine gg_cv1 m_Dsk_45 d_Dsk_turn_105 (c_Row_length (d := 0) (hr_p (by omega))) rfl rfl rfl rfl (by omega) rfl (Nat.le_of_ble_eq_true rfl) ?_
    refine gg_cv0 m_Dsk_139 d_Dsk_turn_108 (c_Row_addPart (d := 1) (hr_r (by omega)) (hr_p (by omega)) (Nat.zero_le _) (by omega) (by omega) (by omega)) rfl rfl rfl rfl (by omega) rfl (Nat.le_of_ble_eq_true rfl) ?_
    show gg_G _ _ _ _ _ _ _ _ _ _ _ _ (hp tN tF oN oF (rN + (pN - 0)) (va_cpy pF rF 0 rN (pN - 0)) pN pF bN bF eN eF lo mT mO mW mR mP zT zO zX zB zL zR zP zQ lm)
    refine gg_goto 116 d_Dsk_turn_111 (by decide) ?_
    refine gg_aload_n 0 d_Dsk_turn_116 rfl rfl ?_
    refine gg_get f_Dsk_21 d_Dsk_turn_117 rfl rfl ?_
    refine gg_cv1 m_Dsk_45 d_Dsk_turn_120 (c_Row_length (d := 0) (hr_r (by omega))) rfl rfl rfl rfl (by omega) rfl (Nat.le_of_ble_eq_true rfl) ?_
    exact gg_ireturn d_Dsk_turn_123 rfl rfl ⟨rfl, rfl⟩
  · exact absurd c86 (by decide)
set_option maxHeartbeats 4000000 in
set_option maxRecDepth 100000 in
theorem c_Dsk_turn3_full  {x : Int32} (h1 : ¬ pN + rN ≤ 600) (h0 : rN ≤ 600) (h2 : pN ≤ 600) (hd : 2 ≤ d) : gg_K l D cA d y_Dsk_turn b_Dsk_turn 3 (some .int) [.ref 0, .int 3, .int x] (hp tN tF oN oF rN rF pN pF bN bF eN eF lo mT mO mW mR mP zT zO zX zB zL zR zP zQ lm) (gg_is (some (.int (-3))) (hp tN tF oN oF rN rF pN pF bN bF eN eF lo mT mO mW mR mP zT zO zX zB zL zR zP zQ lm)) := by
  refine gg_K.start (L := [some (.ref 0), some (.int 3), some (.int x)]) rfl (plainFor_of_name (by decide)) rfl (Nat.le_of_ble_eq_true rfl) ?_
  refine gg_iload_n 1 d_Dsk_turn_0 rfl rfl ?_
  refine gg_tableIn (off := 71) 72 d_Dsk_turn_1 (by decide) (by decide) (by decide) (by decide) ?_
  refine gg_aload_n 0 d_Dsk_turn_72 rfl rfl ?_
  refine gg_get f_Dsk_21 d_Dsk_turn_73 rfl rfl ?_
  refine gg_aload_n 0 d_Dsk_turn_76 rfl rfl ?_
  refine gg_get f_Dsk_24 d_Dsk_turn_77 rfl rfl ?_
  refine gg_cv1 m_Dsk_45 d_Dsk_turn_80 (c_Row_length (d := 0) (hr_p (by omega))) rfl rfl rfl rfl (by omega) rfl (Nat.le_of_ble_eq_true rfl) ?_
  refine gg_cv1 m_Dsk_38 d_Dsk_turn_83 (c_Row_room (d := 0) (hr_r (by omega)) (by omega)) rfl rfl rfl rfl (by omega) rfl (Nat.le_of_ble_eq_true rfl) ?_
  rw [sp_bf h1]
  refine gg_if_ne 92 d_Dsk_turn_86 (by decide) (fun c86 => ?_) (fun c86 => ?_)
  · exact absurd rfl c86
  · refine gg_bipush (v := (-3)) d_Dsk_turn_89 (by decide) ?_
    exact gg_ireturn d_Dsk_turn_91 rfl rfl ⟨rfl, rfl⟩
set_option maxHeartbeats 4000000 in
set_option maxRecDepth 100000 in
theorem c_Dsk_turn_bad  {x y : Int32} (hx : y.toInt < 0 ∨ 3 < y.toInt) : gg_K l D cA d y_Dsk_turn b_Dsk_turn 3 (some .int) [.ref 0, .int y, .int x] (hp tN tF oN oF rN rF pN pF bN bF eN eF lo mT mO mW mR mP zT zO zX zB zL zR zP zQ lm) (gg_is (some (.int (-1))) (hp tN tF oN oF rN rF pN pF bN bF eN eF lo mT mO mW mR mP zT zO zX zB zL zR zP zQ lm)) := by
  refine gg_K.start (L := [some (.ref 0), some (.int y), some (.int x)]) rfl (plainFor_of_name (by decide)) rfl (Nat.le_of_ble_eq_true rfl) ?_
  refine gg_iload_n 1 d_Dsk_turn_0 rfl rfl ?_
  refine gg_tableOut 114 d_Dsk_turn_1 hx (by decide) ?_
  refine gg_iconst (v := (-1)) d_Dsk_turn_114 (by decide) ?_
  exact gg_ireturn d_Dsk_turn_115 rfl rfl ⟨rfl, rfl⟩
set_option maxHeartbeats 4000000 in
set_option maxRecDepth 100000 in
theorem c_Dsk_tell0_none  {x : Int32} (h1 : rN = 0) (hd : 2 ≤ d) : gg_K l D cA d y_Dsk_tell b_Dsk_tell 3 (some .long) [.ref 0, .int 0, .int x] (hp tN tF oN oF rN rF pN pF bN bF eN eF lo mT mO mW mR mP zT zO zX zB zL zR zP zQ lm) (gg_is (some (.long 1099511627776)) (hp tN tF oN oF rN rF pN pF bN bF eN eF lo mT mO mW mR mP zT zO zX zB zL zR zP zQ lm)) := by
  refine gg_K.start (L := [some (.ref 0), some (.int 0), some (.int x)]) rfl (plainFor_of_name (by decide)) rfl (Nat.le_of_ble_eq_true rfl) ?_
  refine gg_iload_n 1 d_Dsk_tell_0 rfl rfl ?_
  refine gg_tableIn (off := 39) 40 d_Dsk_tell_1 (by decide) (by decide) (by decide) (by decide) ?_
  refine gg_aload_n 0 d_Dsk_tell_40 rfl rfl ?_
  refine gg_get f_Dsk_21 d_Dsk_tell_41 rfl rfl ?_
  refine gg_cv1 m_Dsk_45 d_Dsk_tell_44 (c_Row_length (d := 0) (hr_r (by omega))) rfl rfl rfl rfl (by omega) rfl (Nat.le_of_ble_eq_true rfl) ?_
  refine gg_if_ne 56 d_Dsk_tell_47 (by decide) (fun c47 => ?_) (fun c47 => ?_)
  · exact absurd (by rw [h1]; exact nI_0) c47
  · refine gg_ldc2 k_136 d_Dsk_tell_50 ?_
    refine gg_goto 64 d_Dsk_tell_53 (by decide) ?_
    exact gg_lreturn d_Dsk_tell_64 rfl ⟨rfl, rfl⟩
set_option maxHeartbeats 4000000 in
set_option maxRecDepth 100000 in
theorem c_Dsk_tell0  {x : Int32} (h1 : 0 < rN) (h0 : rN ≤ 600) (hd : 2 ≤ d) : gg_K l D cA d y_Dsk_tell b_Dsk_tell 3 (some .long) [.ref 0, .int 0, .int x] (hp tN tF oN oF rN rF pN pF bN bF eN eF lo mT mO mW mR mP zT zO zX zB zL zR zP zQ lm) (gg_is (some (.long (sp_mx rF rN).toInt64)) (hp tN tF oN oF rN rF pN pF bN bF eN eF lo mT mO mW mR mP zT zO zX zB zL zR zP zQ lm)) := by
  refine gg_K.start (L := [some (.ref 0), some (.int 0), some (.int x)]) rfl (plainFor_of_name (by decide)) rfl (Nat.le_of_ble_eq_true rfl) ?_
  refine gg_iload_n 1 d_Dsk_tell_0 rfl rfl ?_
  refine gg_tableIn (off := 39) 40 d_Dsk_tell_1 (by decide) (by decide) (by decide) (by decide) ?_
  refine gg_aload_n 0 d_Dsk_tell_40 rfl rfl ?_
  refine gg_get f_Dsk_21 d_Dsk_tell_41 rfl rfl ?_
  refine gg_cv1 m_Dsk_45 d_Dsk_tell_44 (c_Row_length (d := 0) (hr_r (by omega))) rfl rfl rfl rfl (by omega) rfl (Nat.le_of_ble_eq_true rfl) ?_
  refine gg_if_ne 56 d_Dsk_tell_47 (by decide) (fun c47 => ?_) (fun c47 => ?_)
  · refine gg_aload_n 0 d_Dsk_tell_56 rfl rfl ?_
    refine gg_get f_Dsk_21 d_Dsk_tell_57 rfl rfl ?_
    refine gg_cv1 m_Dsk_146 d_Dsk_tell_60 (c_Row_greatest (d := 1) (hr_r h0) (by omega)) rfl rfl rfl rfl (by omega) rfl (Nat.le_of_ble_eq_true rfl) ?_
    refine gg_i2l d_Dsk_tell_63 rfl ?_
    exact gg_lreturn d_Dsk_tell_64 rfl ⟨rfl, rfl⟩
  · exact absurd c47 (nI_ne0 h1 (by omega))
set_option maxHeartbeats 4000000 in
set_option maxRecDepth 100000 in
theorem c_Dsk_tell1_none  {x : Int32} (h1 : rN = 0) (hd : 2 ≤ d) : gg_K l D cA d y_Dsk_tell b_Dsk_tell 3 (some .long) [.ref 0, .int 1, .int x] (hp tN tF oN oF rN rF pN pF bN bF eN eF lo mT mO mW mR mP zT zO zX zB zL zR zP zQ lm) (gg_is (some (.long 1099511627776)) (hp tN tF oN oF rN rF pN pF bN bF eN eF lo mT mO mW mR mP zT zO zX zB zL zR zP zQ lm)) := by
  refine gg_K.start (L := [some (.ref 0), some (.int 1), some (.int x)]) rfl (plainFor_of_name (by decide)) rfl (Nat.le_of_ble_eq_true rfl) ?_
  refine gg_iload_n 1 d_Dsk_tell_0 rfl rfl ?_
  refine gg_tableIn (off := 64) 65 d_Dsk_tell_1 (by decide) (by decide) (by decide) (by decide) ?_
  refine gg_aload_n 0 d_Dsk_tell_65 rfl rfl ?_
  refine gg_get f_Dsk_21 d_Dsk_tell_66 rfl rfl ?_
  refine gg_cv1 m_Dsk_45 d_Dsk_tell_69 (c_Row_length (d := 0) (hr_r (by omega))) rfl rfl rfl rfl (by omega) rfl (Nat.le_of_ble_eq_true rfl) ?_
  refine gg_if_ne 81 d_Dsk_tell_72 (by decide) (fun c72 => ?_) (fun c72 => ?_)
  · exact absurd (by rw [h1]; exact nI_0) c72
  · refine gg_ldc2 k_136 d_Dsk_tell_75 ?_
    refine gg_goto 89 d_Dsk_tell_78 (by decide) ?_
    exact gg_lreturn d_Dsk_tell_89 rfl ⟨rfl, rfl⟩
set_option maxHeartbeats 4000000 in
set_option maxRecDepth 100000 in
theorem c_Dsk_tell1  {x : Int32} (h1 : 0 < rN) (h0 : rN ≤ 600) (hd : 2 ≤ d) : gg_K l D cA d y_Dsk_tell b_Dsk_tell 3 (some .long) [.ref 0, .int 1, .int x] (hp tN tF oN oF rN rF pN pF bN bF eN eF lo mT mO mW mR mP zT zO zX zB zL zR zP zQ lm) (gg_is (some (.long (sp_mn rF rN).toInt64)) (hp tN tF oN oF rN rF pN pF bN bF eN eF lo mT mO mW mR mP zT zO zX zB zL zR zP zQ lm)) := by
  refine gg_K.start (L := [some (.ref 0), some (.int 1), some (.int x)]) rfl (plainFor_of_name (by decide)) rfl (Nat.le_of_ble_eq_true rfl) ?_
  refine gg_iload_n 1 d_Dsk_tell_0 rfl rfl ?_
  refine gg_tableIn (off := 64) 65 d_Dsk_tell_1 (by decide) (by decide) (by decide) (by decide) ?_
  refine gg_aload_n 0 d_Dsk_tell_65 rfl rfl ?_
  refine gg_get f_Dsk_21 d_Dsk_tell_66 rfl rfl ?_
  refine gg_cv1 m_Dsk_45 d_Dsk_tell_69 (c_Row_length (d := 0) (hr_r (by omega))) rfl rfl rfl rfl (by omega) rfl (Nat.le_of_ble_eq_true rfl) ?_
  refine gg_if_ne 81 d_Dsk_tell_72 (by decide) (fun c72 => ?_) (fun c72 => ?_)
  · refine gg_aload_n 0 d_Dsk_tell_81 rfl rfl ?_
    refine gg_get f_Dsk_21 d_Dsk_tell_82 rfl rfl ?_
    refine gg_cv1 m_Dsk_149 d_Dsk_tell_85 (c_Row_least (d := 1) (hr_r h0) (by omega)) rfl rfl rfl rfl (by omega) rfl (Nat.le_of_ble_eq_true rfl) ?_
    refine gg_i2l d_Dsk_tell_88 rfl ?_
    exact gg_lreturn d_Dsk_tell_89 rfl ⟨rfl, rfl⟩
  · exact absurd c72 (nI_ne0 h1 (by omega))
set_option maxHeartbeats 4000000 in
set_option maxRecDepth 100000 in
theorem c_Dsk_tell2  {x : Int32} (h0 : rN ≤ 600) (hd : 2 ≤ d) : gg_K l D cA d y_Dsk_tell b_Dsk_tell 3 (some .long) [.ref 0, .int 2, .int x] (hp tN tF oN oF rN rF pN pF bN bF eN eF lo mT mO mW mR mP zT zO zX zB zL zR zP zQ lm) (gg_is (some (.long (nI (sp_ct rF x rN)).toInt64)) (hp tN tF oN oF rN rF pN pF bN bF eN eF lo mT mO mW mR mP zT zO zX zB zL zR zP zQ lm)) := by
  refine gg_K.start (L := [some (.ref 0), some (.int 2), some (.int x)]) rfl (plainFor_of_name (by decide)) rfl (Nat.le_of_ble_eq_true rfl) ?_
  refine gg_iload_n 1 d_Dsk_tell_0 rfl rfl ?_
  refine gg_tableIn (off := 89) 90 d_Dsk_tell_1 (by decide) (by decide) (by decide) (by decide) ?_
  refine gg_aload_n 0 d_Dsk_tell_90 rfl rfl ?_
  refine gg_get f_Dsk_21 d_Dsk_tell_91 rfl rfl ?_
  refine gg_iload_n 2 d_Dsk_tell_94 rfl rfl ?_
  refine gg_cv1 m_Dsk_152 d_Dsk_tell_95 (c_Row_howOften (d := 1) (hr_r h0)) rfl rfl rfl rfl (by omega) rfl (Nat.le_of_ble_eq_true rfl) ?_
  refine gg_i2l d_Dsk_tell_98 rfl ?_
  exact gg_lreturn d_Dsk_tell_99 rfl ⟨rfl, rfl⟩
set_option maxHeartbeats 4000000 in
set_option maxRecDepth 100000 in
theorem c_Dsk_tell3  {x : Int32} (h0 : rN ≤ 600) (h2 : pN ≤ 600) (hd : 2 ≤ d) : gg_K l D cA d y_Dsk_tell b_Dsk_tell 3 (some .long) [.ref 0, .int 3, .int x] (hp tN tF oN oF rN rF pN pF bN bF eN eF lo mT mO mW mR mP zT zO zX zB zL zR zP zQ lm) (gg_is (some (.long (if sp_sh rF rN pF pN 0 = 0 then 1 else 0))) (hp tN tF oN oF rN rF pN pF bN bF eN eF lo mT mO mW mR mP zT zO zX zB zL zR zP zQ lm)) := by
  refine gg_K.start (L := [some (.ref 0), some (.int 3), some (.int x)]) rfl (plainFor_of_name (by decide)) rfl (Nat.le_of_ble_eq_true rfl) ?_
  refine gg_iload_n 1 d_Dsk_tell_0 rfl rfl ?_
  refine gg_tableIn (off := 99) 100 d_Dsk_tell_1 (by decide) (by decide) (by decide) (by decide) ?_
  refine gg_aload_n 0 d_Dsk_tell_100 rfl rfl ?_
  refine gg_get f_Dsk_21 d_Dsk_tell_101 rfl rfl ?_
  refine gg_aload_n 0 d_Dsk_tell_104 rfl rfl ?_
  refine gg_get f_Dsk_24 d_Dsk_tell_105 rfl rfl ?_
  refine gg_cv1 m_Dsk_155 d_Dsk_tell_108 (c_Row_sharesWith (d := 1) (hr_r h0) (hr_p h2) (by omega)) rfl rfl rfl rfl (by omega) rfl (Nat.le_of_ble_eq_true rfl) ?_
  refine gg_if_eq 118 d_Dsk_tell_111 (by decide) (fun c111 => ?_) (fun c111 => ?_)
  · rw [if_pos c111]
    refine gg_lconst (v := 1) d_Dsk_tell_118 (by decide) ?_
    exact gg_lreturn d_Dsk_tell_119 rfl ⟨rfl, rfl⟩
  · rw [if_neg c111]
    refine gg_lconst (v := 0) d_Dsk_tell_114 (by decide) ?_
    refine gg_goto 119 d_Dsk_tell_115 (by decide) ?_
    exact gg_lreturn d_Dsk_tell_119 rfl ⟨rfl, rfl⟩
set_option maxHeartbeats 4000000 in
set_option maxRecDepth 100000 in
theorem c_Dsk_tell4  {x : Int32} (h0 : rN ≤ 600) (h2 : pN ≤ 600) (hd : 2 ≤ d) : gg_K l D cA d y_Dsk_tell b_Dsk_tell 3 (some .long) [.ref 0, .int 4, .int x] (hp tN tF oN oF rN rF pN pF bN bF eN eF lo mT mO mW mR mP zT zO zX zB zL zR zP zQ lm) (gg_is (some (.long (sp_fp rF pF pN (rN + 1 - pN) 0).toInt64)) (hp tN tF oN oF rN rF pN pF bN bF eN eF lo mT mO mW mR mP zT zO zX zB zL zR zP zQ lm)) := by
  refine gg_K.start (L := [some (.ref 0), some (.int 4), some (.int x)]) rfl (plainFor_of_name (by decide)) rfl (Nat.le_of_ble_eq_true rfl) ?_
  refine gg_iload_n 1 d_Dsk_tell_0 rfl rfl ?_
  refine gg_tableIn (off := 119) 120 d_Dsk_tell_1 (by decide) (by decide) (by decide) (by decide) ?_
  refine gg_aload_n 0 d_Dsk_tell_120 rfl rfl ?_
  refine gg_get f_Dsk_21 d_Dsk_tell_121 rfl rfl ?_
  refine gg_aload_n 0 d_Dsk_tell_124 rfl rfl ?_
  refine gg_get f_Dsk_24 d_Dsk_tell_125 rfl rfl ?_
  refine gg_cv1 m_Dsk_159 d_Dsk_tell_128 (c_Row_firstPlaceOfAll (d := 1) (hr_r h0) (hr_p h2) (by omega)) rfl rfl rfl rfl (by omega) rfl (Nat.le_of_ble_eq_true rfl) ?_
  refine gg_i2l d_Dsk_tell_131 rfl ?_
  exact gg_lreturn d_Dsk_tell_132 rfl ⟨rfl, rfl⟩
set_option maxHeartbeats 4000000 in
set_option maxRecDepth 100000 in
theorem c_Dsk_tell5  {x : Int32} (h0 : rN ≤ 600) (h2 : pN ≤ 600) (hd : 2 ≤ d) : gg_K l D cA d y_Dsk_tell b_Dsk_tell 3 (some .long) [.ref 0, .int 5, .int x] (hp tN tF oN oF rN rF pN pF bN bF eN eF lo mT mO mW mR mP zT zO zX zB zL zR zP zQ lm) (gg_is (some (.long (sp_lp rF pF pN (rN + 1 - pN)).toInt64)) (hp tN tF oN oF rN rF pN pF bN bF eN eF lo mT mO mW mR mP zT zO zX zB zL zR zP zQ lm)) := by
  refine gg_K.start (L := [some (.ref 0), some (.int 5), some (.int x)]) rfl (plainFor_of_name (by decide)) rfl (Nat.le_of_ble_eq_true rfl) ?_
  refine gg_iload_n 1 d_Dsk_tell_0 rfl rfl ?_
  refine gg_tableIn (off := 132) 133 d_Dsk_tell_1 (by decide) (by decide) (by decide) (by decide) ?_
  refine gg_aload_n 0 d_Dsk_tell_133 rfl rfl ?_
  refine gg_get f_Dsk_21 d_Dsk_tell_134 rfl rfl ?_
  refine gg_aload_n 0 d_Dsk_tell_137 rfl rfl ?_
  refine gg_get f_Dsk_24 d_Dsk_tell_138 rfl rfl ?_
  refine gg_cv1 m_Dsk_163 d_Dsk_tell_141 (c_Row_lastPlaceOfAll (d := 1) (hr_r h0) (hr_p h2) (by omega)) rfl rfl rfl rfl (by omega) rfl (Nat.le_of_ble_eq_true rfl) ?_
  refine gg_i2l d_Dsk_tell_144 rfl ?_
  exact gg_lreturn d_Dsk_tell_145 rfl ⟨rfl, rfl⟩
set_option maxHeartbeats 4000000 in
set_option maxRecDepth 100000 in
theorem c_Dsk_tell_bad  {x y : Int32} (hx : y.toInt < 0 ∨ 5 < y.toInt) : gg_K l D cA d y_Dsk_tell b_Dsk_tell 3 (some .long) [.ref 0, .int y, .int x] (hp tN tF oN oF rN rF pN pF bN bF eN eF lo mT mO mW mR mP zT zO zX zB zL zR zP zQ lm) (gg_is (some (.long 1099511627776)) (hp tN tF oN oF rN rF pN pF bN bF eN eF lo mT mO mW mR mP zT zO zX zB zL zR zP zQ lm)) := by
  refine gg_K.start (L := [some (.ref 0), some (.int y), some (.int x)]) rfl (plainFor_of_name (by decide)) rfl (Nat.le_of_ble_eq_true rfl) ?_
  refine gg_iload_n 1 d_Dsk_tell_0 rfl rfl ?_
  refine gg_tableOut 146 d_Dsk_tell_1 hx (by decide) ?_
  refine gg_ldc2 k_136 d_Dsk_tell_146 ?_
  exact gg_lreturn d_Dsk_tell_149 rfl ⟨rfl, rfl⟩
set_option maxHeartbeats 4000000 in
set_option maxRecDepth 100000 in
theorem c_Dsk_replace  {v w : Int32} (h0 : rN ≤ 600) (hd : 1 ≤ d) : gg_K l D cA d y_Dsk_replace b_Dsk_replace 5 (some .int) [.ref 0, .int v, .int w] (hp tN tF oN oF rN rF pN pF bN bF eN eF lo mT mO mW mR mP zT zO zX zB zL zR zP zQ lm) (gg_is (some (.int (nI (sp_ct rF v rN)))) (hp tN tF oN oF rN (sp_rp rF rN v w) pN pF bN bF eN eF lo mT mO mW mR mP zT zO zX zB zL zR zP zQ lm)) := by
  have loop : ∀ k : Nat, ∀ i, rN - i = k → i ≤ rN → gg_G l D cA d R_Dsk b_Dsk_replace 5 (some .int) (gg_is (some (.int (nI (sp_ct rF v rN)))) (hp tN tF oN oF rN (sp_rp rF rN v w) pN pF bN bF eN eF lo mT mO mW mR mP zT zO zX zB zL zR zP zQ lm)) 5 [some (.ref 0), some (.int v), some (.int w), some (.int (nI (sp_ct rF v i))), some (.int (nI i))] [] ((hp tN tF oN oF rN (sp_rp rF i v w) pN pF bN bF eN eF lo mT mO mW mR mP zT zO zX zB zL zR zP zQ lm)) := by
    intro k
    induction k with
    | zero =>
      intro i hk hi
      refine gg_iload d_Dsk_replace_5 rfl ?_
      refine gg_aload_n 0 d_Dsk_replace_7 rfl rfl ?_
      refine gg_get f_Dsk_21 d_Dsk_replace_8 rfl rfl ?_
      refine gg_cv1 m_Dsk_45 d_Dsk_replace_11 (c_Row_length (d := 0) (hr_r (by omega))) rfl rfl rfl rfl (by omega) rfl (Nat.le_of_ble_eq_true rfl) ?_
      refine gg_icmp_ge 49 d_Dsk_replace_14 (by decide) (fun c14 => ?_) (fun c14 => ?_)
      · refine gg_iload_n 3 d_Dsk_replace_49 rfl rfl ?_
        exact gg_ireturn d_Dsk_replace_50 rfl rfl ⟨by rw [show i = rN by omega], by rw [show i = rN by omega]⟩
      · exact absurd (nI_le (by omega) (by omega)) c14
    | succ k ih =>
      intro i hk hi
      refine gg_iload d_Dsk_replace_5 rfl ?_
      refine gg_aload_n 0 d_Dsk_replace_7 rfl rfl ?_
      refine gg_get f_Dsk_21 d_Dsk_replace_8 rfl rfl ?_
      refine gg_cv1 m_Dsk_45 d_Dsk_replace_11 (c_Row_length (d := 0) (hr_r (by omega))) rfl rfl rfl rfl (by omega) rfl (Nat.le_of_ble_eq_true rfl) ?_
      refine gg_icmp_ge 49 d_Dsk_replace_14 (by decide) (fun c14 => ?_) (fun c14 => ?_)
      · exact absurd c14 (nI_ge (by omega) (by omega))
      · refine gg_aload_n 0 d_Dsk_replace_17 rfl rfl ?_
        refine gg_get f_Dsk_21 d_Dsk_replace_18 rfl rfl ?_
        refine gg_iload d_Dsk_replace_21 rfl ?_
        refine gg_cv1 m_Dsk_80 d_Dsk_replace_23 (c_Row_at (d := 0) (hr_r h0) (by omega)) rfl rfl rfl rfl (by omega) rfl (Nat.le_of_ble_eq_true rfl) ?_
        rw [sp_rp_at]
        refine gg_iload_n 1 d_Dsk_replace_26 rfl rfl ?_
        refine gg_icmp_ne 43 d_Dsk_replace_27 (by decide) (fun c27 => ?_) (fun c27 => ?_)
        · have hc : sp_ct rF v (i + 1) = sp_ct rF v i := if_neg c27
          have hq := sp_rp_ne (w := w) c27
          rw [hq]
          refine gg_iinc (1) d_Dsk_replace_43 rfl (by decide) (by decide) rfl ?_
          dsimp only [List.set]
          refine gg_goto 5 d_Dsk_replace_46 (by decide) ?_
          simp only [nI_1]
          rw [← hc]
          exact ih (i + 1) (by omega) (by omega)
        · have hc : sp_ct rF v (i + 1) = sp_ct rF v i + 1 := if_pos c27
          have hq := sp_rp_is (w := w) c27
          refine gg_aload_n 0 d_Dsk_replace_30 rfl rfl ?_
          refine gg_get f_Dsk_21 d_Dsk_replace_31 rfl rfl ?_
          refine gg_iload d_Dsk_replace_34 rfl ?_
          refine gg_iload_n 2 d_Dsk_replace_36 rfl rfl ?_
          refine gg_cv0 m_Dsk_124 d_Dsk_replace_37 (c_Row_put (d := 0) (hr_r h0) (by omega)) rfl rfl rfl rfl (by omega) rfl (Nat.le_of_ble_eq_true rfl) ?_
          rw [hq]
          show gg_G _ _ _ _ _ _ _ _ _ _ _ _ (hp tN tF oN oF rN (sp_rp rF (i + 1) v w) pN pF bN bF eN eF lo mT mO mW mR mP zT zO zX zB zL zR zP zQ lm)
          refine gg_iinc (1) d_Dsk_replace_40 rfl (by decide) (by decide) rfl ?_
          dsimp only [List.set]
          refine gg_iinc (1) d_Dsk_replace_43 rfl (by decide) (by decide) rfl ?_
          dsimp only [List.set]
          refine gg_goto 5 d_Dsk_replace_46 (by decide) ?_
          simp only [nI_1]
          rw [← hc]
          exact ih (i + 1) (by omega) (by omega)
  refine gg_K.start (L := [some (.ref 0), some (.int v), some (.int w), none, none]) rfl (plainFor_of_name (by decide)) rfl (Nat.le_of_ble_eq_true rfl) ?_
  refine gg_iconst (v := 0) d_Dsk_replace_0 (by decide) ?_
  refine gg_istore_n 3 d_Dsk_replace_1 rfl (by decide) rfl ?_
  dsimp only [List.set]
  refine gg_iconst (v := 0) d_Dsk_replace_2 (by decide) ?_
  refine gg_istore d_Dsk_replace_3 (by decide) rfl ?_
  dsimp only [List.set]
  have e0 := loop rN 0 rfl (Nat.zero_le _)
  rw [sp_rp0] at e0
  exact e0
set_option maxHeartbeats 4000000 in
set_option maxRecDepth 100000 in
theorem c_Dsk_seek_bad  {v : Int32} (h1 : ¬ sp_up rF rN) (h0 : rN ≤ 600) (hd : 1 ≤ d) : gg_K l D cA d y_Dsk_seek b_Dsk_seek 4 (some .int) [.ref 0, .int v] (hp tN tF oN oF rN rF pN pF bN bF eN eF lo mT mO mW mR mP zT zO zX zB zL zR zP zQ lm) (gg_is (some (.int (-1000))) (hp tN tF oN oF rN rF pN pF bN bF eN eF lo mT mO mW mR mP zT zO zX zB zL zR zP zQ lm)) := by
  refine gg_K.start (L := [some (.ref 0), some (.int v), none, none]) rfl (plainFor_of_name (by decide)) rfl (Nat.le_of_ble_eq_true rfl) ?_
  refine gg_aload_n 0 d_Dsk_seek_0 rfl rfl ?_
  refine gg_get f_Dsk_21 d_Dsk_seek_1 rfl rfl ?_
  refine gg_cv1 m_Dsk_166 d_Dsk_seek_4 (c_Row_rises (d := 0) (hr_r h0)) rfl rfl rfl rfl (by omega) rfl (Nat.le_of_ble_eq_true rfl) ?_
  rw [sp_bf h1]
  refine gg_if_ne 14 d_Dsk_seek_7 (by decide) (fun c7 => ?_) (fun c7 => ?_)
  · exact absurd rfl c7
  · refine gg_sipush (v := (-1000)) d_Dsk_seek_10 (by decide) ?_
    exact gg_ireturn d_Dsk_seek_13 rfl rfl ⟨rfl, rfl⟩
set_option maxHeartbeats 4000000 in
set_option maxRecDepth 100000 in
theorem c_Dsk_seek  {v : Int32} {q : Nat} (h1 : sp_up rF rN) (hq : sp_nb rF v rN 0 = q) (h0 : rN ≤ 600) (hd : 1 ≤ d) : gg_K l D cA d y_Dsk_seek b_Dsk_seek 4 (some .int) [.ref 0, .int v] (hp tN tF oN oF rN rF pN pF bN bF eN eF lo mT mO mW mR mP zT zO zX zB zL zR zP zQ lm) (gg_is (some (.int (if q < rN ∧ rF q = v then nI q else -1 - nI q))) (hp tN tF oN oF rN rF pN pF bN bF eN eF lo mT mO mW mR mP zT zO zX zB zL zR zP zQ lm)) := by
  have hq2 := sp_nb_le rF v rN 0
  rw [hq] at hq2
  refine gg_K.start (L := [some (.ref 0), some (.int v), none, none]) rfl (plainFor_of_name (by decide)) rfl (Nat.le_of_ble_eq_true rfl) ?_
  refine gg_aload_n 0 d_Dsk_seek_0 rfl rfl ?_
  refine gg_get f_Dsk_21 d_Dsk_seek_1 rfl rfl ?_
  refine gg_cv1 m_Dsk_166 d_Dsk_seek_4 (c_Row_rises (d := 0) (hr_r h0)) rfl rfl rfl rfl (by omega) rfl (Nat.le_of_ble_eq_true rfl) ?_
  rw [sp_bt h1]
  refine gg_if_ne 14 d_Dsk_seek_7 (by decide) (fun c7 => ?_) (fun c7 => ?_)
  · refine gg_aload_n 0 d_Dsk_seek_14 rfl rfl ?_
    refine gg_get f_Dsk_21 d_Dsk_seek_15 rfl rfl ?_
    refine gg_iload_n 1 d_Dsk_seek_18 rfl rfl ?_
    refine gg_cv1 m_Dsk_170 d_Dsk_seek_19 (c_Row_firstNotBelow (d := 0) (hr_r h0)) rfl rfl rfl rfl (by omega) rfl (Nat.le_of_ble_eq_true rfl) ?_
    rw [hq]
    refine gg_istore_n 2 d_Dsk_seek_22 rfl (by decide) rfl ?_
    dsimp only [List.set]
    refine gg_aload_n 0 d_Dsk_seek_23 rfl rfl ?_
    refine gg_get f_Dsk_21 d_Dsk_seek_24 rfl rfl ?_
    refine gg_iload_n 2 d_Dsk_seek_27 rfl rfl ?_
    refine gg_cv1 m_Dsk_104 d_Dsk_seek_28 (c_Row_has (d := 0) (hr_r h0)) rfl rfl rfl rfl (by omega) rfl (Nat.le_of_ble_eq_true rfl) ?_
    refine gg_if_eq 50 d_Dsk_seek_31 (by decide) (fun c31 => ?_) (fun c31 => ?_)
    · have hb := sp_b0 c31
      have hc : ¬ (q < rN ∧ rF q = v) := fun z => hb (sp_in_of z.1 (by omega))
      refine gg_iconst (v := 0) d_Dsk_seek_50 (by decide) ?_
      refine gg_istore_n 3 d_Dsk_seek_51 rfl (by decide) rfl ?_
      dsimp only [List.set]
      refine gg_iload_n 3 d_Dsk_seek_52 rfl rfl ?_
      refine gg_if_eq 60 d_Dsk_seek_53 (by decide) (fun c53 => ?_) (fun c53 => ?_)
      · first
        | exact absurd c53 (by decide)
        | rw [if_neg hc]
          refine gg_iconst (v := (-1)) d_Dsk_seek_60 (by decide) ?_
          refine gg_iload_n 2 d_Dsk_seek_61 rfl rfl ?_
          refine gg_isub d_Dsk_seek_62 ?_
          exact gg_ireturn d_Dsk_seek_63 rfl rfl ⟨rfl, rfl⟩
      · first
        | exact absurd rfl c53
        | rw [if_pos hc]
          refine gg_iload_n 2 d_Dsk_seek_56 rfl rfl ?_
          refine gg_goto 63 d_Dsk_seek_57 (by decide) ?_
          exact gg_ireturn d_Dsk_seek_63 rfl rfl ⟨rfl, rfl⟩
    · have hb := sp_b1 c31
      have hlt : q < rN := by have := hb.2; rw [nI_toInt (by omega)] at this; omega
      refine gg_aload_n 0 d_Dsk_seek_34 rfl rfl ?_
      refine gg_get f_Dsk_21 d_Dsk_seek_35 rfl rfl ?_
      refine gg_iload_n 2 d_Dsk_seek_38 rfl rfl ?_
      refine gg_cv1 m_Dsk_80 d_Dsk_seek_39 (c_Row_at (d := 0) (hr_r h0) (by omega)) rfl rfl rfl rfl (by omega) rfl (Nat.le_of_ble_eq_true rfl) ?_
      refine gg_iload_n 1 d_Dsk_seek_42 rfl rfl ?_
      refine gg_icmp_ne 50 d_Dsk_seek_43 (by decide) (fun c43 => ?_) (fun c43 => ?_)
      · have hc : ¬ (q < rN ∧ rF q = v) := fun z => c43 z.2
        refine gg_iconst (v := 0) d_Dsk_seek_50 (by decide) ?_
        refine gg_istore_n 3 d_Dsk_seek_51 rfl (by decide) rfl ?_
        dsimp only [List.set]
        refine gg_iload_n 3 d_Dsk_seek_52 rfl rfl ?_
        refine gg_if_eq 60 d_Dsk_seek_53 (by decide) (fun c53 => ?_) (fun c53 => ?_)
        · first
          | exact absurd c53 (by decide)
          | rw [if_neg hc]
            refine gg_iconst (v := (-1)) d_Dsk_seek_60 (by decide) ?_
            refine gg_iload_n 2 d_Dsk_seek_61 rfl rfl ?_
            refine gg_isub d_Dsk_seek_62 ?_
            exact gg_ireturn d_Dsk_seek_63 rfl rfl ⟨rfl, rfl⟩
        · first
          | exact absurd rfl c53
          | rw [if_pos hc]
            refine gg_iload_n 2 d_Dsk_seek_56 rfl rfl ?_
            refine gg_goto 63 d_Dsk_seek_57 (by decide) ?_
            exact gg_ireturn d_Dsk_seek_63 rfl rfl ⟨rfl, rfl⟩
      · have hc : q < rN ∧ rF q = v := ⟨hlt, c43⟩
        refine gg_iconst (v := 1) d_Dsk_seek_46 (by decide) ?_
        refine gg_goto 51 d_Dsk_seek_47 (by decide) ?_
        refine gg_istore_n 3 d_Dsk_seek_51 rfl (by decide) rfl ?_
        dsimp only [List.set]
        refine gg_iload_n 3 d_Dsk_seek_52 rfl rfl ?_
        refine gg_if_eq 60 d_Dsk_seek_53 (by decide) (fun c53 => ?_) (fun c53 => ?_)
        · first
          | exact absurd c53 (by decide)
          | rw [if_neg hc]
            refine gg_iconst (v := (-1)) d_Dsk_seek_60 (by decide) ?_
            refine gg_iload_n 2 d_Dsk_seek_61 rfl rfl ?_
            refine gg_isub d_Dsk_seek_62 ?_
            exact gg_ireturn d_Dsk_seek_63 rfl rfl ⟨rfl, rfl⟩
        · first
          | exact absurd rfl c53
          | rw [if_pos hc]
            refine gg_iload_n 2 d_Dsk_seek_56 rfl rfl ?_
            refine gg_goto 63 d_Dsk_seek_57 (by decide) ?_
            exact gg_ireturn d_Dsk_seek_63 rfl rfl ⟨rfl, rfl⟩
  · exact absurd c7 (by decide)
set_option maxHeartbeats 4000000 in
set_option maxRecDepth 100000 in
theorem c_Dsk_count0   (h0 : rN ≤ 600) (hd : 1 ≤ d) : gg_K l D cA d y_Dsk_count b_Dsk_count 2 (some .int) [.ref 0, .int 0] (hp tN tF oN oF rN rF pN pF bN bF eN eF lo mT mO mW mR mP zT zO zX zB zL zR zP zQ lm) (gg_is (some (.int (nI rN))) (hp tN tF oN oF rN rF pN pF bN bF eN eF lo mT mO mW mR mP zT zO zX zB zL zR zP zQ lm)) := by
  refine gg_K.start (L := [some (.ref 0), some (.int 0)]) rfl (plainFor_of_name (by decide)) rfl (Nat.le_of_ble_eq_true rfl) ?_
  refine gg_iload_n 1 d_Dsk_count_0 rfl rfl ?_
  refine gg_tableIn (off := 31) 32 d_Dsk_count_1 (by decide) (by decide) (by decide) (by decide) ?_
  refine gg_aload_n 0 d_Dsk_count_32 rfl rfl ?_
  refine gg_get f_Dsk_21 d_Dsk_count_33 rfl rfl ?_
  refine gg_cv1 m_Dsk_45 d_Dsk_count_36 (c_Row_length (d := 0) (hr_r (by omega))) rfl rfl rfl rfl (by omega) rfl (Nat.le_of_ble_eq_true rfl) ?_
  exact gg_ireturn d_Dsk_count_39 rfl rfl ⟨rfl, rfl⟩
set_option maxHeartbeats 4000000 in
set_option maxRecDepth 100000 in
theorem c_Dsk_count1   (h0 : pN ≤ 600) (hd : 1 ≤ d) : gg_K l D cA d y_Dsk_count b_Dsk_count 2 (some .int) [.ref 0, .int 1] (hp tN tF oN oF rN rF pN pF bN bF eN eF lo mT mO mW mR mP zT zO zX zB zL zR zP zQ lm) (gg_is (some (.int (nI pN))) (hp tN tF oN oF rN rF pN pF bN bF eN eF lo mT mO mW mR mP zT zO zX zB zL zR zP zQ lm)) := by
  refine gg_K.start (L := [some (.ref 0), some (.int 1)]) rfl (plainFor_of_name (by decide)) rfl (Nat.le_of_ble_eq_true rfl) ?_
  refine gg_iload_n 1 d_Dsk_count_0 rfl rfl ?_
  refine gg_tableIn (off := 39) 40 d_Dsk_count_1 (by decide) (by decide) (by decide) (by decide) ?_
  refine gg_aload_n 0 d_Dsk_count_40 rfl rfl ?_
  refine gg_get f_Dsk_24 d_Dsk_count_41 rfl rfl ?_
  refine gg_cv1 m_Dsk_45 d_Dsk_count_44 (c_Row_length (d := 0) (hr_p (by omega))) rfl rfl rfl rfl (by omega) rfl (Nat.le_of_ble_eq_true rfl) ?_
  exact gg_ireturn d_Dsk_count_47 rfl rfl ⟨rfl, rfl⟩
set_option maxHeartbeats 4000000 in
set_option maxRecDepth 100000 in
theorem c_Dsk_count2   (h0 : tN ≤ 400) (hd : 1 ≤ d) : gg_K l D cA d y_Dsk_count b_Dsk_count 2 (some .int) [.ref 0, .int 2] (hp tN tF oN oF rN rF pN pF bN bF eN eF lo mT mO mW mR mP zT zO zX zB zL zR zP zQ lm) (gg_is (some (.int (nI tN))) (hp tN tF oN oF rN rF pN pF bN bF eN eF lo mT mO mW mR mP zT zO zX zB zL zR zP zQ lm)) := by
  refine gg_K.start (L := [some (.ref 0), some (.int 2)]) rfl (plainFor_of_name (by decide)) rfl (Nat.le_of_ble_eq_true rfl) ?_
  refine gg_iload_n 1 d_Dsk_count_0 rfl rfl ?_
  refine gg_tableIn (off := 47) 48 d_Dsk_count_1 (by decide) (by decide) (by decide) (by decide) ?_
  refine gg_aload_n 0 d_Dsk_count_48 rfl rfl ?_
  refine gg_get f_Dsk_14 d_Dsk_count_49 rfl rfl ?_
  refine gg_cv1 m_Dsk_45 d_Dsk_count_52 (c_Row_length (d := 0) (hr_t (by omega))) rfl rfl rfl rfl (by omega) rfl (Nat.le_of_ble_eq_true rfl) ?_
  exact gg_ireturn d_Dsk_count_55 rfl rfl ⟨rfl, rfl⟩
set_option maxHeartbeats 4000000 in
set_option maxRecDepth 100000 in
theorem c_Dsk_count3   (h0 : eN ≤ 400) (hd : 2 ≤ d) : gg_K l D cA d y_Dsk_count b_Dsk_count 2 (some .int) [.ref 0, .int 3] (hp tN tF oN oF rN rF pN pF bN bF eN eF lo mT mO mW mR mP zT zO zX zB zL zR zP zQ lm) (gg_is (some (.int (nI eN))) (hp tN tF oN oF rN rF pN pF bN bF eN eF lo mT mO mW mR mP zT zO zX zB zL zR zP zQ lm)) := by
  refine gg_K.start (L := [some (.ref 0), some (.int 3)]) rfl (plainFor_of_name (by decide)) rfl (Nat.le_of_ble_eq_true rfl) ?_
  refine gg_iload_n 1 d_Dsk_count_0 rfl rfl ?_
  refine gg_tableIn (off := 55) 56 d_Dsk_count_1 (by decide) (by decide) (by decide) (by decide) ?_
  refine gg_aload_n 0 d_Dsk_count_56 rfl rfl ?_
  refine gg_get f_Dsk_30 d_Dsk_count_57 rfl rfl ?_
  refine gg_cv1 m_Dsk_97 d_Dsk_count_60 (c_Wrd_howMany (d := 1) h0 (by omega)) rfl rfl rfl rfl (by omega) rfl (Nat.le_of_ble_eq_true rfl) ?_
  exact gg_ireturn d_Dsk_count_63 rfl rfl ⟨rfl, rfl⟩
set_option maxHeartbeats 4000000 in
set_option maxRecDepth 100000 in
theorem c_Dsk_count_bad  {y : Int32} (hx : y.toInt < 0 ∨ 3 < y.toInt) : gg_K l D cA d y_Dsk_count b_Dsk_count 2 (some .int) [.ref 0, .int y] (hp tN tF oN oF rN rF pN pF bN bF eN eF lo mT mO mW mR mP zT zO zX zB zL zR zP zQ lm) (gg_is (some (.int (-1))) (hp tN tF oN oF rN rF pN pF bN bF eN eF lo mT mO mW mR mP zT zO zX zB zL zR zP zQ lm)) := by
  refine gg_K.start (L := [some (.ref 0), some (.int y)]) rfl (plainFor_of_name (by decide)) rfl (Nat.le_of_ble_eq_true rfl) ?_
  refine gg_iload_n 1 d_Dsk_count_0 rfl rfl ?_
  refine gg_tableOut 64 d_Dsk_count_1 hx (by decide) ?_
  refine gg_iconst (v := (-1)) d_Dsk_count_64 (by decide) ?_
  exact gg_ireturn d_Dsk_count_65 rfl rfl ⟨rfl, rfl⟩
end DSK2
