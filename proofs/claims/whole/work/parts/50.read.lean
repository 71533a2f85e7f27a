section RDR
variable {l : Launch} {D : va_G} {cA : ClassId} {d : Nat} {tN oN rN pN bN eN mT mO mW mR mP : Nat} {tF oF rF pF bF eF zT zO zX zB zL zR zP zQ : Nat → Int32} {lo lm : Int64}
set_option maxHeartbeats 4000000 in
set_option maxRecDepth 100000 in
theorem c_Sig_leading  {s : Int32} {z : Bool} (hz : s = 0 ↔ z = true) (ht : tN ≤ 400) (hb : ck_o tF tN) (hd : 1 ≤ d) : gg_K l D cA d y_Sig_leading b_Sig_leading 3 (some .int) [.ref 1, .int s] (hp tN tF oN oF rN rF pN pF bN bF eN eF lo mT mO mW mR mP zT zO zX zB zL zR zP zQ lm) (gg_is (some (.int (nI (rd_l tF z tN 0)))) (hp tN tF oN oF rN rF pN pF bN bF eN eF lo mT mO mW mR mP zT zO zX zB zL zR zP zQ lm)) := by
  have loop : ∀ k : Nat, ∀ i, tN - i = k → i ≤ tN → gg_G l D cA d R_Sig b_Sig_leading 3 (some .int) (gg_is (some (.int (nI (rd_l tF z k i)))) (hp tN tF oN oF rN rF pN pF bN bF eN eF lo mT mO mW mR mP zT zO zX zB zL zR zP zQ lm)) 2 [some (.ref 1), some (.int s), some (.int (nI i))] [] ((hp tN tF oN oF rN rF pN pF bN bF eN eF lo mT mO mW mR mP zT zO zX zB zL zR zP zQ lm)) := by
    intro k
    induction k with
    | zero =>
      intro i hk hi
      refine gg_iload_n 2 d_Sig_leading_2 rfl rfl ?_
      refine gg_aload_n 0 d_Sig_leading_3 rfl rfl ?_
      refine gg_cv1 m_Sig_9 d_Sig_leading_4 (c_Row_length (d := 0) (hr_t (by omega))) rfl rfl rfl rfl (by omega) rfl (Nat.le_of_ble_eq_true rfl) ?_
      refine gg_icmp_ge 29 d_Sig_leading_7 (by decide) (fun c7 => ?_) (fun c7 => ?_)
      · refine gg_iload_n 2 d_Sig_leading_29 rfl rfl ?_
        exact gg_ireturn d_Sig_leading_30 rfl rfl ⟨rfl, rfl⟩
      · exact absurd (nI_le (by omega) (by omega)) c7
    | succ k ih =>
      intro i hk hi
      refine gg_iload_n 2 d_Sig_leading_2 rfl rfl ?_
      refine gg_aload_n 0 d_Sig_leading_3 rfl rfl ?_
      refine gg_cv1 m_Sig_9 d_Sig_leading_4 (c_Row_length (d := 0) (hr_t (by omega))) rfl rfl rfl rfl (by omega) rfl (Nat.le_of_ble_eq_true rfl) ?_
      refine gg_icmp_ge 29 d_Sig_leading_7 (by decide) (fun c7 => ?_) (fun c7 => ?_)
      · exact absurd c7 (nI_ge (by omega) (by omega))
      · refine gg_aload_n 0 d_Sig_leading_10 rfl rfl ?_
        refine gg_iload_n 2 d_Sig_leading_11 rfl rfl ?_
        refine gg_cv1 m_Sig_21 d_Sig_leading_12 (c_Row_at (d := 0) (hr_t ht) (by omega)) rfl rfl rfl rfl (by omega) rfl (Nat.le_of_ble_eq_true rfl) ?_
        refine gg_iload_n 1 d_Sig_leading_15 rfl rfl ?_
        refine gg_cs1 m_Sig_33 d_Sig_leading_16 (c_Sig_sixBitsOf (d := 0) hz) rfl (by omega) rfl (Nat.le_of_ble_eq_true rfl) ?_
        have hle := rd_w_le tF z i
        rw [rd_sx hb (by omega)]
        refine gg_iconst (v := (-1)) d_Sig_leading_19 (by decide) ?_
        refine gg_icmp_eq 29 d_Sig_leading_20 (by decide) (fun c20 => ?_) (fun c20 => ?_)
        · have hw : rd_w tF z i = 64 := by
            by_cases q : rd_w tF z i = 64
            · exact q
            · rw [if_neg q] at c20
              exact absurd c20 (sp_m1 (by omega))
          rw [rd_l_is hw]
          refine gg_iload_n 2 d_Sig_leading_29 rfl rfl ?_
          exact gg_ireturn d_Sig_leading_30 rfl rfl ⟨rfl, rfl⟩
        · have hw : ¬ rd_w tF z i = 64 := fun q => c20 (if_pos q)
          rw [rd_l_ne hw]
          refine gg_iinc (1) d_Sig_leading_23 rfl (by decide) (by decide) rfl ?_
          dsimp only [List.set]
          refine gg_goto 2 d_Sig_leading_26 (by decide) ?_
          rw [nI_1]
          exact ih (i + 1) (by omega) (by omega)
  refine gg_K.start (L := [some (.ref 1), some (.int s), none]) rfl (plainFor_of_name (by decide)) rfl (Nat.le_of_ble_eq_true rfl) ?_
  refine gg_iconst (v := 0) d_Sig_leading_0 (by decide) ?_
  refine gg_istore_n 2 d_Sig_leading_1 rfl (by decide) rfl ?_
  dsimp only [List.set]
  exact loop tN 0 rfl (Nat.zero_le _)
set_option maxHeartbeats 4000000 in
set_option maxRecDepth 100000 in
theorem c_Sig_mayEnd  {q : Nat} (hq : q ≤ tN) (ht : tN ≤ 400) (hd : 1 ≤ d) : gg_K l D cA d y_Sig_mayEnd b_Sig_mayEnd 4 (some .boolean) [.ref 1, .int (nI q)] (hp tN tF oN oF rN rF pN pF bN bF eN eF lo mT mO mW mR mP zT zO zX zB zL zR zP zQ lm) (gg_is (some (.int (sp_b (rd_ok tF tN q)))) (hp tN tF oN oF rN rF pN pF bN bF eN eF lo mT mO mW mR mP zT zO zX zB zL zR zP zQ lm)) := by
  have loop : ∀ k : Nat, ∀ i, tN - i = k → q ≤ i → i ≤ tN → (∀ j, j < i → q ≤ j → tF j = 61) → gg_G l D cA d R_Sig b_Sig_mayEnd 4 (some .boolean) (gg_is (some (.int (sp_b (rd_ok tF tN q)))) (hp tN tF oN oF rN rF pN pF bN bF eN eF lo mT mO mW mR mP zT zO zX zB zL zR zP zQ lm)) 2 [some (.ref 1), some (.int (nI q)), some (.int (nI i)), none] [] ((hp tN tF oN oF rN rF pN pF bN bF eN eF lo mT mO mW mR mP zT zO zX zB zL zR zP zQ lm)) := by
    intro k
    induction k with
    | zero =>
      intro i hk hqi hi hj
      refine gg_iload_n 2 d_Sig_mayEnd_2 rfl rfl ?_
      refine gg_aload_n 0 d_Sig_mayEnd_3 rfl rfl ?_
      refine gg_cv1 m_Sig_9 d_Sig_mayEnd_4 (c_Row_length (d := 0) (hr_t (by omega))) rfl rfl rfl rfl (by omega) rfl (Nat.le_of_ble_eq_true rfl) ?_
      refine gg_icmp_ge 28 d_Sig_mayEnd_7 (by decide) (fun c7 => ?_) (fun c7 => ?_)
      · have hj2 : ∀ j, j < tN → q ≤ j → tF j = 61 := fun j h1 h2 => hj j (by omega) h2
        refine gg_aload_n 0 d_Sig_mayEnd_28 rfl rfl ?_
        refine gg_cv1 m_Sig_9 d_Sig_mayEnd_29 (c_Row_length (d := 0) (hr_t (by omega))) rfl rfl rfl rfl (by omega) rfl (Nat.le_of_ble_eq_true rfl) ?_
        refine gg_iload_n 1 d_Sig_mayEnd_32 rfl rfl ?_
        refine gg_isub d_Sig_mayEnd_33 ?_
        rw [pk_sub hq]
        refine gg_istore_n 2 d_Sig_mayEnd_34 rfl (by decide) rfl ?_
        dsimp only [List.set]
        refine gg_iload_n 1 d_Sig_mayEnd_35 rfl rfl ?_
        refine gg_iconst (v := nI 4) d_Sig_mayEnd_36 (by decide) ?_
        refine gg_irem d_Sig_mayEnd_37 (by decide) ?_
        rw [pk_rem (by omega) (by decide) (by decide)]
        refine gg_istore_n 3 d_Sig_mayEnd_38 rfl (by decide) rfl ?_
        dsimp only [List.set]
        refine gg_iload_n 3 d_Sig_mayEnd_39 rfl rfl ?_
        refine gg_iconst (v := nI 1) d_Sig_mayEnd_40 (by decide) ?_
        refine gg_icmp_ne 46 d_Sig_mayEnd_41 (by decide) (fun c41 => ?_) (fun c41 => ?_)
        · rw [nI_eq (by omega) (by omega)] at c41
          refine gg_iload_n 2 d_Sig_mayEnd_46 rfl rfl ?_
          refine gg_if_eq 61 d_Sig_mayEnd_47 (by decide) (fun c47 => ?_) (fun c47 => ?_)
          · rw [← nI_0, nI_eq (by omega) (by omega)] at c47
            refine gg_iconst (v := 1) d_Sig_mayEnd_61 (by decide) ?_
            refine gg_goto 66 d_Sig_mayEnd_62 (by decide) ?_
            exact gg_ireturn d_Sig_mayEnd_66 rfl (by decide) ⟨by first | rw [sp_bt ⟨by omega, by omega, hj2⟩] | rw [sp_bf (fun z => by have := z.2.1; omega)], rfl⟩
          · rw [← nI_0, nI_eq (by omega) (by omega)] at c47
            refine gg_iload_n 3 d_Sig_mayEnd_50 rfl rfl ?_
            refine gg_if_eq 65 d_Sig_mayEnd_51 (by decide) (fun c51 => ?_) (fun c51 => ?_)
            · rw [← nI_0, nI_eq (by omega) (by omega)] at c51
              refine gg_iconst (v := 0) d_Sig_mayEnd_65 (by decide) ?_
              exact gg_ireturn d_Sig_mayEnd_66 rfl (by decide) ⟨by first | rw [sp_bt ⟨by omega, by omega, hj2⟩] | rw [sp_bf (fun z => by have := z.2.1; omega)], rfl⟩
            · rw [← nI_0, nI_eq (by omega) (by omega)] at c51
              refine gg_iload_n 2 d_Sig_mayEnd_54 rfl rfl ?_
              refine gg_iconst (v := nI 4) d_Sig_mayEnd_55 (by decide) ?_
              refine gg_iload_n 3 d_Sig_mayEnd_56 rfl rfl ?_
              refine gg_isub d_Sig_mayEnd_57 ?_
              rw [pk_sub (by omega)]
              refine gg_icmp_ne 65 d_Sig_mayEnd_58 (by decide) (fun c58 => ?_) (fun c58 => ?_)
              · rw [nI_eq (by omega) (by omega)] at c58
                refine gg_iconst (v := 0) d_Sig_mayEnd_65 (by decide) ?_
                exact gg_ireturn d_Sig_mayEnd_66 rfl (by decide) ⟨by first | rw [sp_bt ⟨by omega, by omega, hj2⟩] | rw [sp_bf (fun z => by have := z.2.1; omega)], rfl⟩
              · rw [nI_eq (by omega) (by omega)] at c58
                refine gg_iconst (v := 1) d_Sig_mayEnd_61 (by decide) ?_
                refine gg_goto 66 d_Sig_mayEnd_62 (by decide) ?_
                exact gg_ireturn d_Sig_mayEnd_66 rfl (by decide) ⟨by first | rw [sp_bt ⟨by omega, by omega, hj2⟩] | rw [sp_bf (fun z => by have := z.2.1; omega)], rfl⟩
        · rw [nI_eq (by omega) (by omega)] at c41
          refine gg_iconst (v := 0) d_Sig_mayEnd_44 (by decide) ?_
          exact gg_ireturn d_Sig_mayEnd_45 rfl (by decide) ⟨by rw [sp_bf (fun z => z.1 (by omega))], rfl⟩
      · exact absurd (nI_le (by omega) (by omega)) c7
    | succ k ih =>
      intro i hk hqi hi hj
      refine gg_iload_n 2 d_Sig_mayEnd_2 rfl rfl ?_
      refine gg_aload_n 0 d_Sig_mayEnd_3 rfl rfl ?_
      refine gg_cv1 m_Sig_9 d_Sig_mayEnd_4 (c_Row_length (d := 0) (hr_t (by omega))) rfl rfl rfl rfl (by omega) rfl (Nat.le_of_ble_eq_true rfl) ?_
      refine gg_icmp_ge 28 d_Sig_mayEnd_7 (by decide) (fun c7 => ?_) (fun c7 => ?_)
      · exact absurd c7 (nI_ge (by omega) (by omega))
      · refine gg_aload_n 0 d_Sig_mayEnd_10 rfl rfl ?_
        refine gg_iload_n 2 d_Sig_mayEnd_11 rfl rfl ?_
        refine gg_cv1 m_Sig_21 d_Sig_mayEnd_12 (c_Row_at (d := 0) (hr_t ht) (by omega)) rfl rfl rfl rfl (by omega) rfl (Nat.le_of_ble_eq_true rfl) ?_
        refine gg_bipush (v := 61) d_Sig_mayEnd_15 (by decide) ?_
        refine gg_icmp_eq 22 d_Sig_mayEnd_17 (by decide) (fun c17 => ?_) (fun c17 => ?_)
        · have hj3 : ∀ j, j < i + 1 → q ≤ j → tF j = 61 := fun j h1 h2 => by
            rcases Nat.lt_or_ge j i with y | y
            · exact hj j y h2
            · rw [show j = i by omega]; exact c17
          refine gg_iinc (1) d_Sig_mayEnd_22 rfl (by decide) (by decide) rfl ?_
          dsimp only [List.set]
          refine gg_goto 2 d_Sig_mayEnd_25 (by decide) ?_
          rw [nI_1]
          exact ih (i + 1) (by omega) (by omega) (by omega) hj3
        · rw [sp_bf (fun y => c17 (y.2.2 i (by omega) hqi))]
          refine gg_iconst (v := 0) d_Sig_mayEnd_20 (by decide) ?_
          exact gg_ireturn d_Sig_mayEnd_21 rfl (by decide) ⟨rfl, rfl⟩
  refine gg_K.start (L := [some (.ref 1), some (.int (nI q)), none, none]) rfl (plainFor_of_name (by decide)) rfl (Nat.le_of_ble_eq_true rfl) ?_
  refine gg_iload_n 1 d_Sig_mayEnd_0 rfl rfl ?_
  refine gg_istore_n 2 d_Sig_mayEnd_1 rfl (by decide) rfl ?_
  dsimp only [List.set]
  exact loop (tN - q) q rfl (Nat.le_refl _) hq (fun j h1 h2 => absurd h1 (by omega))
set_option maxHeartbeats 4000000 in
set_option maxRecDepth 100000 in
theorem c_Sig_readAll  {s : Int32} {z : Bool} {q : Nat} (hz : s = 0 ↔ z = true) (ht : tN ≤ 400) (hb : ck_o tF tN) (hd : 1 ≤ d) (hq : q ≤ tN) (hw : ∀ j, j < q → rd_w tF z j < 64) (ho : oN = 0) : gg_K l D cA d y_Sig_readAll b_Sig_readAll 7 none [.ref 1, .int (nI q), .ref 3, .int s] (hp tN tF oN oF rN rF pN pF bN bF eN eF lo mT mO mW mR mP zT zO zX zB zL zR zP zQ lm) (gg_is none (hp tN tF (q - (q + 3) / 4) (rd_F oF (rd_w tF z) (q - (q + 3) / 4)) rN rF pN pF bN bF eN eF lo mT mO mW mR mP zT zO zX zB zL zR zP zQ lm)) := by
  have loop : ∀ k : Nat, ∀ p, q - p = k → p ≤ q → gg_G l D cA d R_Sig b_Sig_readAll 7 none (gg_is none (hp tN tF (q - (q + 3) / 4) (rd_F oF (rd_w tF z) (q - (q + 3) / 4)) rN rF pN pF bN bF eN eF lo mT mO mW mR mP zT zO zX zB zL zR zP zQ lm)) 6 [some (.ref 1), some (.int (nI q)), some (.ref 3), some (.int s), some (.int (nI (rd_B (rd_w tF z) p))), some (.int (nI p)), none] [] ((hp tN tF (p - (p + 3) / 4) (rd_F oF (rd_w tF z) (p - (p + 3) / 4)) rN rF pN pF bN bF eN eF lo mT mO mW mR mP zT zO zX zB zL zR zP zQ lm)) := by
    intro k
    induction k with
    | zero =>
      intro p hk hpq
      refine gg_iload d_Sig_readAll_6 rfl ?_
      refine gg_iload_n 1 d_Sig_readAll_8 rfl rfl ?_
      refine gg_icmp_ge 65 d_Sig_readAll_9 (by decide) (fun c9 => ?_) (fun c9 => ?_)
      · exact gg_return d_Sig_readAll_65 rfl ⟨rfl, by rw [show p = q by omega]⟩
      · exact absurd (nI_le (by omega) (by omega)) c9
    | succ k ih =>
      intro p hk hpq
      refine gg_iload d_Sig_readAll_6 rfl ?_
      refine gg_iload_n 1 d_Sig_readAll_8 rfl rfl ?_
      refine gg_icmp_ge 65 d_Sig_readAll_9 (by decide) (fun c9 => ?_) (fun c9 => ?_)
      · exact absurd c9 (nI_ge (by omega) (by omega))
      · refine gg_iload d_Sig_readAll_12 rfl ?_
        refine gg_bipush (v := 6) d_Sig_readAll_14 (by decide) ?_
        refine gg_ishl d_Sig_readAll_16 ?_
        refine gg_aload_n 0 d_Sig_readAll_17 rfl rfl ?_
        refine gg_iload d_Sig_readAll_18 rfl ?_
        refine gg_cv1 m_Sig_21 d_Sig_readAll_20 (c_Row_at (d := 0) (hr_t ht) (by omega)) rfl rfl rfl rfl (by omega) rfl (Nat.le_of_ble_eq_true rfl) ?_
        refine gg_iload_n 3 d_Sig_readAll_23 rfl rfl ?_
        refine gg_cs1 m_Sig_33 d_Sig_readAll_24 (c_Sig_sixBitsOf (d := 0) hz) rfl (by omega) rfl (Nat.le_of_ble_eq_true rfl) ?_
        rw [rd_sx hb (by omega), if_neg (by have := hw p (by omega); omega)]
        refine gg_ior d_Sig_readAll_27 ?_
        rw [rd_or _ (hw p (by omega)), show rd_B (rd_w tF z) p * 64 + rd_w tF z p = rd_B (rd_w tF z) (p + 1) from rfl]
        refine gg_istore d_Sig_readAll_28 (by decide) rfl ?_
        dsimp only [List.set]
        refine gg_iload d_Sig_readAll_30 rfl ?_
        refine gg_iconst (v := nI 4) d_Sig_readAll_32 (by decide) ?_
        refine gg_irem d_Sig_readAll_33 (by decide) ?_
        rw [pk_rem (by omega) (by decide) (by decide)]
        refine gg_istore d_Sig_readAll_34 (by decide) rfl ?_
        dsimp only [List.set]
        refine gg_iload d_Sig_readAll_36 rfl ?_
        refine gg_if_eq 59 d_Sig_readAll_38 (by decide) (fun c38 => ?_) (fun c38 => ?_)
        · rw [← nI_0, nI_eq (by omega) (by omega)] at c38
          have hc1 : p + 1 - (p + 1 + 3) / 4 = p - (p + 3) / 4 := by omega
          refine gg_iinc (1) d_Sig_readAll_59 rfl (by decide) (by decide) rfl ?_
          dsimp only [List.set]
          refine gg_goto 6 d_Sig_readAll_62 (by decide) ?_
          rw [nI_1]
          refine gg_forget 6 ?_
          dsimp only [List.set]
          have e0 := ih (p + 1) (by omega) (by omega)
          rw [hc1] at e0
          exact e0
        · rw [← nI_0, nI_eq (by omega) (by omega)] at c38
          have hc1 : p + 1 - (p + 1 + 3) / 4 = p - (p + 3) / 4 + 1 := by omega
          refine gg_aload_n 2 d_Sig_readAll_41 rfl rfl ?_
          refine gg_iload d_Sig_readAll_42 rfl ?_
          refine gg_bipush (v := 6) d_Sig_readAll_44 (by decide) ?_
          refine gg_iconst (v := 2) d_Sig_readAll_46 (by decide) ?_
          refine gg_iload d_Sig_readAll_47 rfl ?_
          refine gg_imul d_Sig_readAll_49 ?_
          refine gg_isub d_Sig_readAll_50 ?_
          refine gg_iushr d_Sig_readAll_51 rfl ?_
          refine gg_sipush (v := 255) d_Sig_readAll_52 (by decide) ?_
          refine gg_iand d_Sig_readAll_55 ?_
          rw [rd_out _ (by omega), rd_val c38 (fun j h => hw j (by omega))]
          refine gg_cv0 m_Sig_29 d_Sig_readAll_56 (c_Row_add (d := 0) (hr_o (by omega)) (by omega)) rfl rfl rfl rfl (by omega) rfl (Nat.le_of_ble_eq_true rfl) ?_
          rw [rd_F_step]
          show gg_G _ _ _ _ _ _ _ _ _ _ _ _ (hp tN tF (p - (p + 3) / 4 + 1) (rd_F oF (rd_w tF z) (p - (p + 3) / 4 + 1)) rN rF pN pF bN bF eN eF lo mT mO mW mR mP zT zO zX zB zL zR zP zQ lm)
          refine gg_iinc (1) d_Sig_readAll_59 rfl (by decide) (by decide) rfl ?_
          dsimp only [List.set]
          refine gg_goto 6 d_Sig_readAll_62 (by decide) ?_
          rw [nI_1]
          refine gg_forget 6 ?_
          dsimp only [List.set]
          have e0 := ih (p + 1) (by omega) (by omega)
          rw [hc1] at e0
          exact e0
  refine gg_K.start (L := [some (.ref 1), some (.int (nI q)), some (.ref 3), some (.int s), none, none, none]) rfl (plainFor_of_name (by decide)) rfl (Nat.le_of_ble_eq_true rfl) ?_
  refine gg_iconst (v := 0) d_Sig_readAll_0 (by decide) ?_
  refine gg_istore d_Sig_readAll_1 (by decide) rfl ?_
  dsimp only [List.set]
  refine gg_iconst (v := 0) d_Sig_readAll_3 (by decide) ?_
  refine gg_istore d_Sig_readAll_4 (by decide) rfl ?_
  dsimp only [List.set]
  have e0 := loop q 0 rfl (Nat.zero_le _)
  rw [show 0 - (0 + 3) / 4 = 0 from rfl, rd_F0] at e0
  rw [ho]
  exact e0
set_option maxHeartbeats 4000000 in
set_option maxRecDepth 100000 in
theorem c_Dsk_read  {s : Int32} {z : Bool} {q : Nat} (hz : s = 0 ↔ z = true) (ht : tN ≤ 400) (ho : oN ≤ 536) (hb : ck_o tF tN) (hq : rd_l tF z tN 0 = q) (hok : rd_ok tF tN q) (hd : 2 ≤ d) : gg_K l D cA d y_Dsk_read b_Dsk_read 3 (some .int) [.ref 0, .int s] (hp tN tF oN oF rN rF pN pF bN bF eN eF lo mT mO mW mR mP zT zO zX zB zL zR zP zQ lm) (gg_is (some (.int (nI (q - (q + 3) / 4)))) (hp tN tF (q - (q + 3) / 4) (rd_F oF (rd_w tF z) (q - (q + 3) / 4)) rN rF pN pF bN bF eN eF lo mT mO mW mR mP zT zO zX zB zL zR zP zQ lm)) := by
  have hql := (rd_l_le tF z tN 0).2
  rw [hq] at hql
  have hw : ∀ j, j < q → rd_w tF z j < 64 := fun j h => rd_l_lt tF z tN 0 j (Nat.zero_le _) (by rw [hq]; exact h)
  refine gg_K.start (L := [some (.ref 0), some (.int s), none]) rfl (plainFor_of_name (by decide)) rfl (Nat.le_of_ble_eq_true rfl) ?_
  refine gg_aload_n 0 d_Dsk_read_0 rfl rfl ?_
  refine gg_get f_Dsk_14 d_Dsk_read_1 rfl rfl ?_
  refine gg_iload_n 1 d_Dsk_read_4 rfl rfl ?_
  refine gg_cs1 m_Dsk_64 d_Dsk_read_5 (c_Sig_leading (d := 1) hz ht hb (by omega)) rfl (by omega) rfl (Nat.le_of_ble_eq_true rfl) ?_
  rw [hq]
  refine gg_istore_n 2 d_Dsk_read_8 rfl (by decide) rfl ?_
  dsimp only [List.set]
  refine gg_aload_n 0 d_Dsk_read_9 rfl rfl ?_
  refine gg_get f_Dsk_14 d_Dsk_read_10 rfl rfl ?_
  refine gg_iload_n 2 d_Dsk_read_13 rfl rfl ?_
  refine gg_cs1 m_Dsk_68 d_Dsk_read_14 (c_Sig_mayEnd (d := 1) (by omega) ht (by omega)) rfl (by omega) rfl (Nat.le_of_ble_eq_true rfl) ?_
  rw [sp_bt hok]
  refine gg_if_ne 22 d_Dsk_read_17 (by decide) (fun c17 => ?_) (fun c17 => ?_)
  · refine gg_aload_n 0 d_Dsk_read_22 rfl rfl ?_
    refine gg_get f_Dsk_18 d_Dsk_read_23 rfl rfl ?_
    refine gg_cv0 m_Dsk_55 d_Dsk_read_26 (c_Row_clear (d := 0) (hr_o ho)) rfl rfl rfl rfl (by omega) rfl (Nat.le_of_ble_eq_true rfl) ?_
    show gg_G _ _ _ _ _ _ _ _ _ _ _ _ (hp tN tF 0 oF rN rF pN pF bN bF eN eF lo mT mO mW mR mP zT zO zX zB zL zR zP zQ lm)
    refine gg_aload_n 0 d_Dsk_read_29 rfl rfl ?_
    refine gg_get f_Dsk_14 d_Dsk_read_30 rfl rfl ?_
    refine gg_iload_n 2 d_Dsk_read_33 rfl rfl ?_
    refine gg_aload_n 0 d_Dsk_read_34 rfl rfl ?_
    refine gg_get f_Dsk_18 d_Dsk_read_35 rfl rfl ?_
    refine gg_iload_n 1 d_Dsk_read_38 rfl rfl ?_
    refine gg_cs0 m_Dsk_72 d_Dsk_read_39 (c_Sig_readAll (d := 1) hz ht hb (by omega) (by omega) hw rfl) rfl (by omega) rfl (Nat.le_of_ble_eq_true rfl) ?_
    refine gg_aload_n 0 d_Dsk_read_42 rfl rfl ?_
    refine gg_get f_Dsk_18 d_Dsk_read_43 rfl rfl ?_
    refine gg_cv1 m_Dsk_45 d_Dsk_read_46 (c_Row_length (d := 0) (hr_o (by omega))) rfl rfl rfl rfl (by omega) rfl (Nat.le_of_ble_eq_true rfl) ?_
    exact gg_ireturn d_Dsk_read_49 rfl rfl ⟨rfl, rfl⟩
  · exact absurd c17 (by decide)
set_option maxHeartbeats 4000000 in
set_option maxRecDepth 100000 in
theorem c_Dsk_read_bad  {s : Int32} {z : Bool} {q : Nat} (hz : s = 0 ↔ z = true) (ht : tN ≤ 400) (ho : oN ≤ 536) (hb : ck_o tF tN) (hq : rd_l tF z tN 0 = q) (hok : ¬ rd_ok tF tN q) (hd : 2 ≤ d) : gg_K l D cA d y_Dsk_read b_Dsk_read 3 (some .int) [.ref 0, .int s] (hp tN tF oN oF rN rF pN pF bN bF eN eF lo mT mO mW mR mP zT zO zX zB zL zR zP zQ lm) (gg_is (some (.int (-1))) (hp tN tF oN oF rN rF pN pF bN bF eN eF lo mT mO mW mR mP zT zO zX zB zL zR zP zQ lm)) := by
  have hql := (rd_l_le tF z tN 0).2
  rw [hq] at hql
  refine gg_K.start (L := [some (.ref 0), some (.int s), none]) rfl (plainFor_of_name (by decide)) rfl (Nat.le_of_ble_eq_true rfl) ?_
  refine gg_aload_n 0 d_Dsk_read_0 rfl rfl ?_
  refine gg_get f_Dsk_14 d_Dsk_read_1 rfl rfl ?_
  refine gg_iload_n 1 d_Dsk_read_4 rfl rfl ?_
  refine gg_cs1 m_Dsk_64 d_Dsk_read_5 (c_Sig_leading (d := 1) hz ht hb (by omega)) rfl (by omega) rfl (Nat.le_of_ble_eq_true rfl) ?_
  rw [hq]
  refine gg_istore_n 2 d_Dsk_read_8 rfl (by decide) rfl ?_
  dsimp only [List.set]
  refine gg_aload_n 0 d_Dsk_read_9 rfl rfl ?_
  refine gg_get f_Dsk_14 d_Dsk_read_10 rfl rfl ?_
  refine gg_iload_n 2 d_Dsk_read_13 rfl rfl ?_
  refine gg_cs1 m_Dsk_68 d_Dsk_read_14 (c_Sig_mayEnd (d := 1) (by omega) ht (by omega)) rfl (by omega) rfl (Nat.le_of_ble_eq_true rfl) ?_
  rw [sp_bf hok]
  refine gg_if_ne 22 d_Dsk_read_17 (by decide) (fun c17 => ?_) (fun c17 => ?_)
  · exact absurd rfl c17
  · refine gg_iconst (v := (-1)) d_Dsk_read_20 (by decide) ?_
    exact gg_ireturn d_Dsk_read_21 rfl rfl ⟨rfl, rfl⟩
end RDR
