theorem wr_partM {n g T : Nat} {t : Int32} (hn : n = 3 * g + T) (h0 : 0 < T) (h3 : T < 3) : wr_M n t = 4 * g + wr_c t T 4 := by
  have hK : wr_K n = 4 * g + (T + 1) := by unfold wr_K; omega
  unfold wr_M wr_c
  rw [hK]
  split <;> omega
theorem wr_c_lo {t : Int32} {T i : Nat} (h : i ≤ T + 1) : wr_c t T i = i := by
  unfold wr_c
  split
  · rfl
  · omega
theorem wr_c_bare {t : Int32} {T i : Nat} (ht : ¬ t = 0) (h : T < i) : wr_c t T (i + 1) = wr_c t T i := by
  unfold wr_c
  rw [if_neg ht, if_neg ht]
  omega
theorem wr_c_fill {t : Int32} {T i : Nat} (ht : t = 0) : wr_c t T i = i := if_pos ht
section WRD
variable {l : Launch} {D : va_G} {cA : ClassId} {d : Nat} {tN oN rN pN bN eN mT mO mW mR mP : Nat} {tF oF rF pF bF eF zT zO zX zB zL zR zP zQ : Nat → Int32} {lo lm : Int64}
set_option maxHeartbeats 4000000 in
set_option maxRecDepth 100000 in
theorem c_Sig_writeGroup  {s t : Int32} {z : Bool} {q T : Nat} (hz : s = 0 ↔ z = true) (hT : min 3 (tN - q) = T) (hq : q < tN) (ht : tN ≤ 400) (ho : oN + 4 ≤ 536) (hb : ck_o tF tN) (hd : 1 ≤ d) : gg_K l D cA d y_Sig_writeGroup b_Sig_writeGroup 8 none [.ref 1, .int (nI q), .ref 3, .int s, .int t] (hp tN tF oN oF rN rF pN pF bN bF eN eF lo mT mO mW mR mP zT zO zX zB zL zR zP zQ lm) (gg_is none (hp tN tF (oN + wr_c t T 4) (wr_g oF oN (wr_B tF tN q 3) z T (wr_c t T 4)) rN rF pN pF bN bF eN eF lo mT mO mW mR mP zT zO zX zB zL zR zP zQ lm)) := by
  have hB3 : wr_B tF tN q 3 < 2 ^ 24 := wr_B_lt hb q 3
  have loopB : ∀ k : Nat, ∀ i, 4 - i = k → i ≤ 4 → gg_G l D cA d R_Sig b_Sig_writeGroup 8 none (gg_is none (hp tN tF (oN + wr_c t T 4) (wr_g oF oN (wr_B tF tN q 3) z T (wr_c t T 4)) rN rF pN pF bN bF eN eF lo mT mO mW mR mP zT zO zX zB zL zR zP zQ lm)) 60 [some (.ref 1), some (.int (nI q)), some (.ref 3), some (.int s), some (.int t), some (.int (nI T)), some (.int (nI (wr_B tF tN q 3))), some (.int (nI i))] [] ((hp tN tF (oN + wr_c t T i) (wr_g oF oN (wr_B tF tN q 3) z T (wr_c t T i)) rN rF pN pF bN bF eN eF lo mT mO mW mR mP zT zO zX zB zL zR zP zQ lm)) := by
    intro k
    induction k with
    | zero =>
      intro i hk hi
      refine gg_iload d_Sig_writeGroup_60 rfl ?_
      refine gg_iconst (v := nI 4) d_Sig_writeGroup_62 (by decide) ?_
      refine gg_icmp_ge 115 d_Sig_writeGroup_63 (by decide) (fun c63 => ?_) (fun c63 => ?_)
      · exact gg_return d_Sig_writeGroup_115 rfl ⟨rfl, by rw [show i = 4 by omega]⟩
      · exact absurd (nI_le (by omega) (by omega)) c63
    | succ k ih =>
      intro i hk hi
      refine gg_iload d_Sig_writeGroup_60 rfl ?_
      refine gg_iconst (v := nI 4) d_Sig_writeGroup_62 (by decide) ?_
      refine gg_icmp_ge 115 d_Sig_writeGroup_63 (by decide) (fun c63 => ?_) (fun c63 => ?_)
      · exact absurd c63 (nI_ge (by omega) (by omega))
      · refine gg_iload d_Sig_writeGroup_66 rfl ?_
        refine gg_iload d_Sig_writeGroup_68 rfl ?_
        refine gg_icmp_gt 98 d_Sig_writeGroup_70 (by decide) (fun c70 => ?_) (fun c70 => ?_)
        · rw [nI_ltI (by omega) (by omega)] at c70
          refine gg_iload d_Sig_writeGroup_98 rfl ?_
          refine gg_if_ne 109 d_Sig_writeGroup_100 (by decide) (fun c100 => ?_) (fun c100 => ?_)
          · have hc1 := wr_c_bare c100 c70
            refine gg_iinc (1) d_Sig_writeGroup_109 rfl (by decide) (by decide) rfl ?_
            dsimp only [List.set]
            refine gg_goto 60 d_Sig_writeGroup_112 (by decide) ?_
            rw [nI_1]
            have e0 := ih (i + 1) (by omega) (by omega)
            rw [hc1] at e0
            exact e0
          · have hc1 := wr_c_fill (T := T) (i := i + 1) c100
            rw [wr_c_fill (T := T) (i := i) c100]
            refine gg_aload_n 2 d_Sig_writeGroup_103 rfl rfl ?_
            refine gg_bipush (v := 61) d_Sig_writeGroup_104 (by decide) ?_
            refine gg_cv0 m_Sig_29 d_Sig_writeGroup_106 (c_Row_add (d := 0) (hr_o (by omega)) (by omega)) rfl rfl rfl rfl (by omega) rfl (Nat.le_of_ble_eq_true rfl) ?_
            rw [wr_g_fill (by omega)]
            show gg_G _ _ _ _ _ _ _ _ _ _ _ _ (hp tN tF (oN + i + 1) (wr_g oF oN (wr_B tF tN q 3) z T (i + 1)) rN rF pN pF bN bF eN eF lo mT mO mW mR mP zT zO zX zB zL zR zP zQ lm)
            refine gg_iinc (1) d_Sig_writeGroup_109 rfl (by decide) (by decide) rfl ?_
            dsimp only [List.set]
            refine gg_goto 60 d_Sig_writeGroup_112 (by decide) ?_
            rw [nI_1]
            have e0 := ih (i + 1) (by omega) (by omega)
            rw [hc1] at e0
            exact e0
        · rw [nI_ltI (by omega) (by omega)] at c70
          have hc1 := wr_c_lo (t := t) (T := T) (i := i + 1) (by omega)
          rw [wr_c_lo (t := t) (T := T) (i := i) (by omega)]
          refine gg_aload_n 2 d_Sig_writeGroup_73 rfl rfl ?_
          refine gg_iload d_Sig_writeGroup_74 rfl ?_
          refine gg_bipush (v := 18) d_Sig_writeGroup_76 (by decide) ?_
          refine gg_bipush (v := 6) d_Sig_writeGroup_78 (by decide) ?_
          refine gg_iload d_Sig_writeGroup_80 rfl ?_
          refine gg_imul d_Sig_writeGroup_82 ?_
          refine gg_isub d_Sig_writeGroup_83 ?_
          refine gg_iushr d_Sig_writeGroup_84 rfl ?_
          rw [pk_ushrN (by omega) _ (18 - 6 * i) (wr_ush i (by omega))]
          refine gg_bipush (v := 63) d_Sig_writeGroup_85 (by decide) ?_
          refine gg_iand d_Sig_writeGroup_87 ?_
          rw [pk_andN (by have := Nat.div_le_self (wr_B tF tN q 3) (2 ^ (18 - 6 * i)); omega) 6 (by decide), show (2 : Nat) ^ 6 = 64 from rfl]
          refine gg_iload_n 3 d_Sig_writeGroup_88 rfl rfl ?_
          refine gg_cs1 m_Sig_25 d_Sig_writeGroup_89 (c_Sig_signOf (d := 0) hz) rfl (by omega) rfl (Nat.le_of_ble_eq_true rfl) ?_
          refine gg_cv0 m_Sig_29 d_Sig_writeGroup_92 (c_Row_add (d := 0) (hr_o (by omega)) (by omega)) rfl rfl rfl rfl (by omega) rfl (Nat.le_of_ble_eq_true rfl) ?_
          rw [wr_g_sign (by omega)]
          show gg_G _ _ _ _ _ _ _ _ _ _ _ _ (hp tN tF (oN + i + 1) (wr_g oF oN (wr_B tF tN q 3) z T (i + 1)) rN rF pN pF bN bF eN eF lo mT mO mW mR mP zT zO zX zB zL zR zP zQ lm)
          refine gg_goto 109 d_Sig_writeGroup_95 (by decide) ?_
          refine gg_iinc (1) d_Sig_writeGroup_109 rfl (by decide) (by decide) rfl ?_
          dsimp only [List.set]
          refine gg_goto 60 d_Sig_writeGroup_112 (by decide) ?_
          rw [nI_1]
          have e0 := ih (i + 1) (by omega) (by omega)
          rw [hc1] at e0
          exact e0
  have loop : ∀ k : Nat, ∀ i, 3 - i = k → i ≤ 3 → gg_G l D cA d R_Sig b_Sig_writeGroup 8 none (gg_is none (hp tN tF (oN + wr_c t T 4) (wr_g oF oN (wr_B tF tN q 3) z T (wr_c t T 4)) rN rF pN pF bN bF eN eF lo mT mO mW mR mP zT zO zX zB zL zR zP zQ lm)) 18 [some (.ref 1), some (.int (nI q)), some (.ref 3), some (.int s), some (.int t), some (.int (nI T)), some (.int (nI (wr_B tF tN q i))), some (.int (nI i))] [] ((hp tN tF oN oF rN rF pN pF bN bF eN eF lo mT mO mW mR mP zT zO zX zB zL zR zP zQ lm)) := by
    intro k
    induction k with
    | zero =>
      intro i hk hi
      refine gg_iload d_Sig_writeGroup_18 rfl ?_
      refine gg_iconst (v := nI 3) d_Sig_writeGroup_20 (by decide) ?_
      refine gg_icmp_ge 57 d_Sig_writeGroup_21 (by decide) (fun c21 => ?_) (fun c21 => ?_)
      · refine gg_iconst (v := 0) d_Sig_writeGroup_57 (by decide) ?_
        refine gg_istore d_Sig_writeGroup_58 (by decide) rfl ?_
        dsimp only [List.set]
        have e0 := loopB 4 0 rfl (by decide)
        rw [wr_c_lo (i := 0) (by omega), wr_g0] at e0
        rw [show i = 3 by omega]
        exact e0
      · exact absurd (nI_le (by omega) (by omega)) c21
    | succ k ih =>
      intro i hk hi
      refine gg_iload d_Sig_writeGroup_18 rfl ?_
      refine gg_iconst (v := nI 3) d_Sig_writeGroup_20 (by decide) ?_
      refine gg_icmp_ge 57 d_Sig_writeGroup_21 (by decide) (fun c21 => ?_) (fun c21 => ?_)
      · exact absurd c21 (nI_ge (by omega) (by omega))
      · refine gg_iload d_Sig_writeGroup_24 rfl ?_
        refine gg_bipush (v := 8) d_Sig_writeGroup_26 (by decide) ?_
        refine gg_ishl d_Sig_writeGroup_28 ?_
        refine gg_iload d_Sig_writeGroup_29 rfl ?_
        refine gg_iload d_Sig_writeGroup_31 rfl ?_
        refine gg_icmp_ge 47 d_Sig_writeGroup_33 (by decide) (fun c33 => ?_) (fun c33 => ?_)
        · rw [nI_leI (by omega) (by omega)] at c33
          have hw : wr_B tF tN q (i + 1) = wr_B tF tN q i * 256 + 0 := by
            show wr_B tF tN q i * 256 + wr_b tF tN (q + i) = _
            unfold wr_b
            rw [if_neg (by omega)]
          have hc0 : (0 : Nat) < 256 := by decide
          refine gg_iconst (v := nI 0) d_Sig_writeGroup_47 (by decide) ?_
          refine gg_ior d_Sig_writeGroup_48 ?_
          rw [wr_or (Nat.lt_of_lt_of_le (wr_B_lt hb q i) (Nat.pow_le_pow_right (n := 256) (by decide) (show i ≤ 2 by omega))) hc0, ← hw]
          refine gg_istore d_Sig_writeGroup_49 (by decide) rfl ?_
          dsimp only [List.set]
          refine gg_iinc (1) d_Sig_writeGroup_51 rfl (by decide) (by decide) rfl ?_
          dsimp only [List.set]
          refine gg_goto 18 d_Sig_writeGroup_54 (by decide) ?_
          rw [nI_1]
          exact ih (i + 1) (by omega) (by omega)
        · rw [nI_leI (by omega) (by omega)] at c33
          have hw : wr_B tF tN q (i + 1) = wr_B tF tN q i * 256 + ck_b tF (q + i) := by
            show wr_B tF tN q i * 256 + wr_b tF tN (q + i) = _
            unfold wr_b
            rw [if_pos (by omega)]
          have hc0 := (hb (q + i) (by omega)).2
          refine gg_aload_n 0 d_Sig_writeGroup_36 rfl rfl ?_
          refine gg_iload_n 1 d_Sig_writeGroup_37 rfl rfl ?_
          refine gg_iload d_Sig_writeGroup_38 rfl ?_
          refine gg_iadd d_Sig_writeGroup_40 ?_
          rw [nI_add]
          refine gg_cv1 m_Sig_21 d_Sig_writeGroup_41 (c_Row_at (d := 0) (hr_t ht) (by omega)) rfl rfl rfl rfl (by omega) rfl (Nat.le_of_ble_eq_true rfl) ?_
          rw [(hb (q + i) (by omega)).1]
          refine gg_goto 48 d_Sig_writeGroup_44 (by decide) ?_
          refine gg_ior d_Sig_writeGroup_48 ?_
          rw [wr_or (Nat.lt_of_lt_of_le (wr_B_lt hb q i) (Nat.pow_le_pow_right (n := 256) (by decide) (show i ≤ 2 by omega))) hc0, ← hw]
          refine gg_istore d_Sig_writeGroup_49 (by decide) rfl ?_
          dsimp only [List.set]
          refine gg_iinc (1) d_Sig_writeGroup_51 rfl (by decide) (by decide) rfl ?_
          dsimp only [List.set]
          refine gg_goto 18 d_Sig_writeGroup_54 (by decide) ?_
          rw [nI_1]
          exact ih (i + 1) (by omega) (by omega)
  refine gg_K.start (L := [some (.ref 1), some (.int (nI q)), some (.ref 3), some (.int s), some (.int t), none, none, none]) rfl (plainFor_of_name (by decide)) rfl (Nat.le_of_ble_eq_true rfl) ?_
  refine gg_iconst (v := nI 3) d_Sig_writeGroup_0 (by decide) ?_
  refine gg_aload_n 0 d_Sig_writeGroup_1 rfl rfl ?_
  refine gg_cv1 m_Sig_9 d_Sig_writeGroup_2 (c_Row_length (d := 0) (hr_t (by omega))) rfl rfl rfl rfl (by omega) rfl (Nat.le_of_ble_eq_true rfl) ?_
  refine gg_iload_n 1 d_Sig_writeGroup_5 rfl rfl ?_
  refine gg_isub d_Sig_writeGroup_6 ?_
  rw [pk_sub (by omega)]
  refine gg_cs1 m_Sig_15 d_Sig_writeGroup_7 (c_Mth_min (d := 0)) rfl (by omega) rfl (Nat.le_of_ble_eq_true rfl) ?_
  rw [wr_min (by omega), hT]
  refine gg_istore d_Sig_writeGroup_10 (by decide) rfl ?_
  dsimp only [List.set]
  refine gg_iconst (v := 0) d_Sig_writeGroup_12 (by decide) ?_
  refine gg_istore d_Sig_writeGroup_13 (by decide) rfl ?_
  dsimp only [List.set]
  refine gg_iconst (v := 0) d_Sig_writeGroup_15 (by decide) ?_
  refine gg_istore d_Sig_writeGroup_16 (by decide) rfl ?_
  dsimp only [List.set]
  exact loop 3 0 rfl (by decide)
set_option maxHeartbeats 4000000 in
set_option maxRecDepth 100000 in
theorem c_Dsk_write  {s t : Int32} {z : Bool} (hz : s = 0 ↔ z = true) (ht : tN ≤ 400) (ho : oN ≤ 536) (hb : ck_o tF tN) (hd : 2 ≤ d) : gg_K l D cA d y_Dsk_write b_Dsk_write 4 (some .int) [.ref 0, .int s, .int t] (hp tN tF oN oF rN rF pN pF bN bF eN eF lo mT mO mW mR mP zT zO zX zB zL zR zP zQ lm) (gg_is (some (.int (nI (wr_M tN t)))) (hp tN tF (wr_M tN t) (wr_F oF tF tN z t) rN rF pN pF bN bF eN eF lo mT mO mW mR mP zT zO zX zB zL zR zP zQ lm)) := by
  have hK : wr_K tN ≤ 534 := by unfold wr_K; omega
  have hM5 : wr_M tN t ≤ 536 := by unfold wr_M; split <;> omega
  have fin : ∀ v, tN ≤ v → v < 2 ^ 31 → gg_G l D cA d R_Dsk b_Dsk_write 4 (some .int) (gg_is (some (.int (nI (wr_M tN t)))) (hp tN tF (wr_M tN t) (wr_F oF tF tN z t) rN rF pN pF bN bF eN eF lo mT mO mW mR mP zT zO zX zB zL zR zP zQ lm)) 9 [some (.ref 0), some (.int s), some (.int t), some (.int (nI v))] [] (hp tN tF (wr_M tN t) (wr_F oF tF tN z t) rN rF pN pF bN bF eN eF lo mT mO mW mR mP zT zO zX zB zL zR zP zQ lm) := by
    intro v hv hv2
    refine gg_iload_n 3 d_Dsk_write_9 rfl rfl ?_
    refine gg_aload_n 0 d_Dsk_write_10 rfl rfl ?_
    refine gg_get f_Dsk_14 d_Dsk_write_11 rfl rfl ?_
    refine gg_cv1 m_Dsk_45 d_Dsk_write_14 (c_Row_length (d := 0) (hr_t (by omega))) rfl rfl rfl rfl (by omega) rfl (Nat.le_of_ble_eq_true rfl) ?_
    refine gg_icmp_ge 40 d_Dsk_write_17 (by decide) (fun c17 => ?_) (fun c17 => ?_)
    · refine gg_aload_n 0 d_Dsk_write_40 rfl rfl ?_
      refine gg_get f_Dsk_18 d_Dsk_write_41 rfl rfl ?_
      refine gg_cv1 m_Dsk_45 d_Dsk_write_44 (c_Row_length (d := 0) (hr_o (by omega))) rfl rfl rfl rfl (by omega) rfl (Nat.le_of_ble_eq_true rfl) ?_
      exact gg_ireturn d_Dsk_write_47 rfl rfl ⟨rfl, rfl⟩
    · exact absurd (nI_le hv hv2) c17
  have loop : ∀ k g : Nat, tN ≤ 3 * g + k → 3 * g ≤ tN → gg_G l D cA d R_Dsk b_Dsk_write 4 (some .int) (gg_is (some (.int (nI (wr_M tN t)))) (hp tN tF (wr_M tN t) (wr_F oF tF tN z t) rN rF pN pF bN bF eN eF lo mT mO mW mR mP zT zO zX zB zL zR zP zQ lm)) 9 [some (.ref 0), some (.int s), some (.int t), some (.int (nI (3 * g)))] [] (hp tN tF (4 * g) (wr_o oF tF tN z (4 * g)) rN rF pN pF bN bF eN eF lo mT mO mW mR mP zT zO zX zB zL zR zP zQ lm) := by
    have out : ∀ g, tN = 3 * g → gg_G l D cA d R_Dsk b_Dsk_write 4 (some .int) (gg_is (some (.int (nI (wr_M tN t)))) (hp tN tF (wr_M tN t) (wr_F oF tF tN z t) rN rF pN pF bN bF eN eF lo mT mO mW mR mP zT zO zX zB zL zR zP zQ lm)) 9 [some (.ref 0), some (.int s), some (.int t), some (.int (nI (3 * g)))] [] (hp tN tF (4 * g) (wr_o oF tF tN z (4 * g)) rN rF pN pF bN bF eN eF lo mT mO mW mR mP zT zO zX zB zL zR zP zQ lm) := by
      intro g hg
      have h9 := wr_done (u := oF) (f := tF) (z := z) (t := t) hg
      rw [h9.1, ← h9.2]
      exact fin (3 * g) (by omega) (by omega)
    intro k
    induction k with
    | zero => exact fun g h1 h2 => out g (by omega)
    | succ k ih =>
      intro g h1 h2
      by_cases h3 : tN ≤ 3 * g
      · exact out g (by omega)
      · refine gg_iload_n 3 d_Dsk_write_9 rfl rfl ?_
        refine gg_aload_n 0 d_Dsk_write_10 rfl rfl ?_
        refine gg_get f_Dsk_14 d_Dsk_write_11 rfl rfl ?_
        refine gg_cv1 m_Dsk_45 d_Dsk_write_14 (c_Row_length (d := 0) (hr_t (by omega))) rfl rfl rfl rfl (by omega) rfl (Nat.le_of_ble_eq_true rfl) ?_
        refine gg_icmp_ge 40 d_Dsk_write_17 (by decide) (fun c17 => ?_) (fun c17 => ?_)
        · exact absurd c17 (nI_ge (by omega) (by omega))
        · refine gg_aload_n 0 d_Dsk_write_20 rfl rfl ?_
          refine gg_get f_Dsk_14 d_Dsk_write_21 rfl rfl ?_
          refine gg_iload_n 3 d_Dsk_write_24 rfl rfl ?_
          refine gg_aload_n 0 d_Dsk_write_25 rfl rfl ?_
          refine gg_get f_Dsk_18 d_Dsk_write_26 rfl rfl ?_
          refine gg_iload_n 1 d_Dsk_write_29 rfl rfl ?_
          refine gg_iload_n 2 d_Dsk_write_30 rfl rfl ?_
          refine gg_cs0 m_Dsk_58 d_Dsk_write_31 (c_Sig_writeGroup (d := 1) (q := 3 * g) hz rfl (by omega) ht (by omega) hb (by omega)) rfl (by omega) rfl (Nat.le_of_ble_eq_true rfl) ?_
          refine gg_iinc (3) d_Dsk_write_34 rfl (by decide) (by decide) rfl ?_
          dsimp only [List.set]
          refine gg_goto 9 d_Dsk_write_37 (by decide) ?_
          rw [show (3 : Int32) = nI 3 from rfl, nI_add]
          by_cases hf : 3 * g + 3 ≤ tN
          · rw [show min 3 (tN - 3 * g) = 3 by omega, wr_full hb, wr_c_lo (by omega)]
            exact ih (g + 1) (by omega) (by omega)
          · rw [wr_part hb (show tN = 3 * g + min 3 (tN - 3 * g) by omega) (by omega) (by omega), ← wr_partM (show tN = 3 * g + min 3 (tN - 3 * g) by omega) (by omega) (by omega)]
            exact fin (3 * g + 3) (by omega) (by omega)
  refine gg_K.start (L := [some (.ref 0), some (.int s), some (.int t), none]) rfl (plainFor_of_name (by decide)) rfl (Nat.le_of_ble_eq_true rfl) ?_
  refine gg_aload_n 0 d_Dsk_write_0 rfl rfl ?_
  refine gg_get f_Dsk_18 d_Dsk_write_1 rfl rfl ?_
  refine gg_cv0 m_Dsk_55 d_Dsk_write_4 (c_Row_clear (d := 0) (hr_o ho)) rfl rfl rfl rfl (by omega) rfl (Nat.le_of_ble_eq_true rfl) ?_
  show gg_G _ _ _ _ _ _ _ _ _ _ _ _ (hp tN tF 0 oF rN rF pN pF bN bF eN eF lo mT mO mW mR mP zT zO zX zB zL zR zP zQ lm)
  refine gg_iconst (v := 0) d_Dsk_write_7 (by decide) ?_
  refine gg_istore_n 3 d_Dsk_write_8 rfl (by decide) rfl ?_
  dsimp only [List.set]
  have e0 := loop tN 0 (by omega) (by omega)
  rw [wr_o0] at e0
  exact e0
end WRD
