section WDS
variable {l : Launch} {D : va_G} {cA : ClassId} {d : Nat} {tN oN rN pN bN eN mT mO mW mR mP : Nat} {tF oF rF pF bF eF zT zO zX zB zL zR zP zQ : Nat → Int32} {lo lm : Int64}
set_option maxHeartbeats 4000000 in
set_option maxRecDepth 100000 in
theorem c_Dsk_cuts  {h : List gg_C} {x : Int32}  : gg_K l D cA d y_Dsk_cuts b_Dsk_cuts 1 (some .boolean) [.int x] h (gg_is (some (.int (sp_b (0 ≤ x.toInt ∧ x.toInt ≤ 127)))) h) := by
  refine gg_K.start (L := [some (.int x)]) rfl (plainFor_of_name (by decide)) rfl (Nat.le_of_ble_eq_true rfl) ?_
  refine gg_iload_n 0 d_Dsk_cuts_0 rfl rfl ?_
  refine gg_if_lt 14 d_Dsk_cuts_1 (by decide) (fun c1 => ?_) (fun c1 => ?_)
  · rw [sp_lt0] at c1
    refine gg_iconst (v := 0) d_Dsk_cuts_14 (by decide) ?_
    exact gg_ireturn d_Dsk_cuts_15 rfl (by decide) ⟨by first | rw [sp_bt (by omega)] | rw [sp_bf (by omega)], rfl⟩
  · rw [sp_lt0] at c1
    refine gg_iload_n 0 d_Dsk_cuts_4 rfl rfl ?_
    refine gg_bipush (v := nI 127) d_Dsk_cuts_5 (by decide) ?_
    refine gg_icmp_gt 14 d_Dsk_cuts_7 (by decide) (fun c7 => ?_) (fun c7 => ?_)
    · rw [sp_nlt (by decide)] at c7
      refine gg_iconst (v := 0) d_Dsk_cuts_14 (by decide) ?_
      exact gg_ireturn d_Dsk_cuts_15 rfl (by decide) ⟨by first | rw [sp_bt (by omega)] | rw [sp_bf (by omega)], rfl⟩
    · rw [sp_nlt (by decide)] at c7
      refine gg_iconst (v := 1) d_Dsk_cuts_10 (by decide) ?_
      refine gg_goto 15 d_Dsk_cuts_11 (by decide) ?_
      exact gg_ireturn d_Dsk_cuts_15 rfl (by decide) ⟨by first | rw [sp_bt (by omega)] | rw [sp_bf (by omega)], rfl⟩
set_option maxHeartbeats 4000000 in
set_option maxRecDepth 100000 in
theorem c_Wrd_startOf  {k : Nat} {v : Int32} (hv : v = if k = 0 then 0 else eF (k - 1)) (hk : k ≤ eN) (he : eN ≤ 400) (hd : 1 ≤ d) : gg_K l D cA d y_Wrd_startOf b_Wrd_startOf 2 (some .int) [.ref 9, .int (nI k)] (hp tN tF oN oF rN rF pN pF bN bF eN eF lo mT mO mW mR mP zT zO zX zB zL zR zP zQ lm) (gg_is (some (.int v)) (hp tN tF oN oF rN rF pN pF bN bF eN eF lo mT mO mW mR mP zT zO zX zB zL zR zP zQ lm)) := by
  by_cases h0 : k = 0
  · subst h0
    rw [if_pos rfl] at hv
    subst hv
    refine gg_K.start (L := [some (.ref 9), some (.int (nI 0))]) rfl (plainFor_of_name (by decide)) rfl (Nat.le_of_ble_eq_true rfl) ?_
    refine gg_iload_n 1 d_Wrd_startOf_0 rfl rfl ?_
    refine gg_if_ne 8 d_Wrd_startOf_1 (by decide) (fun c1 => ?_) (fun c1 => ?_)
    · exact absurd nI_0 c1
    · refine gg_iconst (v := 0) d_Wrd_startOf_4 (by decide) ?_
      refine gg_goto 18 d_Wrd_startOf_5 (by decide) ?_
      exact gg_ireturn d_Wrd_startOf_18 rfl rfl ⟨rfl, rfl⟩
  · rw [if_neg h0] at hv
    subst hv
    refine gg_K.start (L := [some (.ref 9), some (.int (nI k))]) rfl (plainFor_of_name (by decide)) rfl (Nat.le_of_ble_eq_true rfl) ?_
    refine gg_iload_n 1 d_Wrd_startOf_0 rfl rfl ?_
    refine gg_if_ne 8 d_Wrd_startOf_1 (by decide) (fun c1 => ?_) (fun c1 => ?_)
    · refine gg_aload_n 0 d_Wrd_startOf_8 rfl rfl ?_
      refine gg_get f_Wrd_18 d_Wrd_startOf_9 rfl rfl ?_
      refine gg_iload_n 1 d_Wrd_startOf_12 rfl rfl ?_
      refine gg_iconst (v := 1) d_Wrd_startOf_13 (by decide) ?_
      refine gg_isub d_Wrd_startOf_14 ?_
      rw [sp_pred (by omega)]
      refine gg_cv1 m_Wrd_28 d_Wrd_startOf_15 (c_Row_at (d := 0) (hr_e he) (by omega)) rfl rfl rfl rfl (by omega) rfl (Nat.le_of_ble_eq_true rfl) ?_
      exact gg_ireturn d_Wrd_startOf_18 rfl rfl ⟨rfl, rfl⟩
    · exact absurd c1 (nI_ne0 (by omega) (by omega))
set_option maxHeartbeats 4000000 in
set_option maxRecDepth 100000 in
theorem c_Wrd_closeWord  {S0 : Nat} (h1 : eN = 0 → S0 = 0) (h2 : 0 < eN → eF (eN - 1) = nI S0) (h3 : S0 ≤ bN) (h4 : bN ≤ 400) (h5 : eN ≤ 400) (h6 : S0 < bN → eN < 400) (hd : 2 ≤ d) : gg_K l D cA d y_Wrd_closeWord b_Wrd_closeWord 1 none [.ref 9] (hp tN tF oN oF rN rF pN pF bN bF eN eF lo mT mO mW mR mP zT zO zX zB zL zR zP zQ lm) (gg_is none (hp tN tF oN oF rN rF pN pF bN bF (if S0 < bN then eN + 1 else eN) (if S0 < bN then upd eF eN (nI bN) else eF) lo mT mO mW mR mP zT zO zX zB zL zR zP zQ lm)) := by
  have hv : nI S0 = if eN = 0 then 0 else eF (eN - 1) := by
    by_cases h0 : eN = 0
    · rw [if_pos h0, h1 h0]; exact nI_0
    · rw [if_neg h0, h2 (by omega)]
  refine gg_K.start (L := [some (.ref 9)]) rfl (plainFor_of_name (by decide)) rfl (Nat.le_of_ble_eq_true rfl) ?_
  refine gg_aload_n 0 d_Wrd_closeWord_0 rfl rfl ?_
  refine gg_get f_Wrd_12 d_Wrd_closeWord_1 rfl rfl ?_
  refine gg_cv1 m_Wrd_21 d_Wrd_closeWord_4 (c_Row_length (d := 0) (hr_b (by omega))) rfl rfl rfl rfl (by omega) rfl (Nat.le_of_ble_eq_true rfl) ?_
  refine gg_aload_n 0 d_Wrd_closeWord_7 rfl rfl ?_
  refine gg_aload_n 0 d_Wrd_closeWord_8 rfl rfl ?_
  refine gg_get f_Wrd_18 d_Wrd_closeWord_9 rfl rfl ?_
  refine gg_cv1 m_Wrd_21 d_Wrd_closeWord_12 (c_Row_length (d := 0) (hr_e (by omega))) rfl rfl rfl rfl (by omega) rfl (Nat.le_of_ble_eq_true rfl) ?_
  refine gg_cv1 m_Wrd_38 d_Wrd_closeWord_15 (c_Wrd_startOf (d := 1) hv (Nat.le_refl _) h5 (by omega)) rfl rfl rfl rfl (by omega) rfl (Nat.le_of_ble_eq_true rfl) ?_
  refine gg_icmp_le 35 d_Wrd_closeWord_18 (by decide) (fun c18 => ?_) (fun c18 => ?_)
  · rw [nI_leI (by omega) (by omega)] at c18
    have hn : ¬ S0 < bN := by omega
    rw [if_neg hn, if_neg hn]
    exact gg_return d_Wrd_closeWord_35 rfl ⟨rfl, rfl⟩
  · rw [nI_leI (by omega) (by omega)] at c18
    have hn : S0 < bN := by omega
    rw [if_pos hn, if_pos hn]
    refine gg_aload_n 0 d_Wrd_closeWord_21 rfl rfl ?_
    refine gg_get f_Wrd_18 d_Wrd_closeWord_22 rfl rfl ?_
    refine gg_aload_n 0 d_Wrd_closeWord_25 rfl rfl ?_
    refine gg_get f_Wrd_12 d_Wrd_closeWord_26 rfl rfl ?_
    refine gg_cv1 m_Wrd_21 d_Wrd_closeWord_29 (c_Row_length (d := 0) (hr_b (by omega))) rfl rfl rfl rfl (by omega) rfl (Nat.le_of_ble_eq_true rfl) ?_
    refine gg_cv0 m_Wrd_35 d_Wrd_closeWord_32 (c_Row_add (d := 0) (hr_e h5) (h6 hn)) rfl rfl rfl rfl (by omega) rfl (Nat.le_of_ble_eq_true rfl) ?_
    show gg_G _ _ _ _ _ _ _ _ _ _ _ _ (hp tN tF oN oF rN rF pN pF bN bF (eN + 1) (upd eF eN (nI bN)) lo mT mO mW mR mP zT zO zX zB zL zR zP zQ lm)
    exact gg_return d_Wrd_closeWord_35 rfl ⟨rfl, rfl⟩
set_option maxHeartbeats 4000000 in
set_option maxRecDepth 100000 in
theorem c_Wrd_cut  {a b c t : Int32} (ht : tN ≤ 400) (hbn : bN ≤ 400) (hen : eN ≤ 400) (hd : 3 ≤ d) : gg_K l D cA d y_Wrd_cut b_Wrd_cut 9 none [.ref 9, .ref 1, .int a, .int b, .int c, .int t] (hp tN tF oN oF rN rF pN pF bN bF eN eF lo mT mO mW mR mP zT zO zX zB zL zR zP zQ lm) (fun r h' => r = none ∧ ∃ (b1 : Nat) (f1 : Nat → Int32) (e1 : Nat) (g1 : Nat → Int32), h' = (hp tN tF oN oF rN rF pN pF b1 f1 e1 g1 lo mT mO mW mR mP zT zO zX zB zL zR zP zQ lm) ∧ wd_R tF tN (wd_close tN (wd tF a b c t tN)) b1 f1 e1 g1) := by
  have loop : ∀ k : Nat, ∀ p b1 f1 e1 g1, tN - p = k → p ≤ tN → wd_R tF p (wd tF a b c t p) b1 f1 e1 g1 → gg_G l D cA d R_Wrd b_Wrd_cut 9 none (fun r h' => r = none ∧ ∃ (b1 : Nat) (f1 : Nat → Int32) (e1 : Nat) (g1 : Nat → Int32), h' = (hp tN tF oN oF rN rF pN pF b1 f1 e1 g1 lo mT mO mW mR mP zT zO zX zB zL zR zP zQ lm) ∧ wd_R tF tN (wd_close tN (wd tF a b c t tN)) b1 f1 e1 g1) 17 [some (.ref 9), some (.ref 1), some (.int a), some (.int b), some (.int c), some (.int t), some (.int (nI p)), none, none] [] ((hp tN tF oN oF rN rF pN pF b1 f1 e1 g1 lo mT mO mW mR mP zT zO zX zB zL zR zP zQ lm)) := by
    intro k
    induction k with
    | zero =>
      intro p b1 f1 e1 g1 hk hpn hR
      have hp1 := hR.pre
      have hb1 : b1 ≤ p := hp1.2.2.2.1
      have he1 : e1 ≤ p := hp1.2.2.2.2.1
      have e9 : p = tN := by omega
      subst e9
      refine gg_iload d_Wrd_cut_17 rfl ?_
      refine gg_aload_n 1 d_Wrd_cut_19 rfl rfl ?_
      refine gg_cv1 m_Wrd_21 d_Wrd_cut_20 (c_Row_length (d := 0) (hr_t (by omega))) rfl rfl rfl rfl (by omega) rfl (Nat.le_of_ble_eq_true rfl) ?_
      refine gg_icmp_ge 103 d_Wrd_cut_23 (by decide) (fun c23 => ?_) (fun c23 => ?_)
      · refine gg_aload_n 0 d_Wrd_cut_103 rfl rfl ?_
        refine gg_cv0 m_Wrd_32 d_Wrd_cut_104 (c_Wrd_closeWord (d := 2) hp1.1 hp1.2.1 hp1.2.2.1 (by have := hp1.2.2.2.1; omega) (by have := hp1.2.2.2.2.1; omega) (fun y => by have := hp1.2.2.2.2.2 y; omega) (by omega)) rfl rfl rfl rfl (by omega) rfl (Nat.le_of_ble_eq_true rfl) ?_
        exact gg_return d_Wrd_cut_107 rfl ⟨rfl, _, _, _, _, rfl, hR.close⟩
      · exact absurd (nI_le (by omega) (by omega)) c23
    | succ k ih =>
      intro p b1 f1 e1 g1 hk hpn hR
      have hp1 := hR.pre
      have hb1 : b1 ≤ p := hp1.2.2.2.1
      have he1 : e1 ≤ p := hp1.2.2.2.2.1
      refine gg_iload d_Wrd_cut_17 rfl ?_
      refine gg_aload_n 1 d_Wrd_cut_19 rfl rfl ?_
      refine gg_cv1 m_Wrd_21 d_Wrd_cut_20 (c_Row_length (d := 0) (hr_t (by omega))) rfl rfl rfl rfl (by omega) rfl (Nat.le_of_ble_eq_true rfl) ?_
      refine gg_icmp_ge 103 d_Wrd_cut_23 (by decide) (fun c23 => ?_) (fun c23 => ?_)
      · exact absurd c23 (nI_ge (by omega) (by omega))
      · refine gg_aload_n 1 d_Wrd_cut_26 rfl rfl ?_
        refine gg_iload d_Wrd_cut_27 rfl ?_
        refine gg_cv1 m_Wrd_28 d_Wrd_cut_29 (c_Row_at (d := 0) (hr_t ht) (by omega)) rfl rfl rfl rfl (by omega) rfl (Nat.le_of_ble_eq_true rfl) ?_
        refine gg_istore d_Wrd_cut_32 (by decide) rfl ?_
        dsimp only [List.set]
        refine gg_iload d_Wrd_cut_34 rfl ?_
        refine gg_iload_n 2 d_Wrd_cut_36 rfl rfl ?_
        refine gg_icmp_eq 53 d_Wrd_cut_37 (by decide) (fun c37 => ?_) (fun c37 => ?_)
        · have hcu : wd_cu tF a b c p := Or.inl c37
          refine gg_iconst (v := 1) d_Wrd_cut_53 (by decide) ?_
          refine gg_goto 58 d_Wrd_cut_54 (by decide) ?_
          refine gg_istore d_Wrd_cut_58 (by decide) rfl ?_
          dsimp only [List.set]
          refine gg_iload d_Wrd_cut_60 rfl ?_
          refine gg_if_eq 69 d_Wrd_cut_62 (by decide) (fun c62 => ?_) (fun c62 => ?_)
          · first
            | exact absurd c62 (by decide)
            | refine gg_iload d_Wrd_cut_69 rfl ?_
              refine gg_if_eq 79 d_Wrd_cut_71 (by decide) (fun c71 => ?_) (fun c71 => ?_)
              · first
                | exact absurd c71 (by decide)
                | refine gg_aload_n 0 d_Wrd_cut_79 rfl rfl ?_
                  refine gg_get f_Wrd_12 d_Wrd_cut_80 rfl rfl ?_
                  refine gg_iload d_Wrd_cut_83 rfl ?_
                  refine gg_cv0 m_Wrd_35 d_Wrd_cut_85 (c_Row_add (d := 0) (hr_b (by omega)) (by omega)) rfl rfl rfl rfl (by omega) rfl (Nat.le_of_ble_eq_true rfl) ?_
                  first | show gg_G _ _ _ _ _ _ _ _ _ _ _ _ (hp tN tF oN oF rN rF pN pF (b1 + 1) (upd f1 b1 (tF p)) e2 g2 lo mT mO mW mR mP zT zO zX zB zL zR zP zQ lm) | show gg_G _ _ _ _ _ _ _ _ _ _ _ _ (hp tN tF oN oF rN rF pN pF (b1 + 1) (upd f1 b1 (tF p)) e1 g1 lo mT mO mW mR mP zT zO zX zB zL zR zP zQ lm)
                  refine gg_iload d_Wrd_cut_88 rfl ?_
                  refine gg_if_eq 97 d_Wrd_cut_90 (by decide) (fun c90 => ?_) (fun c90 => ?_)
                  · first
                    | exact absurd c90 (by decide)
                    | refine gg_iinc (1) d_Wrd_cut_97 rfl (by decide) (by decide) rfl ?_
                      dsimp only [List.set]
                      refine gg_goto 17 d_Wrd_cut_100 (by decide) ?_
                      rw [nI_1]
                      refine gg_forget 7 ?_
                      refine gg_forget 8 ?_
                      dsimp only [List.set]
                      exact ih (p + 1) _ _ _ _ (by omega) (by omega) hR9
                  · first
                    | exact absurd rfl c90
                    | refine gg_aload_n 0 d_Wrd_cut_93 rfl rfl ?_
                      refine gg_cv0 m_Wrd_32 d_Wrd_cut_94 (c_Wrd_closeWord (d := 2) hp3.1 hp3.2.1 hp3.2.2.1 (by have := hp3.2.2.2.1; omega) (by have := hp3.2.2.2.2.1; omega) (fun y => by have := hp3.2.2.2.2.2 y; omega) (by omega)) rfl rfl rfl rfl (by omega) rfl (Nat.le_of_ble_eq_true rfl) ?_
                      refine gg_iinc (1) d_Wrd_cut_97 rfl (by decide) (by decide) rfl ?_
                      dsimp only [List.set]
                      refine gg_goto 17 d_Wrd_cut_100 (by decide) ?_
                      rw [nI_1]
                      refine gg_forget 7 ?_
                      refine gg_forget 8 ?_
                      dsimp only [List.set]
                      exact ih (p + 1) _ _ _ _ (by omega) (by omega) hR9
              · first
                | exact absurd rfl c71
                | refine gg_iload d_Wrd_cut_74 rfl ?_
                  refine gg_if_eq 88 d_Wrd_cut_76 (by decide) (fun c76 => ?_) (fun c76 => ?_)
                  · have hp3 := hRc.pre
                    have hR9 := (hRc.close).skip (by rw [wd_close_beg])
                    rw [wd_close_id (wd_close_beg p _), ← wd_cut hcu c76] at hR9
                    refine gg_iload d_Wrd_cut_88 rfl ?_
                    refine gg_if_eq 97 d_Wrd_cut_90 (by decide) (fun c90 => ?_) (fun c90 => ?_)
                    · first
                      | exact absurd c90 (by decide)
                      | refine gg_iinc (1) d_Wrd_cut_97 rfl (by decide) (by decide) rfl ?_
                        dsimp only [List.set]
                        refine gg_goto 17 d_Wrd_cut_100 (by decide) ?_
                        rw [nI_1]
                        refine gg_forget 7 ?_
                        refine gg_forget 8 ?_
                        dsimp only [List.set]
                        exact ih (p + 1) _ _ _ _ (by omega) (by omega) hR9
                    · first
                      | exact absurd rfl c90
                      | refine gg_aload_n 0 d_Wrd_cut_93 rfl rfl ?_
                        refine gg_cv0 m_Wrd_32 d_Wrd_cut_94 (c_Wrd_closeWord (d := 2) hp3.1 hp3.2.1 hp3.2.2.1 (by have := hp3.2.2.2.1; omega) (by have := hp3.2.2.2.2.1; omega) (fun y => by have := hp3.2.2.2.2.2 y; omega) (by omega)) rfl rfl rfl rfl (by omega) rfl (Nat.le_of_ble_eq_true rfl) ?_
                        refine gg_iinc (1) d_Wrd_cut_97 rfl (by decide) (by decide) rfl ?_
                        dsimp only [List.set]
                        refine gg_goto 17 d_Wrd_cut_100 (by decide) ?_
                        rw [nI_1]
                        refine gg_forget 7 ?_
                        refine gg_forget 8 ?_
                        dsimp only [List.set]
                        exact ih (p + 1) _ _ _ _ (by omega) (by omega) hR9
                  · have hp3 := (hRc.add).pre
                    have hR9 := (hRc.add).close
                    rw [← wd_kept hcu c76] at hR9
                    refine gg_aload_n 0 d_Wrd_cut_79 rfl rfl ?_
                    refine gg_get f_Wrd_12 d_Wrd_cut_80 rfl rfl ?_
                    refine gg_iload d_Wrd_cut_83 rfl ?_
                    refine gg_cv0 m_Wrd_35 d_Wrd_cut_85 (c_Row_add (d := 0) (hr_b (by omega)) (by omega)) rfl rfl rfl rfl (by omega) rfl (Nat.le_of_ble_eq_true rfl) ?_
                    first | show gg_G _ _ _ _ _ _ _ _ _ _ _ _ (hp tN tF oN oF rN rF pN pF (b1 + 1) (upd f1 b1 (tF p)) e2 g2 lo mT mO mW mR mP zT zO zX zB zL zR zP zQ lm) | show gg_G _ _ _ _ _ _ _ _ _ _ _ _ (hp tN tF oN oF rN rF pN pF (b1 + 1) (upd f1 b1 (tF p)) e1 g1 lo mT mO mW mR mP zT zO zX zB zL zR zP zQ lm)
                    refine gg_iload d_Wrd_cut_88 rfl ?_
                    refine gg_if_eq 97 d_Wrd_cut_90 (by decide) (fun c90 => ?_) (fun c90 => ?_)
                    · first
                      | exact absurd c90 (by decide)
                      | refine gg_iinc (1) d_Wrd_cut_97 rfl (by decide) (by decide) rfl ?_
                        dsimp only [List.set]
                        refine gg_goto 17 d_Wrd_cut_100 (by decide) ?_
                        rw [nI_1]
                        refine gg_forget 7 ?_
                        refine gg_forget 8 ?_
                        dsimp only [List.set]
                        exact ih (p + 1) _ _ _ _ (by omega) (by omega) hR9
                    · first
                      | exact absurd rfl c90
                      | refine gg_aload_n 0 d_Wrd_cut_93 rfl rfl ?_
                        refine gg_cv0 m_Wrd_32 d_Wrd_cut_94 (c_Wrd_closeWord (d := 2) hp3.1 hp3.2.1 hp3.2.2.1 (by have := hp3.2.2.2.1; omega) (by have := hp3.2.2.2.2.1; omega) (fun y => by have := hp3.2.2.2.2.2 y; omega) (by omega)) rfl rfl rfl rfl (by omega) rfl (Nat.le_of_ble_eq_true rfl) ?_
                        refine gg_iinc (1) d_Wrd_cut_97 rfl (by decide) (by decide) rfl ?_
                        dsimp only [List.set]
                        refine gg_goto 17 d_Wrd_cut_100 (by decide) ?_
                        rw [nI_1]
                        refine gg_forget 7 ?_
                        refine gg_forget 8 ?_
                        dsimp only [List.set]
                        exact ih (p + 1) _ _ _ _ (by omega) (by omega) hR9
          · first
            | exact absurd rfl c62
            | have hRc := hR.close
              refine gg_aload_n 0 d_Wrd_cut_65 rfl rfl ?_
              refine gg_cv0 m_Wrd_32 d_Wrd_cut_66 (c_Wrd_closeWord (d := 2) hp1.1 hp1.2.1 hp1.2.2.1 (by have := hp1.2.2.2.1; omega) (by have := hp1.2.2.2.2.1; omega) (fun y => by have := hp1.2.2.2.2.2 y; omega) (by omega)) rfl rfl rfl rfl (by omega) rfl (Nat.le_of_ble_eq_true rfl) ?_
              generalize (if wd_st (wd tF a b c t p).2.2.1 (wd tF a b c t p).1 < b1 then e1 + 1 else e1) = e2 at hRc ⊢
              generalize (if wd_st (wd tF a b c t p).2.2.1 (wd tF a b c t p).1 < b1 then upd g1 e1 (nI b1) else g1) = g2 at hRc ⊢
              refine gg_iload d_Wrd_cut_69 rfl ?_
              refine gg_if_eq 79 d_Wrd_cut_71 (by decide) (fun c71 => ?_) (fun c71 => ?_)
              · first
                | exact absurd c71 (by decide)
                | refine gg_aload_n 0 d_Wrd_cut_79 rfl rfl ?_
                  refine gg_get f_Wrd_12 d_Wrd_cut_80 rfl rfl ?_
                  refine gg_iload d_Wrd_cut_83 rfl ?_
                  refine gg_cv0 m_Wrd_35 d_Wrd_cut_85 (c_Row_add (d := 0) (hr_b (by omega)) (by omega)) rfl rfl rfl rfl (by omega) rfl (Nat.le_of_ble_eq_true rfl) ?_
                  first | show gg_G _ _ _ _ _ _ _ _ _ _ _ _ (hp tN tF oN oF rN rF pN pF (b1 + 1) (upd f1 b1 (tF p)) e2 g2 lo mT mO mW mR mP zT zO zX zB zL zR zP zQ lm) | show gg_G _ _ _ _ _ _ _ _ _ _ _ _ (hp tN tF oN oF rN rF pN pF (b1 + 1) (upd f1 b1 (tF p)) e1 g1 lo mT mO mW mR mP zT zO zX zB zL zR zP zQ lm)
                  refine gg_iload d_Wrd_cut_88 rfl ?_
                  refine gg_if_eq 97 d_Wrd_cut_90 (by decide) (fun c90 => ?_) (fun c90 => ?_)
                  · first
                    | exact absurd c90 (by decide)
                    | refine gg_iinc (1) d_Wrd_cut_97 rfl (by decide) (by decide) rfl ?_
                      dsimp only [List.set]
                      refine gg_goto 17 d_Wrd_cut_100 (by decide) ?_
                      rw [nI_1]
                      refine gg_forget 7 ?_
                      refine gg_forget 8 ?_
                      dsimp only [List.set]
                      exact ih (p + 1) _ _ _ _ (by omega) (by omega) hR9
                  · first
                    | exact absurd rfl c90
                    | refine gg_aload_n 0 d_Wrd_cut_93 rfl rfl ?_
                      refine gg_cv0 m_Wrd_32 d_Wrd_cut_94 (c_Wrd_closeWord (d := 2) hp3.1 hp3.2.1 hp3.2.2.1 (by have := hp3.2.2.2.1; omega) (by have := hp3.2.2.2.2.1; omega) (fun y => by have := hp3.2.2.2.2.2 y; omega) (by omega)) rfl rfl rfl rfl (by omega) rfl (Nat.le_of_ble_eq_true rfl) ?_
                      refine gg_iinc (1) d_Wrd_cut_97 rfl (by decide) (by decide) rfl ?_
                      dsimp only [List.set]
                      refine gg_goto 17 d_Wrd_cut_100 (by decide) ?_
                      rw [nI_1]
                      refine gg_forget 7 ?_
                      refine gg_forget 8 ?_
                      dsimp only [List.set]
                      exact ih (p + 1) _ _ _ _ (by omega) (by omega) hR9
              · first
                | exact absurd rfl c71
                | refine gg_iload d_Wrd_cut_74 rfl ?_
                  refine gg_if_eq 88 d_Wrd_cut_76 (by decide) (fun c76 => ?_) (fun c76 => ?_)
                  · have hp3 := hRc.pre
                    have hR9 := (hRc.close).skip (by rw [wd_close_beg])
                    rw [wd_close_id (wd_close_beg p _), ← wd_cut hcu c76] at hR9
                    refine gg_iload d_Wrd_cut_88 rfl ?_
                    refine gg_if_eq 97 d_Wrd_cut_90 (by decide) (fun c90 => ?_) (fun c90 => ?_)
                    · first
                      | exact absurd c90 (by decide)
                      | refine gg_iinc (1) d_Wrd_cut_97 rfl (by decide) (by decide) rfl ?_
                        dsimp only [List.set]
                        refine gg_goto 17 d_Wrd_cut_100 (by decide) ?_
                        rw [nI_1]
                        refine gg_forget 7 ?_
                        refine gg_forget 8 ?_
                        dsimp only [List.set]
                        exact ih (p + 1) _ _ _ _ (by omega) (by omega) hR9
                    · first
                      | exact absurd rfl c90
                      | refine gg_aload_n 0 d_Wrd_cut_93 rfl rfl ?_
                        refine gg_cv0 m_Wrd_32 d_Wrd_cut_94 (c_Wrd_closeWord (d := 2) hp3.1 hp3.2.1 hp3.2.2.1 (by have := hp3.2.2.2.1; omega) (by have := hp3.2.2.2.2.1; omega) (fun y => by have := hp3.2.2.2.2.2 y; omega) (by omega)) rfl rfl rfl rfl (by omega) rfl (Nat.le_of_ble_eq_true rfl) ?_
                        refine gg_iinc (1) d_Wrd_cut_97 rfl (by decide) (by decide) rfl ?_
                        dsimp only [List.set]
                        refine gg_goto 17 d_Wrd_cut_100 (by decide) ?_
                        rw [nI_1]
                        refine gg_forget 7 ?_
                        refine gg_forget 8 ?_
                        dsimp only [List.set]
                        exact ih (p + 1) _ _ _ _ (by omega) (by omega) hR9
                  · have hp3 := (hRc.add).pre
                    have hR9 := (hRc.add).close
                    rw [← wd_kept hcu c76] at hR9
                    refine gg_aload_n 0 d_Wrd_cut_79 rfl rfl ?_
                    refine gg_get f_Wrd_12 d_Wrd_cut_80 rfl rfl ?_
                    refine gg_iload d_Wrd_cut_83 rfl ?_
                    refine gg_cv0 m_Wrd_35 d_Wrd_cut_85 (c_Row_add (d := 0) (hr_b (by omega)) (by omega)) rfl rfl rfl rfl (by omega) rfl (Nat.le_of_ble_eq_true rfl) ?_
                    first | show gg_G _ _ _ _ _ _ _ _ _ _ _ _ (hp tN tF oN oF rN rF pN pF (b1 + 1) (upd f1 b1 (tF p)) e2 g2 lo mT mO mW mR mP zT zO zX zB zL zR zP zQ lm) | show gg_G _ _ _ _ _ _ _ _ _ _ _ _ (hp tN tF oN oF rN rF pN pF (b1 + 1) (upd f1 b1 (tF p)) e1 g1 lo mT mO mW mR mP zT zO zX zB zL zR zP zQ lm)
                    refine gg_iload d_Wrd_cut_88 rfl ?_
                    refine gg_if_eq 97 d_Wrd_cut_90 (by decide) (fun c90 => ?_) (fun c90 => ?_)
                    · first
                      | exact absurd c90 (by decide)
                      | refine gg_iinc (1) d_Wrd_cut_97 rfl (by decide) (by decide) rfl ?_
                        dsimp only [List.set]
                        refine gg_goto 17 d_Wrd_cut_100 (by decide) ?_
                        rw [nI_1]
                        refine gg_forget 7 ?_
                        refine gg_forget 8 ?_
                        dsimp only [List.set]
                        exact ih (p + 1) _ _ _ _ (by omega) (by omega) hR9
                    · first
                      | exact absurd rfl c90
                      | refine gg_aload_n 0 d_Wrd_cut_93 rfl rfl ?_
                        refine gg_cv0 m_Wrd_32 d_Wrd_cut_94 (c_Wrd_closeWord (d := 2) hp3.1 hp3.2.1 hp3.2.2.1 (by have := hp3.2.2.2.1; omega) (by have := hp3.2.2.2.2.1; omega) (fun y => by have := hp3.2.2.2.2.2 y; omega) (by omega)) rfl rfl rfl rfl (by omega) rfl (Nat.le_of_ble_eq_true rfl) ?_
                        refine gg_iinc (1) d_Wrd_cut_97 rfl (by decide) (by decide) rfl ?_
                        dsimp only [List.set]
                        refine gg_goto 17 d_Wrd_cut_100 (by decide) ?_
                        rw [nI_1]
                        refine gg_forget 7 ?_
                        refine gg_forget 8 ?_
                        dsimp only [List.set]
                        exact ih (p + 1) _ _ _ _ (by omega) (by omega) hR9
        · refine gg_iload d_Wrd_cut_40 rfl ?_
          refine gg_iload_n 3 d_Wrd_cut_42 rfl rfl ?_
          refine gg_icmp_eq 53 d_Wrd_cut_43 (by decide) (fun c43 => ?_) (fun c43 => ?_)
          · have hcu : wd_cu tF a b c p := Or.inr (Or.inl c43)
            refine gg_iconst (v := 1) d_Wrd_cut_53 (by decide) ?_
            refine gg_goto 58 d_Wrd_cut_54 (by decide) ?_
            refine gg_istore d_Wrd_cut_58 (by decide) rfl ?_
            dsimp only [List.set]
            refine gg_iload d_Wrd_cut_60 rfl ?_
            refine gg_if_eq 69 d_Wrd_cut_62 (by decide) (fun c62 => ?_) (fun c62 => ?_)
            · first
              | exact absurd c62 (by decide)
              | refine gg_iload d_Wrd_cut_69 rfl ?_
                refine gg_if_eq 79 d_Wrd_cut_71 (by decide) (fun c71 => ?_) (fun c71 => ?_)
                · first
                  | exact absurd c71 (by decide)
                  | refine gg_aload_n 0 d_Wrd_cut_79 rfl rfl ?_
                    refine gg_get f_Wrd_12 d_Wrd_cut_80 rfl rfl ?_
                    refine gg_iload d_Wrd_cut_83 rfl ?_
                    refine gg_cv0 m_Wrd_35 d_Wrd_cut_85 (c_Row_add (d := 0) (hr_b (by omega)) (by omega)) rfl rfl rfl rfl (by omega) rfl (Nat.le_of_ble_eq_true rfl) ?_
                    first | show gg_G _ _ _ _ _ _ _ _ _ _ _ _ (hp tN tF oN oF rN rF pN pF (b1 + 1) (upd f1 b1 (tF p)) e2 g2 lo mT mO mW mR mP zT zO zX zB zL zR zP zQ lm) | show gg_G _ _ _ _ _ _ _ _ _ _ _ _ (hp tN tF oN oF rN rF pN pF (b1 + 1) (upd f1 b1 (tF p)) e1 g1 lo mT mO mW mR mP zT zO zX zB zL zR zP zQ lm)
                    refine gg_iload d_Wrd_cut_88 rfl ?_
                    refine gg_if_eq 97 d_Wrd_cut_90 (by decide) (fun c90 => ?_) (fun c90 => ?_)
                    · first
                      | exact absurd c90 (by decide)
                      | refine gg_iinc (1) d_Wrd_cut_97 rfl (by decide) (by decide) rfl ?_
                        dsimp only [List.set]
                        refine gg_goto 17 d_Wrd_cut_100 (by decide) ?_
                        rw [nI_1]
                        refine gg_forget 7 ?_
                        refine gg_forget 8 ?_
                        dsimp only [List.set]
                        exact ih (p + 1) _ _ _ _ (by omega) (by omega) hR9
                    · first
                      | exact absurd rfl c90
                      | refine gg_aload_n 0 d_Wrd_cut_93 rfl rfl ?_
                        refine gg_cv0 m_Wrd_32 d_Wrd_cut_94 (c_Wrd_closeWord (d := 2) hp3.1 hp3.2.1 hp3.2.2.1 (by have := hp3.2.2.2.1; omega) (by have := hp3.2.2.2.2.1; omega) (fun y => by have := hp3.2.2.2.2.2 y; omega) (by omega)) rfl rfl rfl rfl (by omega) rfl (Nat.le_of_ble_eq_true rfl) ?_
                        refine gg_iinc (1) d_Wrd_cut_97 rfl (by decide) (by decide) rfl ?_
                        dsimp only [List.set]
                        refine gg_goto 17 d_Wrd_cut_100 (by decide) ?_
                        rw [nI_1]
                        refine gg_forget 7 ?_
                        refine gg_forget 8 ?_
                        dsimp only [List.set]
                        exact ih (p + 1) _ _ _ _ (by omega) (by omega) hR9
                · first
                  | exact absurd rfl c71
                  | refine gg_iload d_Wrd_cut_74 rfl ?_
                    refine gg_if_eq 88 d_Wrd_cut_76 (by decide) (fun c76 => ?_) (fun c76 => ?_)
                    · have hp3 := hRc.pre
                      have hR9 := (hRc.close).skip (by rw [wd_close_beg])
                      rw [wd_close_id (wd_close_beg p _), ← wd_cut hcu c76] at hR9
                      refine gg_iload d_Wrd_cut_88 rfl ?_
                      refine gg_if_eq 97 d_Wrd_cut_90 (by decide) (fun c90 => ?_) (fun c90 => ?_)
                      · first
                        | exact absurd c90 (by decide)
                        | refine gg_iinc (1) d_Wrd_cut_97 rfl (by decide) (by decide) rfl ?_
                          dsimp only [List.set]
                          refine gg_goto 17 d_Wrd_cut_100 (by decide) ?_
                          rw [nI_1]
                          refine gg_forget 7 ?_
                          refine gg_forget 8 ?_
                          dsimp only [List.set]
                          exact ih (p + 1) _ _ _ _ (by omega) (by omega) hR9
                      · first
                        | exact absurd rfl c90
                        | refine gg_aload_n 0 d_Wrd_cut_93 rfl rfl ?_
                          refine gg_cv0 m_Wrd_32 d_Wrd_cut_94 (c_Wrd_closeWord (d := 2) hp3.1 hp3.2.1 hp3.2.2.1 (by have := hp3.2.2.2.1; omega) (by have := hp3.2.2.2.2.1; omega) (fun y => by have := hp3.2.2.2.2.2 y; omega) (by omega)) rfl rfl rfl rfl (by omega) rfl (Nat.le_of_ble_eq_true rfl) ?_
                          refine gg_iinc (1) d_Wrd_cut_97 rfl (by decide) (by decide) rfl ?_
                          dsimp only [List.set]
                          refine gg_goto 17 d_Wrd_cut_100 (by decide) ?_
                          rw [nI_1]
                          refine gg_forget 7 ?_
                          refine gg_forget 8 ?_
                          dsimp only [List.set]
                          exact ih (p + 1) _ _ _ _ (by omega) (by omega) hR9
                    · have hp3 := (hRc.add).pre
                      have hR9 := (hRc.add).close
                      rw [← wd_kept hcu c76] at hR9
                      refine gg_aload_n 0 d_Wrd_cut_79 rfl rfl ?_
                      refine gg_get f_Wrd_12 d_Wrd_cut_80 rfl rfl ?_
                      refine gg_iload d_Wrd_cut_83 rfl ?_
                      refine gg_cv0 m_Wrd_35 d_Wrd_cut_85 (c_Row_add (d := 0) (hr_b (by omega)) (by omega)) rfl rfl rfl rfl (by omega) rfl (Nat.le_of_ble_eq_true rfl) ?_
                      first | show gg_G _ _ _ _ _ _ _ _ _ _ _ _ (hp tN tF oN oF rN rF pN pF (b1 + 1) (upd f1 b1 (tF p)) e2 g2 lo mT mO mW mR mP zT zO zX zB zL zR zP zQ lm) | show gg_G _ _ _ _ _ _ _ _ _ _ _ _ (hp tN tF oN oF rN rF pN pF (b1 + 1) (upd f1 b1 (tF p)) e1 g1 lo mT mO mW mR mP zT zO zX zB zL zR zP zQ lm)
                      refine gg_iload d_Wrd_cut_88 rfl ?_
                      refine gg_if_eq 97 d_Wrd_cut_90 (by decide) (fun c90 => ?_) (fun c90 => ?_)
                      · first
                        | exact absurd c90 (by decide)
                        | refine gg_iinc (1) d_Wrd_cut_97 rfl (by decide) (by decide) rfl ?_
                          dsimp only [List.set]
                          refine gg_goto 17 d_Wrd_cut_100 (by decide) ?_
                          rw [nI_1]
                          refine gg_forget 7 ?_
                          refine gg_forget 8 ?_
                          dsimp only [List.set]
                          exact ih (p + 1) _ _ _ _ (by omega) (by omega) hR9
                      · first
                        | exact absurd rfl c90
                        | refine gg_aload_n 0 d_Wrd_cut_93 rfl rfl ?_
                          refine gg_cv0 m_Wrd_32 d_Wrd_cut_94 (c_Wrd_closeWord (d := 2) hp3.1 hp3.2.1 hp3.2.2.1 (by have := hp3.2.2.2.1; omega) (by have := hp3.2.2.2.2.1; omega) (fun y => by have := hp3.2.2.2.2.2 y; omega) (by omega)) rfl rfl rfl rfl (by omega) rfl (Nat.le_of_ble_eq_true rfl) ?_
                          refine gg_iinc (1) d_Wrd_cut_97 rfl (by decide) (by decide) rfl ?_
                          dsimp only [List.set]
                          refine gg_goto 17 d_Wrd_cut_100 (by decide) ?_
                          rw [nI_1]
                          refine gg_forget 7 ?_
                          refine gg_forget 8 ?_
                          dsimp only [List.set]
                          exact ih (p + 1) _ _ _ _ (by omega) (by omega) hR9
            · first
              | exact absurd rfl c62
              | have hRc := hR.close
                refine gg_aload_n 0 d_Wrd_cut_65 rfl rfl ?_
                refine gg_cv0 m_Wrd_32 d_Wrd_cut_66 (c_Wrd_closeWord (d := 2) hp1.1 hp1.2.1 hp1.2.2.1 (by have := hp1.2.2.2.1; omega) (by have := hp1.2.2.2.2.1; omega) (fun y => by have := hp1.2.2.2.2.2 y; omega) (by omega)) rfl rfl rfl rfl (by omega) rfl (Nat.le_of_ble_eq_true rfl) ?_
                generalize (if wd_st (wd tF a b c t p).2.2.1 (wd tF a b c t p).1 < b1 then e1 + 1 else e1) = e2 at hRc ⊢
                generalize (if wd_st (wd tF a b c t p).2.2.1 (wd tF a b c t p).1 < b1 then upd g1 e1 (nI b1) else g1) = g2 at hRc ⊢
                refine gg_iload d_Wrd_cut_69 rfl ?_
                refine gg_if_eq 79 d_Wrd_cut_71 (by decide) (fun c71 => ?_) (fun c71 => ?_)
                · first
                  | exact absurd c71 (by decide)
                  | refine gg_aload_n 0 d_Wrd_cut_79 rfl rfl ?_
                    refine gg_get f_Wrd_12 d_Wrd_cut_80 rfl rfl ?_
                    refine gg_iload d_Wrd_cut_83 rfl ?_
                    refine gg_cv0 m_Wrd_35 d_Wrd_cut_85 (c_Row_add (d := 0) (hr_b (by omega)) (by omega)) rfl rfl rfl rfl (by omega) rfl (Nat.le_of_ble_eq_true rfl) ?_
                    first | show gg_G _ _ _ _ _ _ _ _ _ _ _ _ (hp tN tF oN oF rN rF pN pF (b1 + 1) (upd f1 b1 (tF p)) e2 g2 lo mT mO mW mR mP zT zO zX zB zL zR zP zQ lm) | show gg_G _ _ _ _ _ _ _ _ _ _ _ _ (hp tN tF oN oF rN rF pN pF (b1 + 1) (upd f1 b1 (tF p)) e1 g1 lo mT mO mW mR mP zT zO zX zB zL zR zP zQ lm)
                    refine gg_iload d_Wrd_cut_88 rfl ?_
                    refine gg_if_eq 97 d_Wrd_cut_90 (by decide) (fun c90 => ?_) (fun c90 => ?_)
                    · first
                      | exact absurd c90 (by decide)
                      | refine gg_iinc (1) d_Wrd_cut_97 rfl (by decide) (by decide) rfl ?_
                        dsimp only [List.set]
                        refine gg_goto 17 d_Wrd_cut_100 (by decide) ?_
                        rw [nI_1]
                        refine gg_forget 7 ?_
                        refine gg_forget 8 ?_
                        dsimp only [List.set]
                        exact ih (p + 1) _ _ _ _ (by omega) (by omega) hR9
                    · first
                      | exact absurd rfl c90
                      | refine gg_aload_n 0 d_Wrd_cut_93 rfl rfl ?_
                        refine gg_cv0 m_Wrd_32 d_Wrd_cut_94 (c_Wrd_closeWord (d := 2) hp3.1 hp3.2.1 hp3.2.2.1 (by have := hp3.2.2.2.1; omega) (by have := hp3.2.2.2.2.1; omega) (fun y => by have := hp3.2.2.2.2.2 y; omega) (by omega)) rfl rfl rfl rfl (by omega) rfl (Nat.le_of_ble_eq_true rfl) ?_
                        refine gg_iinc (1) d_Wrd_cut_97 rfl (by decide) (by decide) rfl ?_
                        dsimp only [List.set]
                        refine gg_goto 17 d_Wrd_cut_100 (by decide) ?_
                        rw [nI_1]
                        refine gg_forget 7 ?_
                        refine gg_forget 8 ?_
                        dsimp only [List.set]
                        exact ih (p + 1) _ _ _ _ (by omega) (by omega) hR9
                · first
                  | exact absurd rfl c71
                  | refine gg_iload d_Wrd_cut_74 rfl ?_
                    refine gg_if_eq 88 d_Wrd_cut_76 (by decide) (fun c76 => ?_) (fun c76 => ?_)
                    · have hp3 := hRc.pre
                      have hR9 := (hRc.close).skip (by rw [wd_close_beg])
                      rw [wd_close_id (wd_close_beg p _), ← wd_cut hcu c76] at hR9
                      refine gg_iload d_Wrd_cut_88 rfl ?_
                      refine gg_if_eq 97 d_Wrd_cut_90 (by decide) (fun c90 => ?_) (fun c90 => ?_)
                      · first
                        | exact absurd c90 (by decide)
                        | refine gg_iinc (1) d_Wrd_cut_97 rfl (by decide) (by decide) rfl ?_
                          dsimp only [List.set]
                          refine gg_goto 17 d_Wrd_cut_100 (by decide) ?_
                          rw [nI_1]
                          refine gg_forget 7 ?_
                          refine gg_forget 8 ?_
                          dsimp only [List.set]
                          exact ih (p + 1) _ _ _ _ (by omega) (by omega) hR9
                      · first
                        | exact absurd rfl c90
                        | refine gg_aload_n 0 d_Wrd_cut_93 rfl rfl ?_
                          refine gg_cv0 m_Wrd_32 d_Wrd_cut_94 (c_Wrd_closeWord (d := 2) hp3.1 hp3.2.1 hp3.2.2.1 (by have := hp3.2.2.2.1; omega) (by have := hp3.2.2.2.2.1; omega) (fun y => by have := hp3.2.2.2.2.2 y; omega) (by omega)) rfl rfl rfl rfl (by omega) rfl (Nat.le_of_ble_eq_true rfl) ?_
                          refine gg_iinc (1) d_Wrd_cut_97 rfl (by decide) (by decide) rfl ?_
                          dsimp only [List.set]
                          refine gg_goto 17 d_Wrd_cut_100 (by decide) ?_
                          rw [nI_1]
                          refine gg_forget 7 ?_
                          refine gg_forget 8 ?_
                          dsimp only [List.set]
                          exact ih (p + 1) _ _ _ _ (by omega) (by omega) hR9
                    · have hp3 := (hRc.add).pre
                      have hR9 := (hRc.add).close
                      rw [← wd_kept hcu c76] at hR9
                      refine gg_aload_n 0 d_Wrd_cut_79 rfl rfl ?_
                      refine gg_get f_Wrd_12 d_Wrd_cut_80 rfl rfl ?_
                      refine gg_iload d_Wrd_cut_83 rfl ?_
                      refine gg_cv0 m_Wrd_35 d_Wrd_cut_85 (c_Row_add (d := 0) (hr_b (by omega)) (by omega)) rfl rfl rfl rfl (by omega) rfl (Nat.le_of_ble_eq_true rfl) ?_
                      first | show gg_G _ _ _ _ _ _ _ _ _ _ _ _ (hp tN tF oN oF rN rF pN pF (b1 + 1) (upd f1 b1 (tF p)) e2 g2 lo mT mO mW mR mP zT zO zX zB zL zR zP zQ lm) | show gg_G _ _ _ _ _ _ _ _ _ _ _ _ (hp tN tF oN oF rN rF pN pF (b1 + 1) (upd f1 b1 (tF p)) e1 g1 lo mT mO mW mR mP zT zO zX zB zL zR zP zQ lm)
                      refine gg_iload d_Wrd_cut_88 rfl ?_
                      refine gg_if_eq 97 d_Wrd_cut_90 (by decide) (fun c90 => ?_) (fun c90 => ?_)
                      · first
                        | exact absurd c90 (by decide)
                        | refine gg_iinc (1) d_Wrd_cut_97 rfl (by decide) (by decide) rfl ?_
                          dsimp only [List.set]
                          refine gg_goto 17 d_Wrd_cut_100 (by decide) ?_
                          rw [nI_1]
                          refine gg_forget 7 ?_
                          refine gg_forget 8 ?_
                          dsimp only [List.set]
                          exact ih (p + 1) _ _ _ _ (by omega) (by omega) hR9
                      · first
                        | exact absurd rfl c90
                        | refine gg_aload_n 0 d_Wrd_cut_93 rfl rfl ?_
                          refine gg_cv0 m_Wrd_32 d_Wrd_cut_94 (c_Wrd_closeWord (d := 2) hp3.1 hp3.2.1 hp3.2.2.1 (by have := hp3.2.2.2.1; omega) (by have := hp3.2.2.2.2.1; omega) (fun y => by have := hp3.2.2.2.2.2 y; omega) (by omega)) rfl rfl rfl rfl (by omega) rfl (Nat.le_of_ble_eq_true rfl) ?_
                          refine gg_iinc (1) d_Wrd_cut_97 rfl (by decide) (by decide) rfl ?_
                          dsimp only [List.set]
                          refine gg_goto 17 d_Wrd_cut_100 (by decide) ?_
                          rw [nI_1]
                          refine gg_forget 7 ?_
                          refine gg_forget 8 ?_
                          dsimp only [List.set]
                          exact ih (p + 1) _ _ _ _ (by omega) (by omega) hR9
          · refine gg_iload d_Wrd_cut_46 rfl ?_
            refine gg_iload d_Wrd_cut_48 rfl ?_
            refine gg_icmp_ne 57 d_Wrd_cut_50 (by decide) (fun c50 => ?_) (fun c50 => ?_)
            · have hcu : ¬ wd_cu tF a b c p := fun y => by
                rcases y with y | y | y
                · exact c37 y
                · exact c43 y
                · exact c50 y
              have hR9 := hR.add
              rw [← wd_no (t := t) hcu] at hR9
              refine gg_iconst (v := 0) d_Wrd_cut_57 (by decide) ?_
              refine gg_istore d_Wrd_cut_58 (by decide) rfl ?_
              dsimp only [List.set]
              refine gg_iload d_Wrd_cut_60 rfl ?_
              refine gg_if_eq 69 d_Wrd_cut_62 (by decide) (fun c62 => ?_) (fun c62 => ?_)
              · first
                | exact absurd c62 (by decide)
                | refine gg_iload d_Wrd_cut_69 rfl ?_
                  refine gg_if_eq 79 d_Wrd_cut_71 (by decide) (fun c71 => ?_) (fun c71 => ?_)
                  · first
                    | exact absurd c71 (by decide)
                    | refine gg_aload_n 0 d_Wrd_cut_79 rfl rfl ?_
                      refine gg_get f_Wrd_12 d_Wrd_cut_80 rfl rfl ?_
                      refine gg_iload d_Wrd_cut_83 rfl ?_
                      refine gg_cv0 m_Wrd_35 d_Wrd_cut_85 (c_Row_add (d := 0) (hr_b (by omega)) (by omega)) rfl rfl rfl rfl (by omega) rfl (Nat.le_of_ble_eq_true rfl) ?_
                      first | show gg_G _ _ _ _ _ _ _ _ _ _ _ _ (hp tN tF oN oF rN rF pN pF (b1 + 1) (upd f1 b1 (tF p)) e2 g2 lo mT mO mW mR mP zT zO zX zB zL zR zP zQ lm) | show gg_G _ _ _ _ _ _ _ _ _ _ _ _ (hp tN tF oN oF rN rF pN pF (b1 + 1) (upd f1 b1 (tF p)) e1 g1 lo mT mO mW mR mP zT zO zX zB zL zR zP zQ lm)
                      refine gg_iload d_Wrd_cut_88 rfl ?_
                      refine gg_if_eq 97 d_Wrd_cut_90 (by decide) (fun c90 => ?_) (fun c90 => ?_)
                      · first
                        | exact absurd c90 (by decide)
                        | refine gg_iinc (1) d_Wrd_cut_97 rfl (by decide) (by decide) rfl ?_
                          dsimp only [List.set]
                          refine gg_goto 17 d_Wrd_cut_100 (by decide) ?_
                          rw [nI_1]
                          refine gg_forget 7 ?_
                          refine gg_forget 8 ?_
                          dsimp only [List.set]
                          exact ih (p + 1) _ _ _ _ (by omega) (by omega) hR9
                      · first
                        | exact absurd rfl c90
                        | refine gg_aload_n 0 d_Wrd_cut_93 rfl rfl ?_
                          refine gg_cv0 m_Wrd_32 d_Wrd_cut_94 (c_Wrd_closeWord (d := 2) hp3.1 hp3.2.1 hp3.2.2.1 (by have := hp3.2.2.2.1; omega) (by have := hp3.2.2.2.2.1; omega) (fun y => by have := hp3.2.2.2.2.2 y; omega) (by omega)) rfl rfl rfl rfl (by omega) rfl (Nat.le_of_ble_eq_true rfl) ?_
                          refine gg_iinc (1) d_Wrd_cut_97 rfl (by decide) (by decide) rfl ?_
                          dsimp only [List.set]
                          refine gg_goto 17 d_Wrd_cut_100 (by decide) ?_
                          rw [nI_1]
                          refine gg_forget 7 ?_
                          refine gg_forget 8 ?_
                          dsimp only [List.set]
                          exact ih (p + 1) _ _ _ _ (by omega) (by omega) hR9
                  · first
                    | exact absurd rfl c71
                    | refine gg_iload d_Wrd_cut_74 rfl ?_
                      refine gg_if_eq 88 d_Wrd_cut_76 (by decide) (fun c76 => ?_) (fun c76 => ?_)
                      · have hp3 := hRc.pre
                        have hR9 := (hRc.close).skip (by rw [wd_close_beg])
                        rw [wd_close_id (wd_close_beg p _), ← wd_cut hcu c76] at hR9
                        refine gg_iload d_Wrd_cut_88 rfl ?_
                        refine gg_if_eq 97 d_Wrd_cut_90 (by decide) (fun c90 => ?_) (fun c90 => ?_)
                        · first
                          | exact absurd c90 (by decide)
                          | refine gg_iinc (1) d_Wrd_cut_97 rfl (by decide) (by decide) rfl ?_
                            dsimp only [List.set]
                            refine gg_goto 17 d_Wrd_cut_100 (by decide) ?_
                            rw [nI_1]
                            refine gg_forget 7 ?_
                            refine gg_forget 8 ?_
                            dsimp only [List.set]
                            exact ih (p + 1) _ _ _ _ (by omega) (by omega) hR9
                        · first
                          | exact absurd rfl c90
                          | refine gg_aload_n 0 d_Wrd_cut_93 rfl rfl ?_
                            refine gg_cv0 m_Wrd_32 d_Wrd_cut_94 (c_Wrd_closeWord (d := 2) hp3.1 hp3.2.1 hp3.2.2.1 (by have := hp3.2.2.2.1; omega) (by have := hp3.2.2.2.2.1; omega) (fun y => by have := hp3.2.2.2.2.2 y; omega) (by omega)) rfl rfl rfl rfl (by omega) rfl (Nat.le_of_ble_eq_true rfl) ?_
                            refine gg_iinc (1) d_Wrd_cut_97 rfl (by decide) (by decide) rfl ?_
                            dsimp only [List.set]
                            refine gg_goto 17 d_Wrd_cut_100 (by decide) ?_
                            rw [nI_1]
                            refine gg_forget 7 ?_
                            refine gg_forget 8 ?_
                            dsimp only [List.set]
                            exact ih (p + 1) _ _ _ _ (by omega) (by omega) hR9
                      · have hp3 := (hRc.add).pre
                        have hR9 := (hRc.add).close
                        rw [← wd_kept hcu c76] at hR9
                        refine gg_aload_n 0 d_Wrd_cut_79 rfl rfl ?_
                        refine gg_get f_Wrd_12 d_Wrd_cut_80 rfl rfl ?_
                        refine gg_iload d_Wrd_cut_83 rfl ?_
                        refine gg_cv0 m_Wrd_35 d_Wrd_cut_85 (c_Row_add (d := 0) (hr_b (by omega)) (by omega)) rfl rfl rfl rfl (by omega) rfl (Nat.le_of_ble_eq_true rfl) ?_
                        first | show gg_G _ _ _ _ _ _ _ _ _ _ _ _ (hp tN tF oN oF rN rF pN pF (b1 + 1) (upd f1 b1 (tF p)) e2 g2 lo mT mO mW mR mP zT zO zX zB zL zR zP zQ lm) | show gg_G _ _ _ _ _ _ _ _ _ _ _ _ (hp tN tF oN oF rN rF pN pF (b1 + 1) (upd f1 b1 (tF p)) e1 g1 lo mT mO mW mR mP zT zO zX zB zL zR zP zQ lm)
                        refine gg_iload d_Wrd_cut_88 rfl ?_
                        refine gg_if_eq 97 d_Wrd_cut_90 (by decide) (fun c90 => ?_) (fun c90 => ?_)
                        · first
                          | exact absurd c90 (by decide)
                          | refine gg_iinc (1) d_Wrd_cut_97 rfl (by decide) (by decide) rfl ?_
                            dsimp only [List.set]
                            refine gg_goto 17 d_Wrd_cut_100 (by decide) ?_
                            rw [nI_1]
                            refine gg_forget 7 ?_
                            refine gg_forget 8 ?_
                            dsimp only [List.set]
                            exact ih (p + 1) _ _ _ _ (by omega) (by omega) hR9
                        · first
                          | exact absurd rfl c90
                          | refine gg_aload_n 0 d_Wrd_cut_93 rfl rfl ?_
                            refine gg_cv0 m_Wrd_32 d_Wrd_cut_94 (c_Wrd_closeWord (d := 2) hp3.1 hp3.2.1 hp3.2.2.1 (by have := hp3.2.2.2.1; omega) (by have := hp3.2.2.2.2.1; omega) (fun y => by have := hp3.2.2.2.2.2 y; omega) (by omega)) rfl rfl rfl rfl (by omega) rfl (Nat.le_of_ble_eq_true rfl) ?_
                            refine gg_iinc (1) d_Wrd_cut_97 rfl (by decide) (by decide) rfl ?_
                            dsimp only [List.set]
                            refine gg_goto 17 d_Wrd_cut_100 (by decide) ?_
                            rw [nI_1]
                            refine gg_forget 7 ?_
                            refine gg_forget 8 ?_
                            dsimp only [List.set]
                            exact ih (p + 1) _ _ _ _ (by omega) (by omega) hR9
              · first
                | exact absurd rfl c62
                | have hRc := hR.close
                  refine gg_aload_n 0 d_Wrd_cut_65 rfl rfl ?_
                  refine gg_cv0 m_Wrd_32 d_Wrd_cut_66 (c_Wrd_closeWord (d := 2) hp1.1 hp1.2.1 hp1.2.2.1 (by have := hp1.2.2.2.1; omega) (by have := hp1.2.2.2.2.1; omega) (fun y => by have := hp1.2.2.2.2.2 y; omega) (by omega)) rfl rfl rfl rfl (by omega) rfl (Nat.le_of_ble_eq_true rfl) ?_
                  generalize (if wd_st (wd tF a b c t p).2.2.1 (wd tF a b c t p).1 < b1 then e1 + 1 else e1) = e2 at hRc ⊢
                  generalize (if wd_st (wd tF a b c t p).2.2.1 (wd tF a b c t p).1 < b1 then upd g1 e1 (nI b1) else g1) = g2 at hRc ⊢
                  refine gg_iload d_Wrd_cut_69 rfl ?_
                  refine gg_if_eq 79 d_Wrd_cut_71 (by decide) (fun c71 => ?_) (fun c71 => ?_)
                  · first
                    | exact absurd c71 (by decide)
                    | refine gg_aload_n 0 d_Wrd_cut_79 rfl rfl ?_
                      refine gg_get f_Wrd_12 d_Wrd_cut_80 rfl rfl ?_
                      refine gg_iload d_Wrd_cut_83 rfl ?_
                      refine gg_cv0 m_Wrd_35 d_Wrd_cut_85 (c_Row_add (d := 0) (hr_b (by omega)) (by omega)) rfl rfl rfl rfl (by omega) rfl (Nat.le_of_ble_eq_true rfl) ?_
                      first | show gg_G _ _ _ _ _ _ _ _ _ _ _ _ (hp tN tF oN oF rN rF pN pF (b1 + 1) (upd f1 b1 (tF p)) e2 g2 lo mT mO mW mR mP zT zO zX zB zL zR zP zQ lm) | show gg_G _ _ _ _ _ _ _ _ _ _ _ _ (hp tN tF oN oF rN rF pN pF (b1 + 1) (upd f1 b1 (tF p)) e1 g1 lo mT mO mW mR mP zT zO zX zB zL zR zP zQ lm)
                      refine gg_iload d_Wrd_cut_88 rfl ?_
                      refine gg_if_eq 97 d_Wrd_cut_90 (by decide) (fun c90 => ?_) (fun c90 => ?_)
                      · first
                        | exact absurd c90 (by decide)
                        | refine gg_iinc (1) d_Wrd_cut_97 rfl (by decide) (by decide) rfl ?_
                          dsimp only [List.set]
                          refine gg_goto 17 d_Wrd_cut_100 (by decide) ?_
                          rw [nI_1]
                          refine gg_forget 7 ?_
                          refine gg_forget 8 ?_
                          dsimp only [List.set]
                          exact ih (p + 1) _ _ _ _ (by omega) (by omega) hR9
                      · first
                        | exact absurd rfl c90
                        | refine gg_aload_n 0 d_Wrd_cut_93 rfl rfl ?_
                          refine gg_cv0 m_Wrd_32 d_Wrd_cut_94 (c_Wrd_closeWord (d := 2) hp3.1 hp3.2.1 hp3.2.2.1 (by have := hp3.2.2.2.1; omega) (by have := hp3.2.2.2.2.1; omega) (fun y => by have := hp3.2.2.2.2.2 y; omega) (by omega)) rfl rfl rfl rfl (by omega) rfl (Nat.le_of_ble_eq_true rfl) ?_
                          refine gg_iinc (1) d_Wrd_cut_97 rfl (by decide) (by decide) rfl ?_
                          dsimp only [List.set]
                          refine gg_goto 17 d_Wrd_cut_100 (by decide) ?_
                          rw [nI_1]
                          refine gg_forget 7 ?_
                          refine gg_forget 8 ?_
                          dsimp only [List.set]
                          exact ih (p + 1) _ _ _ _ (by omega) (by omega) hR9
                  · first
                    | exact absurd rfl c71
                    | refine gg_iload d_Wrd_cut_74 rfl ?_
                      refine gg_if_eq 88 d_Wrd_cut_76 (by decide) (fun c76 => ?_) (fun c76 => ?_)
                      · have hp3 := hRc.pre
                        have hR9 := (hRc.close).skip (by rw [wd_close_beg])
                        rw [wd_close_id (wd_close_beg p _), ← wd_cut hcu c76] at hR9
                        refine gg_iload d_Wrd_cut_88 rfl ?_
                        refine gg_if_eq 97 d_Wrd_cut_90 (by decide) (fun c90 => ?_) (fun c90 => ?_)
                        · first
                          | exact absurd c90 (by decide)
                          | refine gg_iinc (1) d_Wrd_cut_97 rfl (by decide) (by decide) rfl ?_
                            dsimp only [List.set]
                            refine gg_goto 17 d_Wrd_cut_100 (by decide) ?_
                            rw [nI_1]
                            refine gg_forget 7 ?_
                            refine gg_forget 8 ?_
                            dsimp only [List.set]
                            exact ih (p + 1) _ _ _ _ (by omega) (by omega) hR9
                        · first
                          | exact absurd rfl c90
                          | refine gg_aload_n 0 d_Wrd_cut_93 rfl rfl ?_
                            refine gg_cv0 m_Wrd_32 d_Wrd_cut_94 (c_Wrd_closeWord (d := 2) hp3.1 hp3.2.1 hp3.2.2.1 (by have := hp3.2.2.2.1; omega) (by have := hp3.2.2.2.2.1; omega) (fun y => by have := hp3.2.2.2.2.2 y; omega) (by omega)) rfl rfl rfl rfl (by omega) rfl (Nat.le_of_ble_eq_true rfl) ?_
                            refine gg_iinc (1) d_Wrd_cut_97 rfl (by decide) (by decide) rfl ?_
                            dsimp only [List.set]
                            refine gg_goto 17 d_Wrd_cut_100 (by decide) ?_
                            rw [nI_1]
                            refine gg_forget 7 ?_
                            refine gg_forget 8 ?_
                            dsimp only [List.set]
                            exact ih (p + 1) _ _ _ _ (by omega) (by omega) hR9
                      · have hp3 := (hRc.add).pre
                        have hR9 := (hRc.add).close
                        rw [← wd_kept hcu c76] at hR9
                        refine gg_aload_n 0 d_Wrd_cut_79 rfl rfl ?_
                        refine gg_get f_Wrd_12 d_Wrd_cut_80 rfl rfl ?_
                        refine gg_iload d_Wrd_cut_83 rfl ?_
                        refine gg_cv0 m_Wrd_35 d_Wrd_cut_85 (c_Row_add (d := 0) (hr_b (by omega)) (by omega)) rfl rfl rfl rfl (by omega) rfl (Nat.le_of_ble_eq_true rfl) ?_
                        first | show gg_G _ _ _ _ _ _ _ _ _ _ _ _ (hp tN tF oN oF rN rF pN pF (b1 + 1) (upd f1 b1 (tF p)) e2 g2 lo mT mO mW mR mP zT zO zX zB zL zR zP zQ lm) | show gg_G _ _ _ _ _ _ _ _ _ _ _ _ (hp tN tF oN oF rN rF pN pF (b1 + 1) (upd f1 b1 (tF p)) e1 g1 lo mT mO mW mR mP zT zO zX zB zL zR zP zQ lm)
                        refine gg_iload d_Wrd_cut_88 rfl ?_
                        refine gg_if_eq 97 d_Wrd_cut_90 (by decide) (fun c90 => ?_) (fun c90 => ?_)
                        · first
                          | exact absurd c90 (by decide)
                          | refine gg_iinc (1) d_Wrd_cut_97 rfl (by decide) (by decide) rfl ?_
                            dsimp only [List.set]
                            refine gg_goto 17 d_Wrd_cut_100 (by decide) ?_
                            rw [nI_1]
                            refine gg_forget 7 ?_
                            refine gg_forget 8 ?_
                            dsimp only [List.set]
                            exact ih (p + 1) _ _ _ _ (by omega) (by omega) hR9
                        · first
                          | exact absurd rfl c90
                          | refine gg_aload_n 0 d_Wrd_cut_93 rfl rfl ?_
                            refine gg_cv0 m_Wrd_32 d_Wrd_cut_94 (c_Wrd_closeWord (d := 2) hp3.1 hp3.2.1 hp3.2.2.1 (by have := hp3.2.2.2.1; omega) (by have := hp3.2.2.2.2.1; omega) (fun y => by have := hp3.2.2.2.2.2 y; omega) (by omega)) rfl rfl rfl rfl (by omega) rfl (Nat.le_of_ble_eq_true rfl) ?_
                            refine gg_iinc (1) d_Wrd_cut_97 rfl (by decide) (by decide) rfl ?_
                            dsimp only [List.set]
                            refine gg_goto 17 d_Wrd_cut_100 (by decide) ?_
                            rw [nI_1]
                            refine gg_forget 7 ?_
                            refine gg_forget 8 ?_
                            dsimp only [List.set]
                            exact ih (p + 1) _ _ _ _ (by omega) (by omega) hR9
            · have hcu : wd_cu tF a b c p := Or.inr (Or.inr c50)
              refine gg_iconst (v := 1) d_Wrd_cut_53 (by decide) ?_
              refine gg_goto 58 d_Wrd_cut_54 (by decide) ?_
              refine gg_istore d_Wrd_cut_58 (by decide) rfl ?_
              dsimp only [List.set]
              refine gg_iload d_Wrd_cut_60 rfl ?_
              refine gg_if_eq 69 d_Wrd_cut_62 (by decide) (fun c62 => ?_) (fun c62 => ?_)
              · first
                | exact absurd c62 (by decide)
                | refine gg_iload d_Wrd_cut_69 rfl ?_
                  refine gg_if_eq 79 d_Wrd_cut_71 (by decide) (fun c71 => ?_) (fun c71 => ?_)
                  · first
                    | exact absurd c71 (by decide)
                    | refine gg_aload_n 0 d_Wrd_cut_79 rfl rfl ?_
                      refine gg_get f_Wrd_12 d_Wrd_cut_80 rfl rfl ?_
                      refine gg_iload d_Wrd_cut_83 rfl ?_
                      refine gg_cv0 m_Wrd_35 d_Wrd_cut_85 (c_Row_add (d := 0) (hr_b (by omega)) (by omega)) rfl rfl rfl rfl (by omega) rfl (Nat.le_of_ble_eq_true rfl) ?_
                      first | show gg_G _ _ _ _ _ _ _ _ _ _ _ _ (hp tN tF oN oF rN rF pN pF (b1 + 1) (upd f1 b1 (tF p)) e2 g2 lo mT mO mW mR mP zT zO zX zB zL zR zP zQ lm) | show gg_G _ _ _ _ _ _ _ _ _ _ _ _ (hp tN tF oN oF rN rF pN pF (b1 + 1) (upd f1 b1 (tF p)) e1 g1 lo mT mO mW mR mP zT zO zX zB zL zR zP zQ lm)
                      refine gg_iload d_Wrd_cut_88 rfl ?_
                      refine gg_if_eq 97 d_Wrd_cut_90 (by decide) (fun c90 => ?_) (fun c90 => ?_)
                      · first
                        | exact absurd c90 (by decide)
                        | refine gg_iinc (1) d_Wrd_cut_97 rfl (by decide) (by decide) rfl ?_
                          dsimp only [List.set]
                          refine gg_goto 17 d_Wrd_cut_100 (by decide) ?_
                          rw [nI_1]
                          refine gg_forget 7 ?_
                          refine gg_forget 8 ?_
                          dsimp only [List.set]
                          exact ih (p + 1) _ _ _ _ (by omega) (by omega) hR9
                      · first
                        | exact absurd rfl c90
                        | refine gg_aload_n 0 d_Wrd_cut_93 rfl rfl ?_
                          refine gg_cv0 m_Wrd_32 d_Wrd_cut_94 (c_Wrd_closeWord (d := 2) hp3.1 hp3.2.1 hp3.2.2.1 (by have := hp3.2.2.2.1; omega) (by have := hp3.2.2.2.2.1; omega) (fun y => by have := hp3.2.2.2.2.2 y; omega) (by omega)) rfl rfl rfl rfl (by omega) rfl (Nat.le_of_ble_eq_true rfl) ?_
                          refine gg_iinc (1) d_Wrd_cut_97 rfl (by decide) (by decide) rfl ?_
                          dsimp only [List.set]
                          refine gg_goto 17 d_Wrd_cut_100 (by decide) ?_
                          rw [nI_1]
                          refine gg_forget 7 ?_
                          refine gg_forget 8 ?_
                          dsimp only [List.set]
                          exact ih (p + 1) _ _ _ _ (by omega) (by omega) hR9
                  · first
                    | exact absurd rfl c71
                    | refine gg_iload d_Wrd_cut_74 rfl ?_
                      refine gg_if_eq 88 d_Wrd_cut_76 (by decide) (fun c76 => ?_) (fun c76 => ?_)
                      · have hp3 := hRc.pre
                        have hR9 := (hRc.close).skip (by rw [wd_close_beg])
                        rw [wd_close_id (wd_close_beg p _), ← wd_cut hcu c76] at hR9
                        refine gg_iload d_Wrd_cut_88 rfl ?_
                        refine gg_if_eq 97 d_Wrd_cut_90 (by decide) (fun c90 => ?_) (fun c90 => ?_)
                        · first
                          | exact absurd c90 (by decide)
                          | refine gg_iinc (1) d_Wrd_cut_97 rfl (by decide) (by decide) rfl ?_
                            dsimp only [List.set]
                            refine gg_goto 17 d_Wrd_cut_100 (by decide) ?_
                            rw [nI_1]
                            refine gg_forget 7 ?_
                            refine gg_forget 8 ?_
                            dsimp only [List.set]
                            exact ih (p + 1) _ _ _ _ (by omega) (by omega) hR9
                        · first
                          | exact absurd rfl c90
                          | refine gg_aload_n 0 d_Wrd_cut_93 rfl rfl ?_
                            refine gg_cv0 m_Wrd_32 d_Wrd_cut_94 (c_Wrd_closeWord (d := 2) hp3.1 hp3.2.1 hp3.2.2.1 (by have := hp3.2.2.2.1; omega) (by have := hp3.2.2.2.2.1; omega) (fun y => by have := hp3.2.2.2.2.2 y; omega) (by omega)) rfl rfl rfl rfl (by omega) rfl (Nat.le_of_ble_eq_true rfl) ?_
                            refine gg_iinc (1) d_Wrd_cut_97 rfl (by decide) (by decide) rfl ?_
                            dsimp only [List.set]
                            refine gg_goto 17 d_Wrd_cut_100 (by decide) ?_
                            rw [nI_1]
                            refine gg_forget 7 ?_
                            refine gg_forget 8 ?_
                            dsimp only [List.set]
                            exact ih (p + 1) _ _ _ _ (by omega) (by omega) hR9
                      · have hp3 := (hRc.add).pre
                        have hR9 := (hRc.add).close
                        rw [← wd_kept hcu c76] at hR9
                        refine gg_aload_n 0 d_Wrd_cut_79 rfl rfl ?_
                        refine gg_get f_Wrd_12 d_Wrd_cut_80 rfl rfl ?_
                        refine gg_iload d_Wrd_cut_83 rfl ?_
                        refine gg_cv0 m_Wrd_35 d_Wrd_cut_85 (c_Row_add (d := 0) (hr_b (by omega)) (by omega)) rfl rfl rfl rfl (by omega) rfl (Nat.le_of_ble_eq_true rfl) ?_
                        first | show gg_G _ _ _ _ _ _ _ _ _ _ _ _ (hp tN tF oN oF rN rF pN pF (b1 + 1) (upd f1 b1 (tF p)) e2 g2 lo mT mO mW mR mP zT zO zX zB zL zR zP zQ lm) | show gg_G _ _ _ _ _ _ _ _ _ _ _ _ (hp tN tF oN oF rN rF pN pF (b1 + 1) (upd f1 b1 (tF p)) e1 g1 lo mT mO mW mR mP zT zO zX zB zL zR zP zQ lm)
                        refine gg_iload d_Wrd_cut_88 rfl ?_
                        refine gg_if_eq 97 d_Wrd_cut_90 (by decide) (fun c90 => ?_) (fun c90 => ?_)
                        · first
                          | exact absurd c90 (by decide)
                          | refine gg_iinc (1) d_Wrd_cut_97 rfl (by decide) (by decide) rfl ?_
                            dsimp only [List.set]
                            refine gg_goto 17 d_Wrd_cut_100 (by decide) ?_
                            rw [nI_1]
                            refine gg_forget 7 ?_
                            refine gg_forget 8 ?_
                            dsimp only [List.set]
                            exact ih (p + 1) _ _ _ _ (by omega) (by omega) hR9
                        · first
                          | exact absurd rfl c90
                          | refine gg_aload_n 0 d_Wrd_cut_93 rfl rfl ?_
                            refine gg_cv0 m_Wrd_32 d_Wrd_cut_94 (c_Wrd_closeWord (d := 2) hp3.1 hp3.2.1 hp3.2.2.1 (by have := hp3.2.2.2.1; omega) (by have := hp3.2.2.2.2.1; omega) (fun y => by have := hp3.2.2.2.2.2 y; omega) (by omega)) rfl rfl rfl rfl (by omega) rfl (Nat.le_of_ble_eq_true rfl) ?_
                            refine gg_iinc (1) d_Wrd_cut_97 rfl (by decide) (by decide) rfl ?_
                            dsimp only [List.set]
                            refine gg_goto 17 d_Wrd_cut_100 (by decide) ?_
                            rw [nI_1]
                            refine gg_forget 7 ?_
                            refine gg_forget 8 ?_
                            dsimp only [List.set]
                            exact ih (p + 1) _ _ _ _ (by omega) (by omega) hR9
              · first
                | exact absurd rfl c62
                | have hRc := hR.close
                  refine gg_aload_n 0 d_Wrd_cut_65 rfl rfl ?_
                  refine gg_cv0 m_Wrd_32 d_Wrd_cut_66 (c_Wrd_closeWord (d := 2) hp1.1 hp1.2.1 hp1.2.2.1 (by have := hp1.2.2.2.1; omega) (by have := hp1.2.2.2.2.1; omega) (fun y => by have := hp1.2.2.2.2.2 y; omega) (by omega)) rfl rfl rfl rfl (by omega) rfl (Nat.le_of_ble_eq_true rfl) ?_
                  generalize (if wd_st (wd tF a b c t p).2.2.1 (wd tF a b c t p).1 < b1 then e1 + 1 else e1) = e2 at hRc ⊢
                  generalize (if wd_st (wd tF a b c t p).2.2.1 (wd tF a b c t p).1 < b1 then upd g1 e1 (nI b1) else g1) = g2 at hRc ⊢
                  refine gg_iload d_Wrd_cut_69 rfl ?_
                  refine gg_if_eq 79 d_Wrd_cut_71 (by decide) (fun c71 => ?_) (fun c71 => ?_)
                  · first
                    | exact absurd c71 (by decide)
                    | refine gg_aload_n 0 d_Wrd_cut_79 rfl rfl ?_
                      refine gg_get f_Wrd_12 d_Wrd_cut_80 rfl rfl ?_
                      refine gg_iload d_Wrd_cut_83 rfl ?_
                      refine gg_cv0 m_Wrd_35 d_Wrd_cut_85 (c_Row_add (d := 0) (hr_b (by omega)) (by omega)) rfl rfl rfl rfl (by omega) rfl (Nat.le_of_ble_eq_true rfl) ?_
                      first | show gg_G _ _ _ _ _ _ _ _ _ _ _ _ (hp tN tF oN oF rN rF pN pF (b1 + 1) (upd f1 b1 (tF p)) e2 g2 lo mT mO mW mR mP zT zO zX zB zL zR zP zQ lm) | show gg_G _ _ _ _ _ _ _ _ _ _ _ _ (hp tN tF oN oF rN rF pN pF (b1 + 1) (upd f1 b1 (tF p)) e1 g1 lo mT mO mW mR mP zT zO zX zB zL zR zP zQ lm)
                      refine gg_iload d_Wrd_cut_88 rfl ?_
                      refine gg_if_eq 97 d_Wrd_cut_90 (by decide) (fun c90 => ?_) (fun c90 => ?_)
                      · first
                        | exact absurd c90 (by decide)
                        | refine gg_iinc (1) d_Wrd_cut_97 rfl (by decide) (by decide) rfl ?_
                          dsimp only [List.set]
                          refine gg_goto 17 d_Wrd_cut_100 (by decide) ?_
                          rw [nI_1]
                          refine gg_forget 7 ?_
                          refine gg_forget 8 ?_
                          dsimp only [List.set]
                          exact ih (p + 1) _ _ _ _ (by omega) (by omega) hR9
                      · first
                        | exact absurd rfl c90
                        | refine gg_aload_n 0 d_Wrd_cut_93 rfl rfl ?_
                          refine gg_cv0 m_Wrd_32 d_Wrd_cut_94 (c_Wrd_closeWord (d := 2) hp3.1 hp3.2.1 hp3.2.2.1 (by have := hp3.2.2.2.1; omega) (by have := hp3.2.2.2.2.1; omega) (fun y => by have := hp3.2.2.2.2.2 y; omega) (by omega)) rfl rfl rfl rfl (by omega) rfl (Nat.le_of_ble_eq_true rfl) ?_
                          refine gg_iinc (1) d_Wrd_cut_97 rfl (by decide) (by decide) rfl ?_
                          dsimp only [List.set]
                          refine gg_goto 17 d_Wrd_cut_100 (by decide) ?_
                          rw [nI_1]
                          refine gg_forget 7 ?_
                          refine gg_forget 8 ?_
                          dsimp only [List.set]
                          exact ih (p + 1) _ _ _ _ (by omega) (by omega) hR9
                  · first
                    | exact absurd rfl c71
                    | refine gg_iload d_Wrd_cut_74 rfl ?_
                      refine gg_if_eq 88 d_Wrd_cut_76 (by decide) (fun c76 => ?_) (fun c76 => ?_)
                      · have hp3 := hRc.pre
                        have hR9 := (hRc.close).skip (by rw [wd_close_beg])
                        rw [wd_close_id (wd_close_beg p _), ← wd_cut hcu c76] at hR9
                        refine gg_iload d_Wrd_cut_88 rfl ?_
                        refine gg_if_eq 97 d_Wrd_cut_90 (by decide) (fun c90 => ?_) (fun c90 => ?_)
                        · first
                          | exact absurd c90 (by decide)
                          | refine gg_iinc (1) d_Wrd_cut_97 rfl (by decide) (by decide) rfl ?_
                            dsimp only [List.set]
                            refine gg_goto 17 d_Wrd_cut_100 (by decide) ?_
                            rw [nI_1]
                            refine gg_forget 7 ?_
                            refine gg_forget 8 ?_
                            dsimp only [List.set]
                            exact ih (p + 1) _ _ _ _ (by omega) (by omega) hR9
                        · first
                          | exact absurd rfl c90
                          | refine gg_aload_n 0 d_Wrd_cut_93 rfl rfl ?_
                            refine gg_cv0 m_Wrd_32 d_Wrd_cut_94 (c_Wrd_closeWord (d := 2) hp3.1 hp3.2.1 hp3.2.2.1 (by have := hp3.2.2.2.1; omega) (by have := hp3.2.2.2.2.1; omega) (fun y => by have := hp3.2.2.2.2.2 y; omega) (by omega)) rfl rfl rfl rfl (by omega) rfl (Nat.le_of_ble_eq_true rfl) ?_
                            refine gg_iinc (1) d_Wrd_cut_97 rfl (by decide) (by decide) rfl ?_
                            dsimp only [List.set]
                            refine gg_goto 17 d_Wrd_cut_100 (by decide) ?_
                            rw [nI_1]
                            refine gg_forget 7 ?_
                            refine gg_forget 8 ?_
                            dsimp only [List.set]
                            exact ih (p + 1) _ _ _ _ (by omega) (by omega) hR9
                      · have hp3 := (hRc.add).pre
                        have hR9 := (hRc.add).close
                        rw [← wd_kept hcu c76] at hR9
                        refine gg_aload_n 0 d_Wrd_cut_79 rfl rfl ?_
                        refine gg_get f_Wrd_12 d_Wrd_cut_80 rfl rfl ?_
                        refine gg_iload d_Wrd_cut_83 rfl ?_
                        refine gg_cv0 m_Wrd_35 d_Wrd_cut_85 (c_Row_add (d := 0) (hr_b (by omega)) (by omega)) rfl rfl rfl rfl (by omega) rfl (Nat.le_of_ble_eq_true rfl) ?_
                        first | show gg_G _ _ _ _ _ _ _ _ _ _ _ _ (hp tN tF oN oF rN rF pN pF (b1 + 1) (upd f1 b1 (tF p)) e2 g2 lo mT mO mW mR mP zT zO zX zB zL zR zP zQ lm) | show gg_G _ _ _ _ _ _ _ _ _ _ _ _ (hp tN tF oN oF rN rF pN pF (b1 + 1) (upd f1 b1 (tF p)) e1 g1 lo mT mO mW mR mP zT zO zX zB zL zR zP zQ lm)
                        refine gg_iload d_Wrd_cut_88 rfl ?_
                        refine gg_if_eq 97 d_Wrd_cut_90 (by decide) (fun c90 => ?_) (fun c90 => ?_)
                        · first
                          | exact absurd c90 (by decide)
                          | refine gg_iinc (1) d_Wrd_cut_97 rfl (by decide) (by decide) rfl ?_
                            dsimp only [List.set]
                            refine gg_goto 17 d_Wrd_cut_100 (by decide) ?_
                            rw [nI_1]
                            refine gg_forget 7 ?_
                            refine gg_forget 8 ?_
                            dsimp only [List.set]
                            exact ih (p + 1) _ _ _ _ (by omega) (by omega) hR9
                        · first
                          | exact absurd rfl c90
                          | refine gg_aload_n 0 d_Wrd_cut_93 rfl rfl ?_
                            refine gg_cv0 m_Wrd_32 d_Wrd_cut_94 (c_Wrd_closeWord (d := 2) hp3.1 hp3.2.1 hp3.2.2.1 (by have := hp3.2.2.2.1; omega) (by have := hp3.2.2.2.2.1; omega) (fun y => by have := hp3.2.2.2.2.2 y; omega) (by omega)) rfl rfl rfl rfl (by omega) rfl (Nat.le_of_ble_eq_true rfl) ?_
                            refine gg_iinc (1) d_Wrd_cut_97 rfl (by decide) (by decide) rfl ?_
                            dsimp only [List.set]
                            refine gg_goto 17 d_Wrd_cut_100 (by decide) ?_
                            rw [nI_1]
                            refine gg_forget 7 ?_
                            refine gg_forget 8 ?_
                            dsimp only [List.set]
                            exact ih (p + 1) _ _ _ _ (by omega) (by omega) hR9
  refine gg_K.start (L := [some (.ref 9), some (.ref 1), some (.int a), some (.int b), some (.int c), some (.int t), none, none, none]) rfl (plainFor_of_name (by decide)) rfl (Nat.le_of_ble_eq_true rfl) ?_
  refine gg_aload_n 0 d_Wrd_cut_0 rfl rfl ?_
  refine gg_get f_Wrd_12 d_Wrd_cut_1 rfl rfl ?_
  refine gg_cv0 m_Wrd_25 d_Wrd_cut_4 (c_Row_clear (d := 0) (hr_b hbn)) rfl rfl rfl rfl (by omega) rfl (Nat.le_of_ble_eq_true rfl) ?_
  show gg_G _ _ _ _ _ _ _ _ _ _ _ _ (hp tN tF oN oF rN rF pN pF 0 bF eN eF lo mT mO mW mR mP zT zO zX zB zL zR zP zQ lm)
  refine gg_aload_n 0 d_Wrd_cut_7 rfl rfl ?_
  refine gg_get f_Wrd_18 d_Wrd_cut_8 rfl rfl ?_
  refine gg_cv0 m_Wrd_25 d_Wrd_cut_11 (c_Row_clear (d := 0) (hr_e hen)) rfl rfl rfl rfl (by omega) rfl (Nat.le_of_ble_eq_true rfl) ?_
  show gg_G _ _ _ _ _ _ _ _ _ _ _ _ (hp tN tF oN oF rN rF pN pF 0 bF 0 eF lo mT mO mW mR mP zT zO zX zB zL zR zP zQ lm)
  refine gg_iconst (v := 0) d_Wrd_cut_14 (by decide) ?_
  refine gg_istore d_Wrd_cut_15 (by decide) rfl ?_
  dsimp only [List.set]
  exact loop tN 0 0 bF 0 eF rfl (Nat.zero_le _) (wd_R.zero tF bF eF a b c t)
set_option maxHeartbeats 4000000 in
set_option maxRecDepth 100000 in
theorem c_Dsk_words  {a b c t : Int32} (ha : 0 ≤ a.toInt ∧ a.toInt ≤ 127) (hb : 0 ≤ b.toInt ∧ b.toInt ≤ 127) (hc : 0 ≤ c.toInt ∧ c.toInt ≤ 127) (ht : tN ≤ 400) (hbn : bN ≤ 400) (hen : eN ≤ 400) (hd : 4 ≤ d) : gg_K l D cA d y_Dsk_words b_Dsk_words 5 (some .int) [.ref 0, .int a, .int b, .int c, .int t] (hp tN tF oN oF rN rF pN pF bN bF eN eF lo mT mO mW mR mP zT zO zX zB zL zR zP zQ lm) (fun r h' => ∃ (b1 : Nat) (f1 : Nat → Int32) (e1 : Nat) (g1 : Nat → Int32), r = some (.int (nI e1)) ∧ h' = (hp tN tF oN oF rN rF pN pF b1 f1 e1 g1 lo mT mO mW mR mP zT zO zX zB zL zR zP zQ lm) ∧ wd_R tF tN (wd_close tN (wd tF a b c t tN)) b1 f1 e1 g1) := by
  refine gg_K.start (L := [some (.ref 0), some (.int a), some (.int b), some (.int c), some (.int t)]) rfl (plainFor_of_name (by decide)) rfl (Nat.le_of_ble_eq_true rfl) ?_
  refine gg_iload_n 1 d_Dsk_words_0 rfl rfl ?_
  refine gg_cs1 m_Dsk_90 d_Dsk_words_1 (c_Dsk_cuts (d := 0)) rfl (by omega) rfl (Nat.le_of_ble_eq_true rfl) ?_
  rw [sp_bt ha]
  refine gg_if_eq 21 d_Dsk_words_4 (by decide) (fun c4 => ?_) (fun c4 => ?_)
  · exact absurd c4 (by decide)
  · refine gg_iload_n 2 d_Dsk_words_7 rfl rfl ?_
    refine gg_cs1 m_Dsk_90 d_Dsk_words_8 (c_Dsk_cuts (d := 0)) rfl (by omega) rfl (Nat.le_of_ble_eq_true rfl) ?_
    rw [sp_bt hb]
    refine gg_if_eq 21 d_Dsk_words_11 (by decide) (fun c11 => ?_) (fun c11 => ?_)
    · exact absurd c11 (by decide)
    · refine gg_iload_n 3 d_Dsk_words_14 rfl rfl ?_
      refine gg_cs1 m_Dsk_90 d_Dsk_words_15 (c_Dsk_cuts (d := 0)) rfl (by omega) rfl (Nat.le_of_ble_eq_true rfl) ?_
      rw [sp_bt hc]
      refine gg_if_ne 23 d_Dsk_words_18 (by decide) (fun c18 => ?_) (fun c18 => ?_)
      · refine gg_aload_n 0 d_Dsk_words_23 rfl rfl ?_
        refine gg_get f_Dsk_30 d_Dsk_words_24 rfl rfl ?_
        refine gg_aload_n 0 d_Dsk_words_27 rfl rfl ?_
        refine gg_get f_Dsk_14 d_Dsk_words_28 rfl rfl ?_
        refine gg_iload_n 1 d_Dsk_words_31 rfl rfl ?_
        refine gg_iload_n 2 d_Dsk_words_32 rfl rfl ?_
        refine gg_iload_n 3 d_Dsk_words_33 rfl rfl ?_
        refine gg_iload d_Dsk_words_34 rfl ?_
        refine gg_callV m_Dsk_93 d_Dsk_words_36 (c_Wrd_cut (d := 3) ht hbn hen (by omega)) rfl rfl rfl rfl (by omega) rfl (Nat.le_of_ble_eq_true rfl) (fun r h1 hq => ?_)
        obtain ⟨rfl, b1, f1, e1, g1, rfl, hR⟩ := hq
        dsimp only [Option.toList, List.nil_append]
        have he1 : e1 ≤ tN := hR.pre.2.2.2.2.1
        refine gg_aload_n 0 d_Dsk_words_39 rfl rfl ?_
        refine gg_get f_Dsk_30 d_Dsk_words_40 rfl rfl ?_
        refine gg_cv1 m_Dsk_97 d_Dsk_words_43 (c_Wrd_howMany (d := 1) (by omega) (by omega)) rfl rfl rfl rfl (by omega) rfl (Nat.le_of_ble_eq_true rfl) ?_
        exact gg_ireturn d_Dsk_words_46 rfl rfl ⟨b1, f1, e1, g1, rfl, rfl, hR⟩
      · exact absurd c18 (by decide)
set_option maxHeartbeats 4000000 in
set_option maxRecDepth 100000 in
theorem c_Dsk_words_bad  {a b c t : Int32} (hx : ¬ ((0 ≤ a.toInt ∧ a.toInt ≤ 127) ∧ (0 ≤ b.toInt ∧ b.toInt ≤ 127) ∧ (0 ≤ c.toInt ∧ c.toInt ≤ 127))) (hd : 1 ≤ d) : gg_K l D cA d y_Dsk_words b_Dsk_words 5 (some .int) [.ref 0, .int a, .int b, .int c, .int t] (hp tN tF oN oF rN rF pN pF bN bF eN eF lo mT mO mW mR mP zT zO zX zB zL zR zP zQ lm) (gg_is (some (.int (-1))) (hp tN tF oN oF rN rF pN pF bN bF eN eF lo mT mO mW mR mP zT zO zX zB zL zR zP zQ lm)) := by
  refine gg_K.start (L := [some (.ref 0), some (.int a), some (.int b), some (.int c), some (.int t)]) rfl (plainFor_of_name (by decide)) rfl (Nat.le_of_ble_eq_true rfl) ?_
  refine gg_iload_n 1 d_Dsk_words_0 rfl rfl ?_
  refine gg_cs1 m_Dsk_90 d_Dsk_words_1 (c_Dsk_cuts (d := 0)) rfl (by omega) rfl (Nat.le_of_ble_eq_true rfl) ?_
  refine gg_if_eq 21 d_Dsk_words_4 (by decide) (fun c4 => ?_) (fun c4 => ?_)
  · refine gg_iconst (v := (-1)) d_Dsk_words_21 (by decide) ?_
    exact gg_ireturn d_Dsk_words_22 rfl rfl ⟨rfl, rfl⟩
  · refine gg_iload_n 2 d_Dsk_words_7 rfl rfl ?_
    refine gg_cs1 m_Dsk_90 d_Dsk_words_8 (c_Dsk_cuts (d := 0)) rfl (by omega) rfl (Nat.le_of_ble_eq_true rfl) ?_
    refine gg_if_eq 21 d_Dsk_words_11 (by decide) (fun c11 => ?_) (fun c11 => ?_)
    · refine gg_iconst (v := (-1)) d_Dsk_words_21 (by decide) ?_
      exact gg_ireturn d_Dsk_words_22 rfl rfl ⟨rfl, rfl⟩
    · refine gg_iload_n 3 d_Dsk_words_14 rfl rfl ?_
      refine gg_cs1 m_Dsk_90 d_Dsk_words_15 (c_Dsk_cuts (d := 0)) rfl (by omega) rfl (Nat.le_of_ble_eq_true rfl) ?_
      refine gg_if_ne 23 d_Dsk_words_18 (by decide) (fun c18 => ?_) (fun c18 => ?_)
      · exact absurd ⟨sp_b1 c4, sp_b1 c11, sp_b1 c18⟩ hx
      · refine gg_iconst (v := (-1)) d_Dsk_words_21 (by decide) ?_
        exact gg_ireturn d_Dsk_words_22 rfl rfl ⟨rfl, rfl⟩
set_option maxHeartbeats 4000000 in
set_option maxRecDepth 100000 in
theorem c_Wrd_copyWord  {k S0 S1 : Nat} (hs : nI S0 = if k = 0 then 0 else eF (k - 1)) (h1 : eF k = nI S1) (hk : k < eN) (he : eN ≤ 400) (h01 : S0 ≤ S1) (hS1 : S1 ≤ 400) (hbn : bN ≤ 400) (ho : oN + (S1 - S0) ≤ 536) (hd : 2 ≤ d) : gg_K l D cA d y_Wrd_copyWord b_Wrd_copyWord 3 none [.ref 9, .int (nI k), .ref 3] (hp tN tF oN oF rN rF pN pF bN bF eN eF lo mT mO mW mR mP zT zO zX zB zL zR zP zQ lm) (gg_is none (hp tN tF (oN + (S1 - S0)) (va_cpy bF oF S0 oN (S1 - S0)) rN rF pN pF bN bF eN eF lo mT mO mW mR mP zT zO zX zB zL zR zP zQ lm)) := by
  refine gg_K.start (L := [some (.ref 9), some (.int (nI k)), some (.ref 3)]) rfl (plainFor_of_name (by decide)) rfl (Nat.le_of_ble_eq_true rfl) ?_
  refine gg_aload_n 2 d_Wrd_copyWord_0 rfl rfl ?_
  refine gg_aload_n 0 d_Wrd_copyWord_1 rfl rfl ?_
  refine gg_get f_Wrd_12 d_Wrd_copyWord_2 rfl rfl ?_
  refine gg_aload_n 0 d_Wrd_copyWord_5 rfl rfl ?_
  refine gg_iload_n 1 d_Wrd_copyWord_6 rfl rfl ?_
  refine gg_cv1 m_Wrd_38 d_Wrd_copyWord_7 (c_Wrd_startOf (d := 1) hs (by omega) he (by omega)) rfl rfl rfl rfl (by omega) rfl (Nat.le_of_ble_eq_true rfl) ?_
  refine gg_aload_n 0 d_Wrd_copyWord_10 rfl rfl ?_
  refine gg_get f_Wrd_18 d_Wrd_copyWord_11 rfl rfl ?_
  refine gg_iload_n 1 d_Wrd_copyWord_14 rfl rfl ?_
  refine gg_cv1 m_Wrd_28 d_Wrd_copyWord_15 (c_Row_at (d := 0) (hr_e he) (by omega)) rfl rfl rfl rfl (by omega) rfl (Nat.le_of_ble_eq_true rfl) ?_
  rw [h1]
  refine gg_cv0 m_Wrd_41 d_Wrd_copyWord_18 (c_Row_addPart (d := 1) (hr_o (by omega)) (hr_b hbn) h01 hS1 (by omega) (by omega)) rfl rfl rfl rfl (by omega) rfl (Nat.le_of_ble_eq_true rfl) ?_
  show gg_G _ _ _ _ _ _ _ _ _ _ _ _ (hp tN tF (oN + (S1 - S0)) (va_cpy bF oF S0 oN (S1 - S0)) rN rF pN pF bN bF eN eF lo mT mO mW mR mP zT zO zX zB zL zR zP zQ lm)
  exact gg_return d_Wrd_copyWord_21 rfl ⟨rfl, rfl⟩
set_option maxHeartbeats 4000000 in
set_option maxRecDepth 100000 in
theorem c_Dsk_word  {k S0 S1 : Nat} (hs : nI S0 = if k = 0 then 0 else eF (k - 1)) (h1 : eF k = nI S1) (hk : k < eN) (he : eN ≤ 400) (h01 : S0 ≤ S1) (hS1 : S1 ≤ 400) (hbn : bN ≤ 400) (ho : oN ≤ 536) (hd : 3 ≤ d) : gg_K l D cA d y_Dsk_word b_Dsk_word 2 (some .int) [.ref 0, .int (nI k)] (hp tN tF oN oF rN rF pN pF bN bF eN eF lo mT mO mW mR mP zT zO zX zB zL zR zP zQ lm) (gg_is (some (.int (nI (0 + (S1 - S0))))) (hp tN tF (0 + (S1 - S0)) (va_cpy bF oF S0 0 (S1 - S0)) rN rF pN pF bN bF eN eF lo mT mO mW mR mP zT zO zX zB zL zR zP zQ lm)) := by
  refine gg_K.start (L := [some (.ref 0), some (.int (nI k))]) rfl (plainFor_of_name (by decide)) rfl (Nat.le_of_ble_eq_true rfl) ?_
  refine gg_iload_n 1 d_Dsk_word_0 rfl rfl ?_
  refine gg_if_lt 15 d_Dsk_word_1 (by decide) (fun c1 => ?_) (fun c1 => ?_)
  · exact absurd c1 (nI_pos (by omega))
  · refine gg_iload_n 1 d_Dsk_word_4 rfl rfl ?_
    refine gg_aload_n 0 d_Dsk_word_5 rfl rfl ?_
    refine gg_get f_Dsk_30 d_Dsk_word_6 rfl rfl ?_
    refine gg_cv1 m_Dsk_97 d_Dsk_word_9 (c_Wrd_howMany (d := 1) he (by omega)) rfl rfl rfl rfl (by omega) rfl (Nat.le_of_ble_eq_true rfl) ?_
    refine gg_icmp_lt 17 d_Dsk_word_12 (by decide) (fun c12 => ?_) (fun c12 => ?_)
    · refine gg_aload_n 0 d_Dsk_word_17 rfl rfl ?_
      refine gg_get f_Dsk_18 d_Dsk_word_18 rfl rfl ?_
      refine gg_cv0 m_Dsk_55 d_Dsk_word_21 (c_Row_clear (d := 0) (hr_o ho)) rfl rfl rfl rfl (by omega) rfl (Nat.le_of_ble_eq_true rfl) ?_
      show gg_G _ _ _ _ _ _ _ _ _ _ _ _ (hp tN tF 0 oF rN rF pN pF bN bF eN eF lo mT mO mW mR mP zT zO zX zB zL zR zP zQ lm)
      refine gg_aload_n 0 d_Dsk_word_24 rfl rfl ?_
      refine gg_get f_Dsk_30 d_Dsk_word_25 rfl rfl ?_
      refine gg_iload_n 1 d_Dsk_word_28 rfl rfl ?_
      refine gg_aload_n 0 d_Dsk_word_29 rfl rfl ?_
      refine gg_get f_Dsk_18 d_Dsk_word_30 rfl rfl ?_
      refine gg_cv0 m_Dsk_100 d_Dsk_word_33 (c_Wrd_copyWord (d := 2) hs h1 hk he h01 hS1 hbn (by omega) (by omega)) rfl rfl rfl rfl (by omega) rfl (Nat.le_of_ble_eq_true rfl) ?_
      refine gg_aload_n 0 d_Dsk_word_36 rfl rfl ?_
      refine gg_get f_Dsk_18 d_Dsk_word_37 rfl rfl ?_
      refine gg_cv1 m_Dsk_45 d_Dsk_word_40 (c_Row_length (d := 0) (hr_o (by omega))) rfl rfl rfl rfl (by omega) rfl (Nat.le_of_ble_eq_true rfl) ?_
      exact gg_ireturn d_Dsk_word_43 rfl rfl ⟨rfl, rfl⟩
    · exact absurd (nI_lt hk (by omega)) c12
set_option maxHeartbeats 4000000 in
set_option maxRecDepth 100000 in
theorem c_Dsk_word_bad  {x : Int32} (hx : ¬ sp_in x eN) (he : eN ≤ 400) (hd : 2 ≤ d) : gg_K l D cA d y_Dsk_word b_Dsk_word 2 (some .int) [.ref 0, .int x] (hp tN tF oN oF rN rF pN pF bN bF eN eF lo mT mO mW mR mP zT zO zX zB zL zR zP zQ lm) (gg_is (some (.int (-1))) (hp tN tF oN oF rN rF pN pF bN bF eN eF lo mT mO mW mR mP zT zO zX zB zL zR zP zQ lm)) := by
  refine gg_K.start (L := [some (.ref 0), some (.int x)]) rfl (plainFor_of_name (by decide)) rfl (Nat.le_of_ble_eq_true rfl) ?_
  refine gg_iload_n 1 d_Dsk_word_0 rfl rfl ?_
  refine gg_if_lt 15 d_Dsk_word_1 (by decide) (fun c1 => ?_) (fun c1 => ?_)
  · refine gg_iconst (v := (-1)) d_Dsk_word_15 (by decide) ?_
    exact gg_ireturn d_Dsk_word_16 rfl rfl ⟨rfl, rfl⟩
  · refine gg_iload_n 1 d_Dsk_word_4 rfl rfl ?_
    refine gg_aload_n 0 d_Dsk_word_5 rfl rfl ?_
    refine gg_get f_Dsk_30 d_Dsk_word_6 rfl rfl ?_
    refine gg_cv1 m_Dsk_97 d_Dsk_word_9 (c_Wrd_howMany (d := 1) he (by omega)) rfl rfl rfl rfl (by omega) rfl (Nat.le_of_ble_eq_true rfl) ?_
    refine gg_icmp_lt 17 d_Dsk_word_12 (by decide) (fun c12 => ?_) (fun c12 => ?_)
    · rw [sp_lt0] at c1
      rw [sp_ltn (by omega)] at c12
      exact absurd ⟨by omega, by omega⟩ hx
    · refine gg_iconst (v := (-1)) d_Dsk_word_15 (by decide) ?_
      exact gg_ireturn d_Dsk_word_16 rfl rfl ⟨rfl, rfl⟩
end WDS
