theorem wd_close_lt {p W g : Nat} {bg ln : Nat → Nat} (h : g < p) : wd_close p (W, bg, ln, g) = (W + 1, va_up bg W g, va_up ln W (p - g), p) := if_pos h
theorem wd_close_ge {p W g : Nat} {bg ln : Nat → Nat} (h : ¬ g < p) : wd_close p (W, bg, ln, g) = (W, bg, ln, p) := if_neg h
/-- m of x from g on, laid over v -/
def wd_cp (v x : Nat → Int32) (g m : Nat) : Nat → Int32 := fun j => if j < m then x (g + j) else v j
theorem wd_cp0 (v x : Nat → Int32) (g : Nat) : wd_cp v x g 0 = v := by
  funext j
  unfold wd_cp
  rw [if_neg (by omega)]
theorem wd_cp_step (v x : Nat → Int32) (g m : Nat) : upd (wd_cp v x g m) m (x (g + m)) = wd_cp v x g (m + 1) := by
  funext j
  unfold upd wd_cp
  by_cases h : j = m
  · subst h
    rw [if_pos rfl, if_pos (by omega)]
  · rw [if_neg h]
    by_cases h2 : j < m
    · rw [if_pos h2, if_pos (by omega)]
    · rw [if_neg h2, if_neg (by omega)]
section WDM
variable {l : Launch} {D : va_G} {cA : ClassId} {d : Nat} {tN oN rN pN bN eN mT mO mW mR mP : Nat} {tF oF rF pF bF eF zT zO zX zB zL zR zP zQ : Nat → Int32} {lo lm : Int64}
set_option maxHeartbeats 4000000 in
set_option maxRecDepth 100000 in
theorem c_Mdl_noSign  {h : List gg_C} {x : Int32}  : gg_K l D cA d y_Mdl_noSign b_Mdl_noSign 1 (some .boolean) [.int x] h (gg_is (some (.int (sp_b (¬ (0 ≤ x.toInt ∧ x.toInt ≤ 127))))) h) := by
  refine gg_K.start (L := [some (.int x)]) rfl (plainFor_of_name (by decide)) rfl (Nat.le_of_ble_eq_true rfl) ?_
  refine gg_iload_n 0 d_Mdl_noSign_0 rfl rfl ?_
  refine gg_if_lt 10 d_Mdl_noSign_1 (by decide) (fun c1 => ?_) (fun c1 => ?_)
  · rw [sp_lt0] at c1
    refine gg_iconst (v := 1) d_Mdl_noSign_10 (by decide) ?_
    refine gg_goto 15 d_Mdl_noSign_11 (by decide) ?_
    exact gg_ireturn d_Mdl_noSign_15 rfl (by decide) ⟨by first | rw [sp_bt (by omega)] | rw [sp_bf (by omega)], rfl⟩
  · rw [sp_lt0] at c1
    refine gg_iload_n 0 d_Mdl_noSign_4 rfl rfl ?_
    refine gg_bipush (v := nI 127) d_Mdl_noSign_5 (by decide) ?_
    refine gg_icmp_le 14 d_Mdl_noSign_7 (by decide) (fun c7 => ?_) (fun c7 => ?_)
    · rw [sp_nle (by decide)] at c7
      refine gg_iconst (v := 0) d_Mdl_noSign_14 (by decide) ?_
      exact gg_ireturn d_Mdl_noSign_15 rfl (by decide) ⟨by first | rw [sp_bt (by omega)] | rw [sp_bf (by omega)], rfl⟩
    · rw [sp_nle (by decide)] at c7
      refine gg_iconst (v := 1) d_Mdl_noSign_10 (by decide) ?_
      refine gg_goto 15 d_Mdl_noSign_11 (by decide) ?_
      exact gg_ireturn d_Mdl_noSign_15 rfl (by decide) ⟨by first | rw [sp_bt (by omega)] | rw [sp_bf (by omega)], rfl⟩
set_option maxHeartbeats 4000000 in
set_option maxRecDepth 100000 in
theorem c_Mdl_word  {g m : Nat} (hW : mW < 400) : gg_K l D cA d y_Mdl_word b_Mdl_word 3 none [.ref 14, .int (nI g), .int (nI m)] (hp tN tF oN oF rN rF pN pF bN bF eN eF lo mT mO mW mR mP zT zO zX zB zL zR zP zQ lm) (gg_is none (hp tN tF oN oF rN rF pN pF bN bF eN eF lo mT mO (mW + 1) mR mP zT zO zX (upd zB mW (nI g)) (upd zL mW (nI m)) zR zP zQ lm)) := by
  refine gg_K.start (L := [some (.ref 14), some (.int (nI g)), some (.int (nI m))]) rfl (plainFor_of_name (by decide)) rfl (Nat.le_of_ble_eq_true rfl) ?_
  refine gg_aload_n 0 d_Mdl_word_0 rfl rfl ?_
  refine gg_get f_Mdl_19 d_Mdl_word_1 rfl rfl ?_
  refine gg_aload_n 0 d_Mdl_word_4 rfl rfl ?_
  refine gg_get f_Mdl_64 d_Mdl_word_5 rfl rfl ?_
  refine gg_iload_n 1 d_Mdl_word_8 rfl rfl ?_
  refine gg_iast d_Mdl_word_9 rfl (by omega) (by decide) ?_
  show gg_G _ _ _ _ _ _ _ _ _ _ _ _ (hp tN tF oN oF rN rF pN pF bN bF eN eF lo mT mO mW mR mP zT zO zX (upd zB mW (nI g)) zL zR zP zQ lm)
  refine gg_aload_n 0 d_Mdl_word_10 rfl rfl ?_
  refine gg_get f_Mdl_22 d_Mdl_word_11 rfl rfl ?_
  refine gg_aload_n 0 d_Mdl_word_14 rfl rfl ?_
  refine gg_get f_Mdl_64 d_Mdl_word_15 rfl rfl ?_
  refine gg_iload_n 2 d_Mdl_word_18 rfl rfl ?_
  refine gg_iast d_Mdl_word_19 rfl (by omega) (by decide) ?_
  show gg_G _ _ _ _ _ _ _ _ _ _ _ _ (hp tN tF oN oF rN rF pN pF bN bF eN eF lo mT mO mW mR mP zT zO zX (upd zB mW (nI g)) (upd zL mW (nI m)) zR zP zQ lm)
  refine gg_aload_n 0 d_Mdl_word_20 rfl rfl ?_
  refine gg_dup d_Mdl_word_21 rfl ?_
  refine gg_get f_Mdl_64 d_Mdl_word_22 rfl rfl ?_
  refine gg_iconst (v := 1) d_Mdl_word_25 (by decide) ?_
  refine gg_iadd d_Mdl_word_26 ?_
  rw [nI_1]
  refine gg_puti u_Mdl_64 d_Mdl_word_27 rfl (Nat.le_of_ble_eq_true rfl) ?_
  dsimp only [List.set]
  show gg_G _ _ _ _ _ _ _ _ _ _ _ _ (hp tN tF oN oF rN rF pN pF bN bF eN eF lo mT mO (mW + 1) mR mP zT zO zX (upd zB mW (nI g)) (upd zL mW (nI m)) zR zP zQ lm)
  exact gg_return d_Mdl_word_30 rfl ⟨rfl, rfl⟩
set_option maxHeartbeats 4000000 in
set_option maxRecDepth 100000 in
theorem c_Mdl_words  {a b c t : Int32} {Wf gf : Nat} {bgf lnf : Nat → Nat} (ha : 0 ≤ a.toInt ∧ a.toInt ≤ 127) (hb : 0 ≤ b.toInt ∧ b.toInt ≤ 127) (hc : 0 ≤ c.toInt ∧ c.toInt ≤ 127) (hE : wd_close mT (wd zT a b c t mT) = (Wf, bgf, lnf, gf)) (ht : mT ≤ 400) (hd : 1 ≤ d) : gg_K l D cA d y_Mdl_words b_Mdl_words 8 (some .int) [.ref 14, .int a, .int b, .int c, .int t] (hp tN tF oN oF rN rF pN pF bN bF eN eF lo mT mO mW mR mP zT zO zX zB zL zR zP zQ lm) (gg_is (some (.int (nI Wf))) (hp tN tF oN oF rN rF pN pF bN bF eN eF lo mT mO Wf mR mP zT zO (mo_cp zX zT mT) (wd_ov zB Wf bgf) (wd_ov zL Wf lnf) zR zP zQ lm)) := by
  have fin : ∀ x, gg_G l D cA d R_Mdl b_Mdl_words 8 (some .int) (gg_is (some (.int (nI Wf))) (hp tN tF oN oF rN rF pN pF bN bF eN eF lo mT mO Wf mR mP zT zO (mo_cp zX zT mT) (wd_ov zB Wf bgf) (wd_ov zL Wf lnf) zR zP zQ lm)) 34 [some (.ref 14), some (.int a), some (.int b), some (.int c), some (.int t), some (.int x), some (.int (nI (mT + 1))), none] [] (hp tN tF oN oF rN rF pN pF bN bF eN eF lo mT mO Wf mR mP zT zO (mo_cp zX zT mT) (wd_ov zB Wf bgf) (wd_ov zL Wf lnf) zR zP zQ lm) := by
    intro x
    refine gg_iload d_Mdl_words_34 rfl ?_
    refine gg_aload_n 0 d_Mdl_words_36 rfl rfl ?_
    refine gg_get f_Mdl_34 d_Mdl_words_37 rfl rfl ?_
    refine gg_icmp_gt 177 d_Mdl_words_40 (by decide) (fun c40 => ?_) (fun c40 => ?_)
    · refine gg_aload_n 0 d_Mdl_words_177 rfl rfl ?_
      refine gg_get f_Mdl_64 d_Mdl_words_178 rfl rfl ?_
      exact gg_ireturn d_Mdl_words_181 rfl rfl ⟨rfl, rfl⟩
    · exact absurd (nI_lt (by omega) (by omega)) c40
  have loop : ∀ k : Nat, ∀ (p W : Nat) (bg ln : Nat → Nat) (g : Nat), mT - p = k → p ≤ mT → wd zT a b c t p = (W, bg, ln, g) → gg_G l D cA d R_Mdl b_Mdl_words 8 (some .int) (gg_is (some (.int (nI Wf))) (hp tN tF oN oF rN rF pN pF bN bF eN eF lo mT mO Wf mR mP zT zO (mo_cp zX zT mT) (wd_ov zB Wf bgf) (wd_ov zL Wf lnf) zR zP zQ lm)) 34 [some (.ref 14), some (.int a), some (.int b), some (.int c), some (.int t), some (.int (nI g)), some (.int (nI p)), none] [] ((hp tN tF oN oF rN rF pN pF bN bF eN eF lo mT mO W mR mP zT zO (mo_cp zX zT p) (wd_ov zB W bg) (wd_ov zL W ln) zR zP zQ lm)) := by
    intro k
    induction k with
    | zero =>
      intro p W bg ln g hk hpn hS
      have hbd := wd_bd zT a b c t p
      rw [hS] at hbd
      dsimp only at hbd
      have e9 : p = mT := by omega
      subst e9
      rw [hS] at hE
      refine gg_iload d_Mdl_words_34 rfl ?_
      refine gg_aload_n 0 d_Mdl_words_36 rfl rfl ?_
      refine gg_get f_Mdl_34 d_Mdl_words_37 rfl rfl ?_
      refine gg_icmp_gt 177 d_Mdl_words_40 (by decide) (fun c40 => ?_) (fun c40 => ?_)
      · exact absurd c40 (nI_nlt (by omega) (by omega))
      · refine gg_iload d_Mdl_words_43 rfl ?_
        refine gg_aload_n 0 d_Mdl_words_45 rfl rfl ?_
        refine gg_get f_Mdl_34 d_Mdl_words_46 rfl rfl ?_
        refine gg_icmp_ne 56 d_Mdl_words_49 (by decide) (fun c49 => ?_) (fun c49 => ?_)
        · exact absurd rfl c49
        · refine gg_iconst (v := 1) d_Mdl_words_52 (by decide) ?_
          refine gg_goto 57 d_Mdl_words_53 (by decide) ?_
          refine gg_istore d_Mdl_words_57 (by decide) rfl ?_
          dsimp only [List.set]
          refine gg_iload d_Mdl_words_59 rfl ?_
          refine gg_if_ne 118 d_Mdl_words_61 (by decide) (fun c61 => ?_) (fun c61 => ?_)
          · refine gg_iload d_Mdl_words_118 rfl ?_
            refine gg_if_ne 126 d_Mdl_words_120 (by decide) (fun c120 => ?_) (fun c120 => ?_)
            · refine gg_iload d_Mdl_words_126 rfl ?_
              refine gg_iload d_Mdl_words_128 rfl ?_
              refine gg_icmp_le 144 d_Mdl_words_130 (by decide) (fun c130 => ?_) (fun c130 => ?_)
              · rw [nI_leI (by omega) (by omega)] at c130
                rw [wd_close_ge (by omega)] at hE
                obtain ⟨rfl, rfl, rfl, rfl⟩ : W = Wf ∧ bg = bgf ∧ ln = lnf ∧ p = gf := by simpa only [Prod.mk.injEq] using hE
                refine gg_iload d_Mdl_words_144 rfl ?_
                refine gg_if_eq 165 d_Mdl_words_146 (by decide) (fun c146 => ?_) (fun c146 => ?_)
                · refine gg_iload d_Mdl_words_165 rfl ?_
                  refine gg_iconst (v := 1) d_Mdl_words_167 (by decide) ?_
                  refine gg_iadd d_Mdl_words_168 ?_
                  refine gg_istore d_Mdl_words_169 (by decide) rfl ?_
                  dsimp only [List.set]
                  refine gg_iinc (1) d_Mdl_words_171 rfl (by decide) (by decide) rfl ?_
                  dsimp only [List.set]
                  refine gg_goto 34 d_Mdl_words_174 (by decide) ?_
                  simp only [nI_1]
                  refine gg_forget 7 ?_
                  dsimp only [List.set]
                  exact fin _
                · refine gg_iload d_Mdl_words_149 rfl ?_
                  refine gg_aload_n 0 d_Mdl_words_151 rfl rfl ?_
                  refine gg_get f_Mdl_34 d_Mdl_words_152 rfl rfl ?_
                  refine gg_icmp_ge 165 d_Mdl_words_155 (by decide) (fun c155 => ?_) (fun c155 => ?_)
                  · refine gg_iload d_Mdl_words_165 rfl ?_
                    refine gg_iconst (v := 1) d_Mdl_words_167 (by decide) ?_
                    refine gg_iadd d_Mdl_words_168 ?_
                    refine gg_istore d_Mdl_words_169 (by decide) rfl ?_
                    dsimp only [List.set]
                    refine gg_iinc (1) d_Mdl_words_171 rfl (by decide) (by decide) rfl ?_
                    dsimp only [List.set]
                    refine gg_goto 34 d_Mdl_words_174 (by decide) ?_
                    simp only [nI_1]
                    refine gg_forget 7 ?_
                    dsimp only [List.set]
                    exact fin _
                  · exact absurd (nI_le (by omega) (by omega)) c155
              · rw [nI_leI (by omega) (by omega)] at c130
                rw [wd_close_lt (by omega)] at hE
                obtain ⟨rfl, rfl, rfl, rfl⟩ : W + 1 = Wf ∧ va_up bg W g = bgf ∧ va_up ln W (p - g) = lnf ∧ p = gf := by simpa only [Prod.mk.injEq] using hE
                refine gg_aload_n 0 d_Mdl_words_133 rfl rfl ?_
                refine gg_iload d_Mdl_words_134 rfl ?_
                refine gg_iload d_Mdl_words_136 rfl ?_
                refine gg_iload d_Mdl_words_138 rfl ?_
                refine gg_isub d_Mdl_words_140 ?_
                rw [pk_sub (by omega)]
                refine gg_cv0 m_Mdl_71 d_Mdl_words_141 (c_Mdl_word (d := 0) (by omega)) rfl rfl rfl rfl (by omega) rfl (Nat.le_of_ble_eq_true rfl) ?_
                rw [wd_ov_step, wd_ov_step]
                refine gg_iload d_Mdl_words_144 rfl ?_
                refine gg_if_eq 165 d_Mdl_words_146 (by decide) (fun c146 => ?_) (fun c146 => ?_)
                · refine gg_iload d_Mdl_words_165 rfl ?_
                  refine gg_iconst (v := 1) d_Mdl_words_167 (by decide) ?_
                  refine gg_iadd d_Mdl_words_168 ?_
                  refine gg_istore d_Mdl_words_169 (by decide) rfl ?_
                  dsimp only [List.set]
                  refine gg_iinc (1) d_Mdl_words_171 rfl (by decide) (by decide) rfl ?_
                  dsimp only [List.set]
                  refine gg_goto 34 d_Mdl_words_174 (by decide) ?_
                  simp only [nI_1]
                  refine gg_forget 7 ?_
                  dsimp only [List.set]
                  exact fin _
                · refine gg_iload d_Mdl_words_149 rfl ?_
                  refine gg_aload_n 0 d_Mdl_words_151 rfl rfl ?_
                  refine gg_get f_Mdl_34 d_Mdl_words_152 rfl rfl ?_
                  refine gg_icmp_ge 165 d_Mdl_words_155 (by decide) (fun c155 => ?_) (fun c155 => ?_)
                  · refine gg_iload d_Mdl_words_165 rfl ?_
                    refine gg_iconst (v := 1) d_Mdl_words_167 (by decide) ?_
                    refine gg_iadd d_Mdl_words_168 ?_
                    refine gg_istore d_Mdl_words_169 (by decide) rfl ?_
                    dsimp only [List.set]
                    refine gg_iinc (1) d_Mdl_words_171 rfl (by decide) (by decide) rfl ?_
                    dsimp only [List.set]
                    refine gg_goto 34 d_Mdl_words_174 (by decide) ?_
                    simp only [nI_1]
                    refine gg_forget 7 ?_
                    dsimp only [List.set]
                    exact fin _
                  · exact absurd (nI_le (by omega) (by omega)) c155
            · exact absurd c120 (by decide)
          · exact absurd c61 (by decide)
    | succ k ih =>
      intro p W bg ln g hk hpn hS
      have hbd := wd_bd zT a b c t p
      rw [hS] at hbd
      dsimp only at hbd
      refine gg_iload d_Mdl_words_34 rfl ?_
      refine gg_aload_n 0 d_Mdl_words_36 rfl rfl ?_
      refine gg_get f_Mdl_34 d_Mdl_words_37 rfl rfl ?_
      refine gg_icmp_gt 177 d_Mdl_words_40 (by decide) (fun c40 => ?_) (fun c40 => ?_)
      · exact absurd c40 (nI_nlt (by omega) (by omega))
      · refine gg_iload d_Mdl_words_43 rfl ?_
        refine gg_aload_n 0 d_Mdl_words_45 rfl rfl ?_
        refine gg_get f_Mdl_34 d_Mdl_words_46 rfl rfl ?_
        refine gg_icmp_ne 56 d_Mdl_words_49 (by decide) (fun c49 => ?_) (fun c49 => ?_)
        · refine gg_iconst (v := 0) d_Mdl_words_56 (by decide) ?_
          refine gg_istore d_Mdl_words_57 (by decide) rfl ?_
          dsimp only [List.set]
          refine gg_iload d_Mdl_words_59 rfl ?_
          refine gg_if_ne 118 d_Mdl_words_61 (by decide) (fun c61 => ?_) (fun c61 => ?_)
          · exact absurd rfl c61
          · refine gg_aload_n 0 d_Mdl_words_64 rfl rfl ?_
            refine gg_get f_Mdl_16 d_Mdl_words_65 rfl rfl ?_
            refine gg_iload d_Mdl_words_68 rfl ?_
            refine gg_aload_n 0 d_Mdl_words_70 rfl rfl ?_
            refine gg_get f_Mdl_7 d_Mdl_words_71 rfl rfl ?_
            refine gg_iload d_Mdl_words_74 rfl ?_
            refine gg_iald d_Mdl_words_76 rfl (by omega) (by decide) ?_
            refine gg_iast d_Mdl_words_77 rfl (by omega) (by decide) ?_
            rw [mo_cp_step]
            show gg_G _ _ _ _ _ _ _ _ _ _ _ _ (hp tN tF oN oF rN rF pN pF bN bF eN eF lo mT mO W mR mP zT zO (mo_cp zX zT (p + 1)) (wd_ov zB W bg) (wd_ov zL W ln) zR zP zQ lm)
            refine gg_aload_n 0 d_Mdl_words_78 rfl rfl ?_
            refine gg_get f_Mdl_16 d_Mdl_words_79 rfl rfl ?_
            refine gg_iload d_Mdl_words_82 rfl ?_
            refine gg_iald d_Mdl_words_84 rfl (by omega) (by decide) ?_
            rw [mo_cp_at (by omega)]
            refine gg_iload_n 1 d_Mdl_words_85 rfl rfl ?_
            refine gg_icmp_eq 111 d_Mdl_words_86 (by decide) (fun c86 => ?_) (fun c86 => ?_)
            · have hcu : wd_cu zT a b c p := Or.inl c86
              refine gg_iconst (v := 1) d_Mdl_words_111 (by decide) ?_
              refine gg_goto 116 d_Mdl_words_112 (by decide) ?_
              refine gg_istore d_Mdl_words_116 (by decide) rfl ?_
              dsimp only [List.set]
              refine gg_iload d_Mdl_words_118 rfl ?_
              refine gg_if_ne 126 d_Mdl_words_120 (by decide) (fun c120 => ?_) (fun c120 => ?_)
              · first
                | exact absurd rfl c120
                | refine gg_iload d_Mdl_words_126 rfl ?_
                  refine gg_iload d_Mdl_words_128 rfl ?_
                  refine gg_icmp_le 144 d_Mdl_words_130 (by decide) (fun c130 => ?_) (fun c130 => ?_)
                  · rw [nI_leI (by omega) (by omega)] at c130
                    have hS1 : wd_close p (wd zT a b c t p) = (W, bg, ln, p) := by rw [hS]; exact wd_close_ge (by omega)
                    have hW1 : W ≤ p := by omega
                    refine gg_iload d_Mdl_words_144 rfl ?_
                    refine gg_if_eq 165 d_Mdl_words_146 (by decide) (fun c146 => ?_) (fun c146 => ?_)
                    · have hS9 := wd_cut hcu c146
                      rw [hS1] at hS9
                      refine gg_iload d_Mdl_words_165 rfl ?_
                      refine gg_iconst (v := 1) d_Mdl_words_167 (by decide) ?_
                      refine gg_iadd d_Mdl_words_168 ?_
                      refine gg_istore d_Mdl_words_169 (by decide) rfl ?_
                      dsimp only [List.set]
                      refine gg_iinc (1) d_Mdl_words_171 rfl (by decide) (by decide) rfl ?_
                      dsimp only [List.set]
                      refine gg_goto 34 d_Mdl_words_174 (by decide) ?_
                      simp only [nI_1]
                      refine gg_forget 7 ?_
                      dsimp only [List.set]
                      exact ih (p + 1) _ _ _ _ (by omega) (by omega) hS9
                    · have hS9 := wd_kept hcu c146
                      rw [hS1, wd_close_lt (by omega), show p + 1 - p = 1 by omega] at hS9
                      refine gg_iload d_Mdl_words_149 rfl ?_
                      refine gg_aload_n 0 d_Mdl_words_151 rfl rfl ?_
                      refine gg_get f_Mdl_34 d_Mdl_words_152 rfl rfl ?_
                      refine gg_icmp_ge 165 d_Mdl_words_155 (by decide) (fun c155 => ?_) (fun c155 => ?_)
                      · exact absurd c155 (nI_ge (by omega) (by omega))
                      · refine gg_aload_n 0 d_Mdl_words_158 rfl rfl ?_
                        refine gg_iload d_Mdl_words_159 rfl ?_
                        refine gg_iconst (v := nI 1) d_Mdl_words_161 (by decide) ?_
                        refine gg_cv0 m_Mdl_71 d_Mdl_words_162 (c_Mdl_word (d := 0) (by omega)) rfl rfl rfl rfl (by omega) rfl (Nat.le_of_ble_eq_true rfl) ?_
                        rw [wd_ov_step, wd_ov_step]
                        refine gg_iload d_Mdl_words_165 rfl ?_
                        refine gg_iconst (v := 1) d_Mdl_words_167 (by decide) ?_
                        refine gg_iadd d_Mdl_words_168 ?_
                        refine gg_istore d_Mdl_words_169 (by decide) rfl ?_
                        dsimp only [List.set]
                        refine gg_iinc (1) d_Mdl_words_171 rfl (by decide) (by decide) rfl ?_
                        dsimp only [List.set]
                        refine gg_goto 34 d_Mdl_words_174 (by decide) ?_
                        simp only [nI_1]
                        refine gg_forget 7 ?_
                        dsimp only [List.set]
                        exact ih (p + 1) _ _ _ _ (by omega) (by omega) hS9
                  · rw [nI_leI (by omega) (by omega)] at c130
                    have hS1 : wd_close p (wd zT a b c t p) = (W + 1, va_up bg W g, va_up ln W (p - g), p) := by rw [hS]; exact wd_close_lt (by omega)
                    have hW1 : W + 1 ≤ p := by omega
                    refine gg_aload_n 0 d_Mdl_words_133 rfl rfl ?_
                    refine gg_iload d_Mdl_words_134 rfl ?_
                    refine gg_iload d_Mdl_words_136 rfl ?_
                    refine gg_iload d_Mdl_words_138 rfl ?_
                    refine gg_isub d_Mdl_words_140 ?_
                    rw [pk_sub (by omega)]
                    refine gg_cv0 m_Mdl_71 d_Mdl_words_141 (c_Mdl_word (d := 0) (by omega)) rfl rfl rfl rfl (by omega) rfl (Nat.le_of_ble_eq_true rfl) ?_
                    rw [wd_ov_step, wd_ov_step]
                    refine gg_iload d_Mdl_words_144 rfl ?_
                    refine gg_if_eq 165 d_Mdl_words_146 (by decide) (fun c146 => ?_) (fun c146 => ?_)
                    · have hS9 := wd_cut hcu c146
                      rw [hS1] at hS9
                      refine gg_iload d_Mdl_words_165 rfl ?_
                      refine gg_iconst (v := 1) d_Mdl_words_167 (by decide) ?_
                      refine gg_iadd d_Mdl_words_168 ?_
                      refine gg_istore d_Mdl_words_169 (by decide) rfl ?_
                      dsimp only [List.set]
                      refine gg_iinc (1) d_Mdl_words_171 rfl (by decide) (by decide) rfl ?_
                      dsimp only [List.set]
                      refine gg_goto 34 d_Mdl_words_174 (by decide) ?_
                      simp only [nI_1]
                      refine gg_forget 7 ?_
                      dsimp only [List.set]
                      exact ih (p + 1) _ _ _ _ (by omega) (by omega) hS9
                    · have hS9 := wd_kept hcu c146
                      rw [hS1, wd_close_lt (by omega), show p + 1 - p = 1 by omega] at hS9
                      refine gg_iload d_Mdl_words_149 rfl ?_
                      refine gg_aload_n 0 d_Mdl_words_151 rfl rfl ?_
                      refine gg_get f_Mdl_34 d_Mdl_words_152 rfl rfl ?_
                      refine gg_icmp_ge 165 d_Mdl_words_155 (by decide) (fun c155 => ?_) (fun c155 => ?_)
                      · exact absurd c155 (nI_ge (by omega) (by omega))
                      · refine gg_aload_n 0 d_Mdl_words_158 rfl rfl ?_
                        refine gg_iload d_Mdl_words_159 rfl ?_
                        refine gg_iconst (v := nI 1) d_Mdl_words_161 (by decide) ?_
                        refine gg_cv0 m_Mdl_71 d_Mdl_words_162 (c_Mdl_word (d := 0) (by omega)) rfl rfl rfl rfl (by omega) rfl (Nat.le_of_ble_eq_true rfl) ?_
                        rw [wd_ov_step, wd_ov_step]
                        refine gg_iload d_Mdl_words_165 rfl ?_
                        refine gg_iconst (v := 1) d_Mdl_words_167 (by decide) ?_
                        refine gg_iadd d_Mdl_words_168 ?_
                        refine gg_istore d_Mdl_words_169 (by decide) rfl ?_
                        dsimp only [List.set]
                        refine gg_iinc (1) d_Mdl_words_171 rfl (by decide) (by decide) rfl ?_
                        dsimp only [List.set]
                        refine gg_goto 34 d_Mdl_words_174 (by decide) ?_
                        simp only [nI_1]
                        refine gg_forget 7 ?_
                        dsimp only [List.set]
                        exact ih (p + 1) _ _ _ _ (by omega) (by omega) hS9
              · first
                | exact absurd c120 (by decide)
                | refine gg_goto 171 d_Mdl_words_123 (by decide) ?_
                  refine gg_iinc (1) d_Mdl_words_171 rfl (by decide) (by decide) rfl ?_
                  dsimp only [List.set]
                  refine gg_goto 34 d_Mdl_words_174 (by decide) ?_
                  simp only [nI_1]
                  refine gg_forget 7 ?_
                  dsimp only [List.set]
                  exact ih (p + 1) _ _ _ _ (by omega) (by omega) hS9
            · refine gg_aload_n 0 d_Mdl_words_89 rfl rfl ?_
              refine gg_get f_Mdl_16 d_Mdl_words_90 rfl rfl ?_
              refine gg_iload d_Mdl_words_93 rfl ?_
              refine gg_iald d_Mdl_words_95 rfl (by omega) (by decide) ?_
              rw [mo_cp_at (by omega)]
              refine gg_iload_n 2 d_Mdl_words_96 rfl rfl ?_
              refine gg_icmp_eq 111 d_Mdl_words_97 (by decide) (fun c97 => ?_) (fun c97 => ?_)
              · have hcu : wd_cu zT a b c p := Or.inr (Or.inl c97)
                refine gg_iconst (v := 1) d_Mdl_words_111 (by decide) ?_
                refine gg_goto 116 d_Mdl_words_112 (by decide) ?_
                refine gg_istore d_Mdl_words_116 (by decide) rfl ?_
                dsimp only [List.set]
                refine gg_iload d_Mdl_words_118 rfl ?_
                refine gg_if_ne 126 d_Mdl_words_120 (by decide) (fun c120 => ?_) (fun c120 => ?_)
                · first
                  | exact absurd rfl c120
                  | refine gg_iload d_Mdl_words_126 rfl ?_
                    refine gg_iload d_Mdl_words_128 rfl ?_
                    refine gg_icmp_le 144 d_Mdl_words_130 (by decide) (fun c130 => ?_) (fun c130 => ?_)
                    · rw [nI_leI (by omega) (by omega)] at c130
                      have hS1 : wd_close p (wd zT a b c t p) = (W, bg, ln, p) := by rw [hS]; exact wd_close_ge (by omega)
                      have hW1 : W ≤ p := by omega
                      refine gg_iload d_Mdl_words_144 rfl ?_
                      refine gg_if_eq 165 d_Mdl_words_146 (by decide) (fun c146 => ?_) (fun c146 => ?_)
                      · have hS9 := wd_cut hcu c146
                        rw [hS1] at hS9
                        refine gg_iload d_Mdl_words_165 rfl ?_
                        refine gg_iconst (v := 1) d_Mdl_words_167 (by decide) ?_
                        refine gg_iadd d_Mdl_words_168 ?_
                        refine gg_istore d_Mdl_words_169 (by decide) rfl ?_
                        dsimp only [List.set]
                        refine gg_iinc (1) d_Mdl_words_171 rfl (by decide) (by decide) rfl ?_
                        dsimp only [List.set]
                        refine gg_goto 34 d_Mdl_words_174 (by decide) ?_
                        simp only [nI_1]
                        refine gg_forget 7 ?_
                        dsimp only [List.set]
                        exact ih (p + 1) _ _ _ _ (by omega) (by omega) hS9
                      · have hS9 := wd_kept hcu c146
                        rw [hS1, wd_close_lt (by omega), show p + 1 - p = 1 by omega] at hS9
                        refine gg_iload d_Mdl_words_149 rfl ?_
                        refine gg_aload_n 0 d_Mdl_words_151 rfl rfl ?_
                        refine gg_get f_Mdl_34 d_Mdl_words_152 rfl rfl ?_
                        refine gg_icmp_ge 165 d_Mdl_words_155 (by decide) (fun c155 => ?_) (fun c155 => ?_)
                        · exact absurd c155 (nI_ge (by omega) (by omega))
                        · refine gg_aload_n 0 d_Mdl_words_158 rfl rfl ?_
                          refine gg_iload d_Mdl_words_159 rfl ?_
                          refine gg_iconst (v := nI 1) d_Mdl_words_161 (by decide) ?_
                          refine gg_cv0 m_Mdl_71 d_Mdl_words_162 (c_Mdl_word (d := 0) (by omega)) rfl rfl rfl rfl (by omega) rfl (Nat.le_of_ble_eq_true rfl) ?_
                          rw [wd_ov_step, wd_ov_step]
                          refine gg_iload d_Mdl_words_165 rfl ?_
                          refine gg_iconst (v := 1) d_Mdl_words_167 (by decide) ?_
                          refine gg_iadd d_Mdl_words_168 ?_
                          refine gg_istore d_Mdl_words_169 (by decide) rfl ?_
                          dsimp only [List.set]
                          refine gg_iinc (1) d_Mdl_words_171 rfl (by decide) (by decide) rfl ?_
                          dsimp only [List.set]
                          refine gg_goto 34 d_Mdl_words_174 (by decide) ?_
                          simp only [nI_1]
                          refine gg_forget 7 ?_
                          dsimp only [List.set]
                          exact ih (p + 1) _ _ _ _ (by omega) (by omega) hS9
                    · rw [nI_leI (by omega) (by omega)] at c130
                      have hS1 : wd_close p (wd zT a b c t p) = (W + 1, va_up bg W g, va_up ln W (p - g), p) := by rw [hS]; exact wd_close_lt (by omega)
                      have hW1 : W + 1 ≤ p := by omega
                      refine gg_aload_n 0 d_Mdl_words_133 rfl rfl ?_
                      refine gg_iload d_Mdl_words_134 rfl ?_
                      refine gg_iload d_Mdl_words_136 rfl ?_
                      refine gg_iload d_Mdl_words_138 rfl ?_
                      refine gg_isub d_Mdl_words_140 ?_
                      rw [pk_sub (by omega)]
                      refine gg_cv0 m_Mdl_71 d_Mdl_words_141 (c_Mdl_word (d := 0) (by omega)) rfl rfl rfl rfl (by omega) rfl (Nat.le_of_ble_eq_true rfl) ?_
                      rw [wd_ov_step, wd_ov_step]
                      refine gg_iload d_Mdl_words_144 rfl ?_
                      refine gg_if_eq 165 d_Mdl_words_146 (by decide) (fun c146 => ?_) (fun c146 => ?_)
                      · have hS9 := wd_cut hcu c146
                        rw [hS1] at hS9
                        refine gg_iload d_Mdl_words_165 rfl ?_
                        refine gg_iconst (v := 1) d_Mdl_words_167 (by decide) ?_
                        refine gg_iadd d_Mdl_words_168 ?_
                        refine gg_istore d_Mdl_words_169 (by decide) rfl ?_
                        dsimp only [List.set]
                        refine gg_iinc (1) d_Mdl_words_171 rfl (by decide) (by decide) rfl ?_
                        dsimp only [List.set]
                        refine gg_goto 34 d_Mdl_words_174 (by decide) ?_
                        simp only [nI_1]
                        refine gg_forget 7 ?_
                        dsimp only [List.set]
                        exact ih (p + 1) _ _ _ _ (by omega) (by omega) hS9
                      · have hS9 := wd_kept hcu c146
                        rw [hS1, wd_close_lt (by omega), show p + 1 - p = 1 by omega] at hS9
                        refine gg_iload d_Mdl_words_149 rfl ?_
                        refine gg_aload_n 0 d_Mdl_words_151 rfl rfl ?_
                        refine gg_get f_Mdl_34 d_Mdl_words_152 rfl rfl ?_
                        refine gg_icmp_ge 165 d_Mdl_words_155 (by decide) (fun c155 => ?_) (fun c155 => ?_)
                        · exact absurd c155 (nI_ge (by omega) (by omega))
                        · refine gg_aload_n 0 d_Mdl_words_158 rfl rfl ?_
                          refine gg_iload d_Mdl_words_159 rfl ?_
                          refine gg_iconst (v := nI 1) d_Mdl_words_161 (by decide) ?_
                          refine gg_cv0 m_Mdl_71 d_Mdl_words_162 (c_Mdl_word (d := 0) (by omega)) rfl rfl rfl rfl (by omega) rfl (Nat.le_of_ble_eq_true rfl) ?_
                          rw [wd_ov_step, wd_ov_step]
                          refine gg_iload d_Mdl_words_165 rfl ?_
                          refine gg_iconst (v := 1) d_Mdl_words_167 (by decide) ?_
                          refine gg_iadd d_Mdl_words_168 ?_
                          refine gg_istore d_Mdl_words_169 (by decide) rfl ?_
                          dsimp only [List.set]
                          refine gg_iinc (1) d_Mdl_words_171 rfl (by decide) (by decide) rfl ?_
                          dsimp only [List.set]
                          refine gg_goto 34 d_Mdl_words_174 (by decide) ?_
                          simp only [nI_1]
                          refine gg_forget 7 ?_
                          dsimp only [List.set]
                          exact ih (p + 1) _ _ _ _ (by omega) (by omega) hS9
                · first
                  | exact absurd c120 (by decide)
                  | refine gg_goto 171 d_Mdl_words_123 (by decide) ?_
                    refine gg_iinc (1) d_Mdl_words_171 rfl (by decide) (by decide) rfl ?_
                    dsimp only [List.set]
                    refine gg_goto 34 d_Mdl_words_174 (by decide) ?_
                    simp only [nI_1]
                    refine gg_forget 7 ?_
                    dsimp only [List.set]
                    exact ih (p + 1) _ _ _ _ (by omega) (by omega) hS9
              · refine gg_aload_n 0 d_Mdl_words_100 rfl rfl ?_
                refine gg_get f_Mdl_16 d_Mdl_words_101 rfl rfl ?_
                refine gg_iload d_Mdl_words_104 rfl ?_
                refine gg_iald d_Mdl_words_106 rfl (by omega) (by decide) ?_
                rw [mo_cp_at (by omega)]
                refine gg_iload_n 3 d_Mdl_words_107 rfl rfl ?_
                refine gg_icmp_ne 115 d_Mdl_words_108 (by decide) (fun c108 => ?_) (fun c108 => ?_)
                · have hcu : ¬ wd_cu zT a b c p := fun y => by
                    rcases y with y | y | y
                    · exact c86 y
                    · exact c97 y
                    · exact c108 y
                  have hS9 := (wd_no (t := t) hcu).trans hS
                  refine gg_iconst (v := 0) d_Mdl_words_115 (by decide) ?_
                  refine gg_istore d_Mdl_words_116 (by decide) rfl ?_
                  dsimp only [List.set]
                  refine gg_iload d_Mdl_words_118 rfl ?_
                  refine gg_if_ne 126 d_Mdl_words_120 (by decide) (fun c120 => ?_) (fun c120 => ?_)
                  · first
                    | exact absurd rfl c120
                    | refine gg_iload d_Mdl_words_126 rfl ?_
                      refine gg_iload d_Mdl_words_128 rfl ?_
                      refine gg_icmp_le 144 d_Mdl_words_130 (by decide) (fun c130 => ?_) (fun c130 => ?_)
                      · rw [nI_leI (by omega) (by omega)] at c130
                        have hS1 : wd_close p (wd zT a b c t p) = (W, bg, ln, p) := by rw [hS]; exact wd_close_ge (by omega)
                        have hW1 : W ≤ p := by omega
                        refine gg_iload d_Mdl_words_144 rfl ?_
                        refine gg_if_eq 165 d_Mdl_words_146 (by decide) (fun c146 => ?_) (fun c146 => ?_)
                        · have hS9 := wd_cut hcu c146
                          rw [hS1] at hS9
                          refine gg_iload d_Mdl_words_165 rfl ?_
                          refine gg_iconst (v := 1) d_Mdl_words_167 (by decide) ?_
                          refine gg_iadd d_Mdl_words_168 ?_
                          refine gg_istore d_Mdl_words_169 (by decide) rfl ?_
                          dsimp only [List.set]
                          refine gg_iinc (1) d_Mdl_words_171 rfl (by decide) (by decide) rfl ?_
                          dsimp only [List.set]
                          refine gg_goto 34 d_Mdl_words_174 (by decide) ?_
                          simp only [nI_1]
                          refine gg_forget 7 ?_
                          dsimp only [List.set]
                          exact ih (p + 1) _ _ _ _ (by omega) (by omega) hS9
                        · have hS9 := wd_kept hcu c146
                          rw [hS1, wd_close_lt (by omega), show p + 1 - p = 1 by omega] at hS9
                          refine gg_iload d_Mdl_words_149 rfl ?_
                          refine gg_aload_n 0 d_Mdl_words_151 rfl rfl ?_
                          refine gg_get f_Mdl_34 d_Mdl_words_152 rfl rfl ?_
                          refine gg_icmp_ge 165 d_Mdl_words_155 (by decide) (fun c155 => ?_) (fun c155 => ?_)
                          · exact absurd c155 (nI_ge (by omega) (by omega))
                          · refine gg_aload_n 0 d_Mdl_words_158 rfl rfl ?_
                            refine gg_iload d_Mdl_words_159 rfl ?_
                            refine gg_iconst (v := nI 1) d_Mdl_words_161 (by decide) ?_
                            refine gg_cv0 m_Mdl_71 d_Mdl_words_162 (c_Mdl_word (d := 0) (by omega)) rfl rfl rfl rfl (by omega) rfl (Nat.le_of_ble_eq_true rfl) ?_
                            rw [wd_ov_step, wd_ov_step]
                            refine gg_iload d_Mdl_words_165 rfl ?_
                            refine gg_iconst (v := 1) d_Mdl_words_167 (by decide) ?_
                            refine gg_iadd d_Mdl_words_168 ?_
                            refine gg_istore d_Mdl_words_169 (by decide) rfl ?_
                            dsimp only [List.set]
                            refine gg_iinc (1) d_Mdl_words_171 rfl (by decide) (by decide) rfl ?_
                            dsimp only [List.set]
                            refine gg_goto 34 d_Mdl_words_174 (by decide) ?_
                            simp only [nI_1]
                            refine gg_forget 7 ?_
                            dsimp only [List.set]
                            exact ih (p + 1) _ _ _ _ (by omega) (by omega) hS9
                      · rw [nI_leI (by omega) (by omega)] at c130
                        have hS1 : wd_close p (wd zT a b c t p) = (W + 1, va_up bg W g, va_up ln W (p - g), p) := by rw [hS]; exact wd_close_lt (by omega)
                        have hW1 : W + 1 ≤ p := by omega
                        refine gg_aload_n 0 d_Mdl_words_133 rfl rfl ?_
                        refine gg_iload d_Mdl_words_134 rfl ?_
                        refine gg_iload d_Mdl_words_136 rfl ?_
                        refine gg_iload d_Mdl_words_138 rfl ?_
                        refine gg_isub d_Mdl_words_140 ?_
                        rw [pk_sub (by omega)]
                        refine gg_cv0 m_Mdl_71 d_Mdl_words_141 (c_Mdl_word (d := 0) (by omega)) rfl rfl rfl rfl (by omega) rfl (Nat.le_of_ble_eq_true rfl) ?_
                        rw [wd_ov_step, wd_ov_step]
                        refine gg_iload d_Mdl_words_144 rfl ?_
                        refine gg_if_eq 165 d_Mdl_words_146 (by decide) (fun c146 => ?_) (fun c146 => ?_)
                        · have hS9 := wd_cut hcu c146
                          rw [hS1] at hS9
                          refine gg_iload d_Mdl_words_165 rfl ?_
                          refine gg_iconst (v := 1) d_Mdl_words_167 (by decide) ?_
                          refine gg_iadd d_Mdl_words_168 ?_
                          refine gg_istore d_Mdl_words_169 (by decide) rfl ?_
                          dsimp only [List.set]
                          refine gg_iinc (1) d_Mdl_words_171 rfl (by decide) (by decide) rfl ?_
                          dsimp only [List.set]
                          refine gg_goto 34 d_Mdl_words_174 (by decide) ?_
                          simp only [nI_1]
                          refine gg_forget 7 ?_
                          dsimp only [List.set]
                          exact ih (p + 1) _ _ _ _ (by omega) (by omega) hS9
                        · have hS9 := wd_kept hcu c146
                          rw [hS1, wd_close_lt (by omega), show p + 1 - p = 1 by omega] at hS9
                          refine gg_iload d_Mdl_words_149 rfl ?_
                          refine gg_aload_n 0 d_Mdl_words_151 rfl rfl ?_
                          refine gg_get f_Mdl_34 d_Mdl_words_152 rfl rfl ?_
                          refine gg_icmp_ge 165 d_Mdl_words_155 (by decide) (fun c155 => ?_) (fun c155 => ?_)
                          · exact absurd c155 (nI_ge (by omega) (by omega))
                          · refine gg_aload_n 0 d_Mdl_words_158 rfl rfl ?_
                            refine gg_iload d_Mdl_words_159 rfl ?_
                            refine gg_iconst (v := nI 1) d_Mdl_words_161 (by decide) ?_
                            refine gg_cv0 m_Mdl_71 d_Mdl_words_162 (c_Mdl_word (d := 0) (by omega)) rfl rfl rfl rfl (by omega) rfl (Nat.le_of_ble_eq_true rfl) ?_
                            rw [wd_ov_step, wd_ov_step]
                            refine gg_iload d_Mdl_words_165 rfl ?_
                            refine gg_iconst (v := 1) d_Mdl_words_167 (by decide) ?_
                            refine gg_iadd d_Mdl_words_168 ?_
                            refine gg_istore d_Mdl_words_169 (by decide) rfl ?_
                            dsimp only [List.set]
                            refine gg_iinc (1) d_Mdl_words_171 rfl (by decide) (by decide) rfl ?_
                            dsimp only [List.set]
                            refine gg_goto 34 d_Mdl_words_174 (by decide) ?_
                            simp only [nI_1]
                            refine gg_forget 7 ?_
                            dsimp only [List.set]
                            exact ih (p + 1) _ _ _ _ (by omega) (by omega) hS9
                  · first
                    | exact absurd c120 (by decide)
                    | refine gg_goto 171 d_Mdl_words_123 (by decide) ?_
                      refine gg_iinc (1) d_Mdl_words_171 rfl (by decide) (by decide) rfl ?_
                      dsimp only [List.set]
                      refine gg_goto 34 d_Mdl_words_174 (by decide) ?_
                      simp only [nI_1]
                      refine gg_forget 7 ?_
                      dsimp only [List.set]
                      exact ih (p + 1) _ _ _ _ (by omega) (by omega) hS9
                · have hcu : wd_cu zT a b c p := Or.inr (Or.inr c108)
                  refine gg_iconst (v := 1) d_Mdl_words_111 (by decide) ?_
                  refine gg_goto 116 d_Mdl_words_112 (by decide) ?_
                  refine gg_istore d_Mdl_words_116 (by decide) rfl ?_
                  dsimp only [List.set]
                  refine gg_iload d_Mdl_words_118 rfl ?_
                  refine gg_if_ne 126 d_Mdl_words_120 (by decide) (fun c120 => ?_) (fun c120 => ?_)
                  · first
                    | exact absurd rfl c120
                    | refine gg_iload d_Mdl_words_126 rfl ?_
                      refine gg_iload d_Mdl_words_128 rfl ?_
                      refine gg_icmp_le 144 d_Mdl_words_130 (by decide) (fun c130 => ?_) (fun c130 => ?_)
                      · rw [nI_leI (by omega) (by omega)] at c130
                        have hS1 : wd_close p (wd zT a b c t p) = (W, bg, ln, p) := by rw [hS]; exact wd_close_ge (by omega)
                        have hW1 : W ≤ p := by omega
                        refine gg_iload d_Mdl_words_144 rfl ?_
                        refine gg_if_eq 165 d_Mdl_words_146 (by decide) (fun c146 => ?_) (fun c146 => ?_)
                        · have hS9 := wd_cut hcu c146
                          rw [hS1] at hS9
                          refine gg_iload d_Mdl_words_165 rfl ?_
                          refine gg_iconst (v := 1) d_Mdl_words_167 (by decide) ?_
                          refine gg_iadd d_Mdl_words_168 ?_
                          refine gg_istore d_Mdl_words_169 (by decide) rfl ?_
                          dsimp only [List.set]
                          refine gg_iinc (1) d_Mdl_words_171 rfl (by decide) (by decide) rfl ?_
                          dsimp only [List.set]
                          refine gg_goto 34 d_Mdl_words_174 (by decide) ?_
                          simp only [nI_1]
                          refine gg_forget 7 ?_
                          dsimp only [List.set]
                          exact ih (p + 1) _ _ _ _ (by omega) (by omega) hS9
                        · have hS9 := wd_kept hcu c146
                          rw [hS1, wd_close_lt (by omega), show p + 1 - p = 1 by omega] at hS9
                          refine gg_iload d_Mdl_words_149 rfl ?_
                          refine gg_aload_n 0 d_Mdl_words_151 rfl rfl ?_
                          refine gg_get f_Mdl_34 d_Mdl_words_152 rfl rfl ?_
                          refine gg_icmp_ge 165 d_Mdl_words_155 (by decide) (fun c155 => ?_) (fun c155 => ?_)
                          · exact absurd c155 (nI_ge (by omega) (by omega))
                          · refine gg_aload_n 0 d_Mdl_words_158 rfl rfl ?_
                            refine gg_iload d_Mdl_words_159 rfl ?_
                            refine gg_iconst (v := nI 1) d_Mdl_words_161 (by decide) ?_
                            refine gg_cv0 m_Mdl_71 d_Mdl_words_162 (c_Mdl_word (d := 0) (by omega)) rfl rfl rfl rfl (by omega) rfl (Nat.le_of_ble_eq_true rfl) ?_
                            rw [wd_ov_step, wd_ov_step]
                            refine gg_iload d_Mdl_words_165 rfl ?_
                            refine gg_iconst (v := 1) d_Mdl_words_167 (by decide) ?_
                            refine gg_iadd d_Mdl_words_168 ?_
                            refine gg_istore d_Mdl_words_169 (by decide) rfl ?_
                            dsimp only [List.set]
                            refine gg_iinc (1) d_Mdl_words_171 rfl (by decide) (by decide) rfl ?_
                            dsimp only [List.set]
                            refine gg_goto 34 d_Mdl_words_174 (by decide) ?_
                            simp only [nI_1]
                            refine gg_forget 7 ?_
                            dsimp only [List.set]
                            exact ih (p + 1) _ _ _ _ (by omega) (by omega) hS9
                      · rw [nI_leI (by omega) (by omega)] at c130
                        have hS1 : wd_close p (wd zT a b c t p) = (W + 1, va_up bg W g, va_up ln W (p - g), p) := by rw [hS]; exact wd_close_lt (by omega)
                        have hW1 : W + 1 ≤ p := by omega
                        refine gg_aload_n 0 d_Mdl_words_133 rfl rfl ?_
                        refine gg_iload d_Mdl_words_134 rfl ?_
                        refine gg_iload d_Mdl_words_136 rfl ?_
                        refine gg_iload d_Mdl_words_138 rfl ?_
                        refine gg_isub d_Mdl_words_140 ?_
                        rw [pk_sub (by omega)]
                        refine gg_cv0 m_Mdl_71 d_Mdl_words_141 (c_Mdl_word (d := 0) (by omega)) rfl rfl rfl rfl (by omega) rfl (Nat.le_of_ble_eq_true rfl) ?_
                        rw [wd_ov_step, wd_ov_step]
                        refine gg_iload d_Mdl_words_144 rfl ?_
                        refine gg_if_eq 165 d_Mdl_words_146 (by decide) (fun c146 => ?_) (fun c146 => ?_)
                        · have hS9 := wd_cut hcu c146
                          rw [hS1] at hS9
                          refine gg_iload d_Mdl_words_165 rfl ?_
                          refine gg_iconst (v := 1) d_Mdl_words_167 (by decide) ?_
                          refine gg_iadd d_Mdl_words_168 ?_
                          refine gg_istore d_Mdl_words_169 (by decide) rfl ?_
                          dsimp only [List.set]
                          refine gg_iinc (1) d_Mdl_words_171 rfl (by decide) (by decide) rfl ?_
                          dsimp only [List.set]
                          refine gg_goto 34 d_Mdl_words_174 (by decide) ?_
                          simp only [nI_1]
                          refine gg_forget 7 ?_
                          dsimp only [List.set]
                          exact ih (p + 1) _ _ _ _ (by omega) (by omega) hS9
                        · have hS9 := wd_kept hcu c146
                          rw [hS1, wd_close_lt (by omega), show p + 1 - p = 1 by omega] at hS9
                          refine gg_iload d_Mdl_words_149 rfl ?_
                          refine gg_aload_n 0 d_Mdl_words_151 rfl rfl ?_
                          refine gg_get f_Mdl_34 d_Mdl_words_152 rfl rfl ?_
                          refine gg_icmp_ge 165 d_Mdl_words_155 (by decide) (fun c155 => ?_) (fun c155 => ?_)
                          · exact absurd c155 (nI_ge (by omega) (by omega))
                          · refine gg_aload_n 0 d_Mdl_words_158 rfl rfl ?_
                            refine gg_iload d_Mdl_words_159 rfl ?_
                            refine gg_iconst (v := nI 1) d_Mdl_words_161 (by decide) ?_
                            refine gg_cv0 m_Mdl_71 d_Mdl_words_162 (c_Mdl_word (d := 0) (by omega)) rfl rfl rfl rfl (by omega) rfl (Nat.le_of_ble_eq_true rfl) ?_
                            rw [wd_ov_step, wd_ov_step]
                            refine gg_iload d_Mdl_words_165 rfl ?_
                            refine gg_iconst (v := 1) d_Mdl_words_167 (by decide) ?_
                            refine gg_iadd d_Mdl_words_168 ?_
                            refine gg_istore d_Mdl_words_169 (by decide) rfl ?_
                            dsimp only [List.set]
                            refine gg_iinc (1) d_Mdl_words_171 rfl (by decide) (by decide) rfl ?_
                            dsimp only [List.set]
                            refine gg_goto 34 d_Mdl_words_174 (by decide) ?_
                            simp only [nI_1]
                            refine gg_forget 7 ?_
                            dsimp only [List.set]
                            exact ih (p + 1) _ _ _ _ (by omega) (by omega) hS9
                  · first
                    | exact absurd c120 (by decide)
                    | refine gg_goto 171 d_Mdl_words_123 (by decide) ?_
                      refine gg_iinc (1) d_Mdl_words_171 rfl (by decide) (by decide) rfl ?_
                      dsimp only [List.set]
                      refine gg_goto 34 d_Mdl_words_174 (by decide) ?_
                      simp only [nI_1]
                      refine gg_forget 7 ?_
                      dsimp only [List.set]
                      exact ih (p + 1) _ _ _ _ (by omega) (by omega) hS9
        · have e9 := (nI_eq (by omega) (by omega)).mp c49
          omega
  refine gg_K.start (L := [some (.ref 14), some (.int a), some (.int b), some (.int c), some (.int t), none, none, none]) rfl (plainFor_of_name (by decide)) rfl (Nat.le_of_ble_eq_true rfl) ?_
  refine gg_iload_n 1 d_Mdl_words_0 rfl rfl ?_
  refine gg_cs1 m_Mdl_67 d_Mdl_words_1 (c_Mdl_noSign (d := 0)) rfl (by omega) rfl (Nat.le_of_ble_eq_true rfl) ?_
  rw [sp_bf (not_not_intro ha)]
  refine gg_if_ne 21 d_Mdl_words_4 (by decide) (fun c4 => ?_) (fun c4 => ?_)
  · exact absurd rfl c4
  · refine gg_iload_n 2 d_Mdl_words_7 rfl rfl ?_
    refine gg_cs1 m_Mdl_67 d_Mdl_words_8 (c_Mdl_noSign (d := 0)) rfl (by omega) rfl (Nat.le_of_ble_eq_true rfl) ?_
    rw [sp_bf (not_not_intro hb)]
    refine gg_if_ne 21 d_Mdl_words_11 (by decide) (fun c11 => ?_) (fun c11 => ?_)
    · exact absurd rfl c11
    · refine gg_iload_n 3 d_Mdl_words_14 rfl rfl ?_
      refine gg_cs1 m_Mdl_67 d_Mdl_words_15 (c_Mdl_noSign (d := 0)) rfl (by omega) rfl (Nat.le_of_ble_eq_true rfl) ?_
      rw [sp_bf (not_not_intro hc)]
      refine gg_if_eq 23 d_Mdl_words_18 (by decide) (fun c18 => ?_) (fun c18 => ?_)
      · refine gg_aload_n 0 d_Mdl_words_23 rfl rfl ?_
        refine gg_iconst (v := 0) d_Mdl_words_24 (by decide) ?_
        refine gg_puti u_Mdl_64 d_Mdl_words_25 rfl (Nat.le_of_ble_eq_true rfl) ?_
        dsimp only [List.set]
        show gg_G _ _ _ _ _ _ _ _ _ _ _ _ (hp tN tF oN oF rN rF pN pF bN bF eN eF lo mT mO 0 mR mP zT zO zX zB zL zR zP zQ lm)
        refine gg_iconst (v := 0) d_Mdl_words_28 (by decide) ?_
        refine gg_istore d_Mdl_words_29 (by decide) rfl ?_
        dsimp only [List.set]
        refine gg_iconst (v := 0) d_Mdl_words_31 (by decide) ?_
        refine gg_istore d_Mdl_words_32 (by decide) rfl ?_
        dsimp only [List.set]
        have e0 := loop mT 0 0 (fun _ => 0) (fun _ => 0) 0 rfl (Nat.zero_le _) rfl
        rw [wd_ov0, wd_ov0, mo_cp0] at e0
        exact e0
      · exact absurd rfl c18
set_option maxHeartbeats 4000000 in
set_option maxRecDepth 100000 in
theorem c_Mdl_words_bad  {a b c t : Int32} (hx : ¬ ((0 ≤ a.toInt ∧ a.toInt ≤ 127) ∧ (0 ≤ b.toInt ∧ b.toInt ≤ 127) ∧ (0 ≤ c.toInt ∧ c.toInt ≤ 127))) (hd : 1 ≤ d) : gg_K l D cA d y_Mdl_words b_Mdl_words 8 (some .int) [.ref 14, .int a, .int b, .int c, .int t] (hp tN tF oN oF rN rF pN pF bN bF eN eF lo mT mO mW mR mP zT zO zX zB zL zR zP zQ lm) (gg_is (some (.int (-1))) (hp tN tF oN oF rN rF pN pF bN bF eN eF lo mT mO mW mR mP zT zO zX zB zL zR zP zQ lm)) := by
  refine gg_K.start (L := [some (.ref 14), some (.int a), some (.int b), some (.int c), some (.int t), none, none, none]) rfl (plainFor_of_name (by decide)) rfl (Nat.le_of_ble_eq_true rfl) ?_
  refine gg_iload_n 1 d_Mdl_words_0 rfl rfl ?_
  refine gg_cs1 m_Mdl_67 d_Mdl_words_1 (c_Mdl_noSign (d := 0)) rfl (by omega) rfl (Nat.le_of_ble_eq_true rfl) ?_
  refine gg_if_ne 21 d_Mdl_words_4 (by decide) (fun c4 => ?_) (fun c4 => ?_)
  · refine gg_iconst (v := (-1)) d_Mdl_words_21 (by decide) ?_
    exact gg_ireturn d_Mdl_words_22 rfl rfl ⟨rfl, rfl⟩
  · refine gg_iload_n 2 d_Mdl_words_7 rfl rfl ?_
    refine gg_cs1 m_Mdl_67 d_Mdl_words_8 (c_Mdl_noSign (d := 0)) rfl (by omega) rfl (Nat.le_of_ble_eq_true rfl) ?_
    refine gg_if_ne 21 d_Mdl_words_11 (by decide) (fun c11 => ?_) (fun c11 => ?_)
    · refine gg_iconst (v := (-1)) d_Mdl_words_21 (by decide) ?_
      exact gg_ireturn d_Mdl_words_22 rfl rfl ⟨rfl, rfl⟩
    · refine gg_iload_n 3 d_Mdl_words_14 rfl rfl ?_
      refine gg_cs1 m_Mdl_67 d_Mdl_words_15 (c_Mdl_noSign (d := 0)) rfl (by omega) rfl (Nat.le_of_ble_eq_true rfl) ?_
      refine gg_if_eq 23 d_Mdl_words_18 (by decide) (fun c18 => ?_) (fun c18 => ?_)
      · exact absurd ⟨Decidable.not_not.mp (sp_b0 c4), Decidable.not_not.mp (sp_b0 c11), Decidable.not_not.mp (sp_b0 c18)⟩ hx
      · refine gg_iconst (v := (-1)) d_Mdl_words_21 (by decide) ?_
        exact gg_ireturn d_Mdl_words_22 rfl rfl ⟨rfl, rfl⟩
set_option maxHeartbeats 4000000 in
set_option maxRecDepth 100000 in
theorem c_Mdl_word2  {K m g : Nat} (hk : K < mW) (hm : zL K = nI m) (hg : zB K = nI g) (hW : mW ≤ 400) (h2 : g + m ≤ 400) : gg_K l D cA d y_Mdl_word2 b_Mdl_word2 3 (some .int) [.ref 14, .int (nI K)] (hp tN tF oN oF rN rF pN pF bN bF eN eF lo mT mO mW mR mP zT zO zX zB zL zR zP zQ lm) (gg_is (some (.int (nI m))) (hp tN tF oN oF rN rF pN pF bN bF eN eF lo mT m mW mR mP zT (wd_cp zO zX g m) zX zB zL zR zP zQ lm)) := by
  have loop : ∀ k : Nat, ∀ i, m - i = k → i ≤ m → gg_G l D cA d R_Mdl b_Mdl_word2 3 (some .int) (gg_is (some (.int (nI m))) (hp tN tF oN oF rN rF pN pF bN bF eN eF lo mT m mW mR mP zT (wd_cp zO zX g m) zX zB zL zR zP zQ lm)) 26 [some (.ref 14), some (.int (nI K)), some (.int (nI i))] [] ((hp tN tF oN oF rN rF pN pF bN bF eN eF lo mT m mW mR mP zT (wd_cp zO zX g i) zX zB zL zR zP zQ lm)) := by
    intro k
    induction k with
    | zero =>
      intro i hk1 hi
      refine gg_iload_n 2 d_Mdl_word2_26 rfl rfl ?_
      refine gg_aload_n 0 d_Mdl_word2_27 rfl rfl ?_
      refine gg_get f_Mdl_46 d_Mdl_word2_28 rfl rfl ?_
      refine gg_icmp_ge 59 d_Mdl_word2_31 (by decide) (fun c31 => ?_) (fun c31 => ?_)
      · refine gg_aload_n 0 d_Mdl_word2_59 rfl rfl ?_
        refine gg_get f_Mdl_46 d_Mdl_word2_60 rfl rfl ?_
        exact gg_ireturn d_Mdl_word2_63 rfl rfl ⟨rfl, by rw [show i = m by omega]⟩
      · exact absurd (nI_le (by omega) (by omega)) c31
    | succ k ih =>
      intro i hk1 hi
      refine gg_iload_n 2 d_Mdl_word2_26 rfl rfl ?_
      refine gg_aload_n 0 d_Mdl_word2_27 rfl rfl ?_
      refine gg_get f_Mdl_46 d_Mdl_word2_28 rfl rfl ?_
      refine gg_icmp_ge 59 d_Mdl_word2_31 (by decide) (fun c31 => ?_) (fun c31 => ?_)
      · exact absurd c31 (nI_ge (by omega) (by omega))
      · refine gg_aload_n 0 d_Mdl_word2_34 rfl rfl ?_
        refine gg_get f_Mdl_13 d_Mdl_word2_35 rfl rfl ?_
        refine gg_iload_n 2 d_Mdl_word2_38 rfl rfl ?_
        refine gg_aload_n 0 d_Mdl_word2_39 rfl rfl ?_
        refine gg_get f_Mdl_16 d_Mdl_word2_40 rfl rfl ?_
        refine gg_aload_n 0 d_Mdl_word2_43 rfl rfl ?_
        refine gg_get f_Mdl_19 d_Mdl_word2_44 rfl rfl ?_
        refine gg_iload_n 1 d_Mdl_word2_47 rfl rfl ?_
        refine gg_iald d_Mdl_word2_48 rfl (by omega) (by decide) ?_
        rw [hg]
        refine gg_iload_n 2 d_Mdl_word2_49 rfl rfl ?_
        refine gg_iadd d_Mdl_word2_50 ?_
        rw [nI_add]
        refine gg_iald d_Mdl_word2_51 rfl (by omega) (by decide) ?_
        refine gg_iast d_Mdl_word2_52 rfl (by omega) (by decide) ?_
        rw [wd_cp_step]
        show gg_G _ _ _ _ _ _ _ _ _ _ _ _ (hp tN tF oN oF rN rF pN pF bN bF eN eF lo mT m mW mR mP zT (wd_cp zO zX g (i + 1)) zX zB zL zR zP zQ lm)
        refine gg_iinc (1) d_Mdl_word2_53 rfl (by decide) (by decide) rfl ?_
        dsimp only [List.set]
        refine gg_goto 26 d_Mdl_word2_56 (by decide) ?_
        rw [nI_1]
        exact ih (i + 1) (by omega) (by omega)
  refine gg_K.start (L := [some (.ref 14), some (.int (nI K)), none]) rfl (plainFor_of_name (by decide)) rfl (Nat.le_of_ble_eq_true rfl) ?_
  refine gg_iload_n 1 d_Mdl_word2_0 rfl rfl ?_
  refine gg_if_lt 12 d_Mdl_word2_1 (by decide) (fun c1 => ?_) (fun c1 => ?_)
  · exact absurd c1 (nI_pos (by omega))
  · refine gg_iload_n 1 d_Mdl_word2_4 rfl rfl ?_
    refine gg_aload_n 0 d_Mdl_word2_5 rfl rfl ?_
    refine gg_get f_Mdl_64 d_Mdl_word2_6 rfl rfl ?_
    refine gg_icmp_lt 14 d_Mdl_word2_9 (by decide) (fun c9 => ?_) (fun c9 => ?_)
    · refine gg_aload_n 0 d_Mdl_word2_14 rfl rfl ?_
      refine gg_aload_n 0 d_Mdl_word2_15 rfl rfl ?_
      refine gg_get f_Mdl_22 d_Mdl_word2_16 rfl rfl ?_
      refine gg_iload_n 1 d_Mdl_word2_19 rfl rfl ?_
      refine gg_iald d_Mdl_word2_20 rfl (by omega) (by decide) ?_
      rw [hm]
      refine gg_puti u_Mdl_46 d_Mdl_word2_21 rfl (Nat.le_of_ble_eq_true rfl) ?_
      dsimp only [List.set]
      show gg_G _ _ _ _ _ _ _ _ _ _ _ _ (hp tN tF oN oF rN rF pN pF bN bF eN eF lo mT m mW mR mP zT zO zX zB zL zR zP zQ lm)
      refine gg_iconst (v := 0) d_Mdl_word2_24 (by decide) ?_
      refine gg_istore_n 2 d_Mdl_word2_25 rfl (by decide) rfl ?_
      dsimp only [List.set]
      have e0 := loop m 0 rfl (Nat.zero_le _)
      rw [wd_cp0] at e0
      exact e0
    · exact absurd (nI_lt hk (by omega)) c9
set_option maxHeartbeats 4000000 in
set_option maxRecDepth 100000 in
theorem c_Mdl_word2_bad  {x : Int32} (hx : ¬ sp_in x mW) (hW : mW ≤ 400) : gg_K l D cA d y_Mdl_word2 b_Mdl_word2 3 (some .int) [.ref 14, .int x] (hp tN tF oN oF rN rF pN pF bN bF eN eF lo mT mO mW mR mP zT zO zX zB zL zR zP zQ lm) (gg_is (some (.int (-1))) (hp tN tF oN oF rN rF pN pF bN bF eN eF lo mT mO mW mR mP zT zO zX zB zL zR zP zQ lm)) := by
  refine gg_K.start (L := [some (.ref 14), some (.int x), none]) rfl (plainFor_of_name (by decide)) rfl (Nat.le_of_ble_eq_true rfl) ?_
  refine gg_iload_n 1 d_Mdl_word2_0 rfl rfl ?_
  refine gg_if_lt 12 d_Mdl_word2_1 (by decide) (fun c1 => ?_) (fun c1 => ?_)
  · refine gg_iconst (v := (-1)) d_Mdl_word2_12 (by decide) ?_
    exact gg_ireturn d_Mdl_word2_13 rfl rfl ⟨rfl, rfl⟩
  · refine gg_iload_n 1 d_Mdl_word2_4 rfl rfl ?_
    refine gg_aload_n 0 d_Mdl_word2_5 rfl rfl ?_
    refine gg_get f_Mdl_64 d_Mdl_word2_6 rfl rfl ?_
    refine gg_icmp_lt 14 d_Mdl_word2_9 (by decide) (fun c9 => ?_) (fun c9 => ?_)
    · rw [sp_lt0] at c1
      rw [sp_ltn (by omega)] at c9
      exact absurd ⟨by omega, by omega⟩ hx
    · refine gg_iconst (v := (-1)) d_Mdl_word2_12 (by decide) ?_
      exact gg_ireturn d_Mdl_word2_13 rfl rfl ⟨rfl, rfl⟩
end WDM
