theorem rd_t_lt (w : Nat → Nat) (p : Nat) : rd_t w p < 2 := Nat.mod_lt _ (by decide)
section RDM
variable {l : Launch} {D : va_G} {cA : ClassId} {d : Nat} {tN oN rN pN bN eN mT mO mW mR mP : Nat} {tF oF rF pF bF eF zT zO zX zB zL zR zP zQ : Nat → Int32} {lo lm : Int64}
set_option maxHeartbeats 4000000 in
set_option maxRecDepth 100000 in
theorem c_Mdl_read  {s : Int32} {z : Bool} {q : Nat} (hz : s = 0 ↔ z = true) (ht : mT ≤ 400) (hb : ck_o zT mT) (hq : rd_l zT z mT 0 = q) (hok : rd_ok zT mT q) (hd : 2 ≤ d) : gg_K l D cA d y_Mdl_read b_Mdl_read 9 (some .int) [.ref 14, .int s] (hp tN tF oN oF rN rF pN pF bN bF eN eF lo mT mO mW mR mP zT zO zX zB zL zR zP zQ lm) (gg_is (some (.int (nI (q - (q + 3) / 4)))) (hp tN tF oN oF rN rF pN pF bN bF eN eF lo mT (q - (q + 3) / 4) mW mR mP zT (rd_F zO (rd_w zT z) (q - (q + 3) / 4)) zX zB zL zR zP zQ lm)) := by
  have hql := (rd_l_le zT z mT 0).2
  rw [hq] at hql
  have hw : ∀ j, j < q → rd_w zT z j < 64 := fun j h => rd_l_lt zT z mT 0 j (Nat.zero_le _) (by rw [hq]; exact h)
  have hC : 6 * q / 8 = q - (q + 3) / 4 := by have := hok.1; omega
  have inner : ∀ k : Nat, ∀ c u, 8 - u = k → u ≤ 8 → 8 * c + 8 ≤ 6 * q → (gg_G l D cA d R_Mdl b_Mdl_read 9 (some .int) (gg_is (some (.int (nI (q - (q + 3) / 4)))) (hp tN tF oN oF rN rF pN pF bN bF eN eF lo mT (q - (q + 3) / 4) mW mR mP zT (rd_F zO (rd_w zT z) (q - (q + 3) / 4)) zX zB zL zR zP zQ lm)) 193 [some (.ref 14), some (.int s), some (.int (nI q)), none, none, some (.int (nI (8 * c))), some (.int (nI (rd_h (rd_w zT z) (8 * c) 8))), none, none] [] (hp tN tF oN oF rN rF pN pF bN bF eN eF lo mT c mW mR mP zT (rd_F zO (rd_w zT z) c) zX zB zL zR zP zQ lm)) → gg_G l D cA d R_Mdl b_Mdl_read 9 (some .int) (gg_is (some (.int (nI (q - (q + 3) / 4)))) (hp tN tF oN oF rN rF pN pF bN bF eN eF lo mT (q - (q + 3) / 4) mW mR mP zT (rd_F zO (rd_w zT z) (q - (q + 3) / 4)) zX zB zL zR zP zQ lm)) 142 [some (.ref 14), some (.int s), some (.int (nI q)), none, none, some (.int (nI (8 * c))), some (.int (nI (rd_h (rd_w zT z) (8 * c) u))), some (.int (nI (8 * c + u))), none] [] ((hp tN tF oN oF rN rF pN pF bN bF eN eF lo mT c mW mR mP zT (rd_F zO (rd_w zT z) c) zX zB zL zR zP zQ lm)) := by
    intro k
    induction k with
    | zero =>
      intro c u hk hu hc hn
      refine gg_iload d_Mdl_read_142 rfl ?_
      refine gg_iload d_Mdl_read_144 rfl ?_
      refine gg_bipush (v := nI 8) d_Mdl_read_146 (by decide) ?_
      refine gg_iadd d_Mdl_read_148 ?_
      rw [nI_add]
      refine gg_icmp_ge 193 d_Mdl_read_149 (by decide) (fun c149 => ?_) (fun c149 => ?_)
      · rw [show u = 8 by omega]
        refine gg_forget 7 ?_
        dsimp only [List.set]
        exact hn
      · exact absurd (nI_le (by omega) (by omega)) c149
    | succ k ih =>
      intro c u hk hu hc hn
      refine gg_iload d_Mdl_read_142 rfl ?_
      refine gg_iload d_Mdl_read_144 rfl ?_
      refine gg_bipush (v := nI 8) d_Mdl_read_146 (by decide) ?_
      refine gg_iadd d_Mdl_read_148 ?_
      rw [nI_add]
      refine gg_icmp_ge 193 d_Mdl_read_149 (by decide) (fun c149 => ?_) (fun c149 => ?_)
      · exact absurd c149 (nI_ge (by omega) (by omega))
      · refine gg_aload_n 0 d_Mdl_read_152 rfl rfl ?_
        refine gg_get f_Mdl_7 d_Mdl_read_153 rfl rfl ?_
        refine gg_iload d_Mdl_read_156 rfl ?_
        refine gg_bipush (v := nI 6) d_Mdl_read_158 (by decide) ?_
        refine gg_idiv d_Mdl_read_160 (by decide) ?_
        rw [pk_div (by omega) (by decide) (by decide)]
        refine gg_iald d_Mdl_read_161 rfl (by omega) (by decide) ?_
        refine gg_iload_n 1 d_Mdl_read_162 rfl rfl ?_
        refine gg_cs1 m_Mdl_53 d_Mdl_read_163 (c_Mdl_which (d := 1) hz (by omega)) rfl (by omega) rfl (Nat.le_of_ble_eq_true rfl) ?_
        rw [show nI (wh_i (zT ((8 * c + u) / 6)) z 64 0) = nI (rd_w zT z ((8 * c + u) / 6)) from rfl]
        refine gg_istore d_Mdl_read_166 (by decide) rfl ?_
        dsimp only [List.set]
        refine gg_iconst (v := nI 2) d_Mdl_read_168 (by decide) ?_
        refine gg_iload d_Mdl_read_169 rfl ?_
        refine gg_imul d_Mdl_read_171 ?_
        rw [pk_mul]
        refine gg_iload d_Mdl_read_172 rfl ?_
        refine gg_iconst (v := nI 5) d_Mdl_read_174 (by decide) ?_
        refine gg_iload d_Mdl_read_175 rfl ?_
        refine gg_bipush (v := nI 6) d_Mdl_read_177 (by decide) ?_
        refine gg_irem d_Mdl_read_179 (by decide) ?_
        rw [pk_rem (by omega) (by decide) (by decide)]
        refine gg_isub d_Mdl_read_180 ?_
        rw [pk_sub (by omega)]
        have hw6 := hw ((8 * c + u) / 6) (by omega)
        refine gg_ishr d_Mdl_read_181 ?_
        rw [pk_shrN (by omega) _ (5 - (8 * c + u) % 6) (rd_shr ((8 * c + u) % 6) (by omega))]
        refine gg_iconst (v := 1) d_Mdl_read_182 (by decide) ?_
        refine gg_iand d_Mdl_read_183 ?_
        rw [pk_andN (by have := Nat.div_le_self (rd_w zT z ((8 * c + u) / 6)) (2 ^ (5 - (8 * c + u) % 6)); omega) 1 (by decide)]
        refine gg_iadd d_Mdl_read_184 ?_
        refine gg_istore d_Mdl_read_185 (by decide) rfl ?_
        dsimp only [List.set]
        refine gg_iinc (1) d_Mdl_read_187 rfl (by decide) (by decide) rfl ?_
        dsimp only [List.set]
        refine gg_goto 142 d_Mdl_read_190 (by decide) ?_
        rw [nI_1, nI_add]
        refine gg_forget 8 ?_
        dsimp only [List.set]
        exact ih c (u + 1) (by omega) (by omega) hc hn
  have outer : ∀ k : Nat, ∀ c, 6 * q / 8 - c = k → c ≤ 6 * q / 8 → gg_G l D cA d R_Mdl b_Mdl_read 9 (some .int) (gg_is (some (.int (nI (q - (q + 3) / 4)))) (hp tN tF oN oF rN rF pN pF bN bF eN eF lo mT (q - (q + 3) / 4) mW mR mP zT (rd_F zO (rd_w zT z) (q - (q + 3) / 4)) zX zB zL zR zP zQ lm)) 123 [some (.ref 14), some (.int s), some (.int (nI q)), none, none, some (.int (nI (8 * c))), none, none, none] [] ((hp tN tF oN oF rN rF pN pF bN bF eN eF lo mT c mW mR mP zT (rd_F zO (rd_w zT z) c) zX zB zL zR zP zQ lm)) := by
    intro k
    induction k with
    | zero =>
      intro c hk hc
      refine gg_iload d_Mdl_read_123 rfl ?_
      refine gg_bipush (v := nI 8) d_Mdl_read_125 (by decide) ?_
      refine gg_iadd d_Mdl_read_127 ?_
      refine gg_bipush (v := nI 6) d_Mdl_read_128 (by decide) ?_
      refine gg_iload_n 2 d_Mdl_read_130 rfl rfl ?_
      refine gg_imul d_Mdl_read_131 ?_
      rw [pk_mul, nI_add]
      refine gg_icmp_gt 220 d_Mdl_read_132 (by decide) (fun c132 => ?_) (fun c132 => ?_)
      · refine gg_aload_n 0 d_Mdl_read_220 rfl rfl ?_
        refine gg_get f_Mdl_46 d_Mdl_read_221 rfl rfl ?_
        exact gg_ireturn d_Mdl_read_224 rfl rfl ⟨by rw [show c = q - (q + 3) / 4 by omega], by rw [show c = q - (q + 3) / 4 by omega]⟩
      · exact absurd (nI_lt (by omega) (by omega)) c132
    | succ k ih =>
      intro c hk hc
      refine gg_iload d_Mdl_read_123 rfl ?_
      refine gg_bipush (v := nI 8) d_Mdl_read_125 (by decide) ?_
      refine gg_iadd d_Mdl_read_127 ?_
      refine gg_bipush (v := nI 6) d_Mdl_read_128 (by decide) ?_
      refine gg_iload_n 2 d_Mdl_read_130 rfl rfl ?_
      refine gg_imul d_Mdl_read_131 ?_
      rw [pk_mul, nI_add]
      refine gg_icmp_gt 220 d_Mdl_read_132 (by decide) (fun c132 => ?_) (fun c132 => ?_)
      · exact absurd c132 (nI_nlt (by omega) (by omega))
      · refine gg_iconst (v := 0) d_Mdl_read_135 (by decide) ?_
        refine gg_istore d_Mdl_read_136 (by decide) rfl ?_
        dsimp only [List.set]
        refine gg_iload d_Mdl_read_138 rfl ?_
        refine gg_istore d_Mdl_read_140 (by decide) rfl ?_
        dsimp only [List.set]
        refine inner 8 c 0 rfl (by decide) (by omega) ?_
        refine gg_aload_n 0 d_Mdl_read_193 rfl rfl ?_
        refine gg_get f_Mdl_13 d_Mdl_read_194 rfl rfl ?_
        refine gg_aload_n 0 d_Mdl_read_197 rfl rfl ?_
        refine gg_get f_Mdl_46 d_Mdl_read_198 rfl rfl ?_
        refine gg_iload d_Mdl_read_201 rfl ?_
        refine gg_iast d_Mdl_read_203 rfl (by omega) (by decide) ?_
        rw [rd_F_step]
        show gg_G _ _ _ _ _ _ _ _ _ _ _ _ (hp tN tF oN oF rN rF pN pF bN bF eN eF lo mT c mW mR mP zT (rd_F zO (rd_w zT z) (c + 1)) zX zB zL zR zP zQ lm)
        refine gg_aload_n 0 d_Mdl_read_204 rfl rfl ?_
        refine gg_dup d_Mdl_read_205 rfl ?_
        refine gg_get f_Mdl_46 d_Mdl_read_206 rfl rfl ?_
        refine gg_iconst (v := 1) d_Mdl_read_209 (by decide) ?_
        refine gg_iadd d_Mdl_read_210 ?_
        rw [nI_1]
        refine gg_puti u_Mdl_46 d_Mdl_read_211 rfl (Nat.le_of_ble_eq_true rfl) ?_
        dsimp only [List.set]
        show gg_G _ _ _ _ _ _ _ _ _ _ _ _ (hp tN tF oN oF rN rF pN pF bN bF eN eF lo mT (c + 1) mW mR mP zT (rd_F zO (rd_w zT z) (c + 1)) zX zB zL zR zP zQ lm)
        refine gg_iinc (8) d_Mdl_read_214 rfl (by decide) (by decide) rfl ?_
        dsimp only [List.set]
        refine gg_goto 123 d_Mdl_read_217 (by decide) ?_
        rw [show (8 : Int32) = nI 8 from rfl, nI_add]
        refine gg_forget 6 ?_
        dsimp only [List.set]
        exact ih (c + 1) (by omega) (by omega)
  have fills : ∀ k : Nat, ∀ i, mT - i = k → q ≤ i → i ≤ mT → gg_G l D cA d R_Mdl b_Mdl_read 9 (some .int) (gg_is (some (.int (nI (q - (q + 3) / 4)))) (hp tN tF oN oF rN rF pN pF bN bF eN eF lo mT (q - (q + 3) / 4) mW mR mP zT (rd_F zO (rd_w zT z) (q - (q + 3) / 4)) zX zB zL zR zP zQ lm)) 86 [some (.ref 14), some (.int s), some (.int (nI q)), none, none, some (.int (nI i)), none, none, none] [] ((hp tN tF oN oF rN rF pN pF bN bF eN eF lo mT mO mW mR mP zT zO zX zB zL zR zP zQ lm)) := by
    intro k
    induction k with
    | zero =>
      intro i hk hqi hi
      refine gg_iload d_Mdl_read_86 rfl ?_
      refine gg_aload_n 0 d_Mdl_read_88 rfl rfl ?_
      refine gg_get f_Mdl_34 d_Mdl_read_89 rfl rfl ?_
      refine gg_icmp_ge 115 d_Mdl_read_92 (by decide) (fun c92 => ?_) (fun c92 => ?_)
      · refine gg_aload_n 0 d_Mdl_read_115 rfl rfl ?_
        refine gg_iconst (v := 0) d_Mdl_read_116 (by decide) ?_
        refine gg_puti u_Mdl_46 d_Mdl_read_117 rfl (Nat.le_of_ble_eq_true rfl) ?_
        dsimp only [List.set]
        show gg_G _ _ _ _ _ _ _ _ _ _ _ _ (hp tN tF oN oF rN rF pN pF bN bF eN eF lo mT 0 mW mR mP zT zO zX zB zL zR zP zQ lm)
        refine gg_iconst (v := 0) d_Mdl_read_120 (by decide) ?_
        refine gg_istore d_Mdl_read_121 (by decide) rfl ?_
        dsimp only [List.set]
        have e0 := outer (6 * q / 8) 0 rfl (Nat.zero_le _)
        rw [rd_F0] at e0
        exact e0
      · exact absurd (nI_le (by omega) (by omega)) c92
    | succ k ih =>
      intro i hk hqi hi
      refine gg_iload d_Mdl_read_86 rfl ?_
      refine gg_aload_n 0 d_Mdl_read_88 rfl rfl ?_
      refine gg_get f_Mdl_34 d_Mdl_read_89 rfl rfl ?_
      refine gg_icmp_ge 115 d_Mdl_read_92 (by decide) (fun c92 => ?_) (fun c92 => ?_)
      · exact absurd c92 (nI_ge (by omega) (by omega))
      · refine gg_aload_n 0 d_Mdl_read_95 rfl rfl ?_
        refine gg_get f_Mdl_7 d_Mdl_read_96 rfl rfl ?_
        refine gg_iload d_Mdl_read_99 rfl ?_
        refine gg_iald d_Mdl_read_101 rfl (by omega) (by decide) ?_
        rw [hok.2.2 i (by omega) hqi]
        refine gg_bipush (v := 61) d_Mdl_read_102 (by decide) ?_
        refine gg_icmp_eq 109 d_Mdl_read_104 (by decide) (fun c104 => ?_) (fun c104 => ?_)
        · refine gg_iinc (1) d_Mdl_read_109 rfl (by decide) (by decide) rfl ?_
          dsimp only [List.set]
          refine gg_goto 86 d_Mdl_read_112 (by decide) ?_
          rw [nI_1]
          exact ih (i + 1) (by omega) (by omega) (by omega)
        · exact absurd rfl c104
  have after : gg_G l D cA d R_Mdl b_Mdl_read 9 (some .int) (gg_is (some (.int (nI (q - (q + 3) / 4)))) (hp tN tF oN oF rN rF pN pF bN bF eN eF lo mT (q - (q + 3) / 4) mW mR mP zT (rd_F zO (rd_w zT z) (q - (q + 3) / 4)) zX zB zL zR zP zQ lm)) 31 [some (.ref 14), some (.int s), some (.int (nI q)), none, none, none, none, none, none] [] (hp tN tF oN oF rN rF pN pF bN bF eN eF lo mT mO mW mR mP zT zO zX zB zL zR zP zQ lm) := by
    refine gg_iload_n 2 d_Mdl_read_31 rfl rfl ?_
    refine gg_iconst (v := nI 4) d_Mdl_read_32 (by decide) ?_
    refine gg_irem d_Mdl_read_33 (by decide) ?_
    rw [pk_rem (by omega) (by decide) (by decide)]
    refine gg_iconst (v := nI 2) d_Mdl_read_34 (by decide) ?_
    refine gg_icmp_ne 42 d_Mdl_read_35 (by decide) (fun c35 => ?_) (fun c35 => ?_)
    · rw [nI_eq (by omega) (by omega)] at c35
      refine gg_iload_n 2 d_Mdl_read_42 rfl rfl ?_
      refine gg_iconst (v := nI 4) d_Mdl_read_43 (by decide) ?_
      refine gg_irem d_Mdl_read_44 (by decide) ?_
      rw [pk_rem (by omega) (by decide) (by decide)]
      refine gg_iconst (v := nI 3) d_Mdl_read_45 (by decide) ?_
      refine gg_icmp_ne 53 d_Mdl_read_46 (by decide) (fun c46 => ?_) (fun c46 => ?_)
      · rw [nI_eq (by omega) (by omega)] at c46
        refine gg_iconst (v := nI 0) d_Mdl_read_53 (by decide) ?_
        refine gg_istore_n 3 d_Mdl_read_54 rfl (by decide) rfl ?_
        dsimp only [List.set]
        refine gg_aload_n 0 d_Mdl_read_55 rfl rfl ?_
        refine gg_get f_Mdl_34 d_Mdl_read_56 rfl rfl ?_
        refine gg_iload_n 2 d_Mdl_read_59 rfl rfl ?_
        refine gg_isub d_Mdl_read_60 ?_
        rw [pk_sub (by omega)]
        refine gg_istore d_Mdl_read_61 (by decide) rfl ?_
        dsimp only [List.set]
        refine gg_iload_n 2 d_Mdl_read_63 rfl rfl ?_
        refine gg_iconst (v := nI 4) d_Mdl_read_64 (by decide) ?_
        refine gg_irem d_Mdl_read_65 (by decide) ?_
        rw [pk_rem (by omega) (by decide) (by decide)]
        refine gg_iconst (v := nI 1) d_Mdl_read_66 (by decide) ?_
        refine gg_icmp_eq 81 d_Mdl_read_67 (by decide) (fun c67 => ?_) (fun c67 => ?_)
        · rw [nI_eq (by omega) (by omega)] at c67
          exfalso
          have h8 := hok.1
          have h9 := hok.2.1
          omega
        · refine gg_iload d_Mdl_read_70 rfl ?_
          refine gg_if_eq 83 d_Mdl_read_72 (by decide) (fun c72 => ?_) (fun c72 => ?_)
          · rw [← nI_0, nI_eq (by omega) (by omega)] at c72
            refine gg_iload_n 2 d_Mdl_read_83 rfl rfl ?_
            refine gg_istore d_Mdl_read_84 (by decide) rfl ?_
            dsimp only [List.set]
            refine gg_forget 3 ?_
            refine gg_forget 4 ?_
            dsimp only [List.set]
            exact fills (mT - q) q rfl (Nat.le_refl _) (by omega)
          · rw [← nI_0, nI_eq (by omega) (by omega)] at c72
            refine gg_iload d_Mdl_read_75 rfl ?_
            refine gg_iload_n 3 d_Mdl_read_77 rfl rfl ?_
            refine gg_icmp_eq 83 d_Mdl_read_78 (by decide) (fun c78 => ?_) (fun c78 => ?_)
            · refine gg_iload_n 2 d_Mdl_read_83 rfl rfl ?_
              refine gg_istore d_Mdl_read_84 (by decide) rfl ?_
              dsimp only [List.set]
              refine gg_forget 3 ?_
              refine gg_forget 4 ?_
              dsimp only [List.set]
              exact fills (mT - q) q rfl (Nat.le_refl _) (by omega)
            · rw [nI_eq (by omega) (by omega)] at c78
              exfalso
              have h8 := hok.1
              have h9 := hok.2.1
              omega
      · rw [nI_eq (by omega) (by omega)] at c46
        refine gg_iconst (v := nI 1) d_Mdl_read_49 (by decide) ?_
        refine gg_goto 54 d_Mdl_read_50 (by decide) ?_
        refine gg_istore_n 3 d_Mdl_read_54 rfl (by decide) rfl ?_
        dsimp only [List.set]
        refine gg_aload_n 0 d_Mdl_read_55 rfl rfl ?_
        refine gg_get f_Mdl_34 d_Mdl_read_56 rfl rfl ?_
        refine gg_iload_n 2 d_Mdl_read_59 rfl rfl ?_
        refine gg_isub d_Mdl_read_60 ?_
        rw [pk_sub (by omega)]
        refine gg_istore d_Mdl_read_61 (by decide) rfl ?_
        dsimp only [List.set]
        refine gg_iload_n 2 d_Mdl_read_63 rfl rfl ?_
        refine gg_iconst (v := nI 4) d_Mdl_read_64 (by decide) ?_
        refine gg_irem d_Mdl_read_65 (by decide) ?_
        rw [pk_rem (by omega) (by decide) (by decide)]
        refine gg_iconst (v := nI 1) d_Mdl_read_66 (by decide) ?_
        refine gg_icmp_eq 81 d_Mdl_read_67 (by decide) (fun c67 => ?_) (fun c67 => ?_)
        · rw [nI_eq (by omega) (by omega)] at c67
          exfalso
          have h8 := hok.1
          have h9 := hok.2.1
          omega
        · refine gg_iload d_Mdl_read_70 rfl ?_
          refine gg_if_eq 83 d_Mdl_read_72 (by decide) (fun c72 => ?_) (fun c72 => ?_)
          · rw [← nI_0, nI_eq (by omega) (by omega)] at c72
            refine gg_iload_n 2 d_Mdl_read_83 rfl rfl ?_
            refine gg_istore d_Mdl_read_84 (by decide) rfl ?_
            dsimp only [List.set]
            refine gg_forget 3 ?_
            refine gg_forget 4 ?_
            dsimp only [List.set]
            exact fills (mT - q) q rfl (Nat.le_refl _) (by omega)
          · rw [← nI_0, nI_eq (by omega) (by omega)] at c72
            refine gg_iload d_Mdl_read_75 rfl ?_
            refine gg_iload_n 3 d_Mdl_read_77 rfl rfl ?_
            refine gg_icmp_eq 83 d_Mdl_read_78 (by decide) (fun c78 => ?_) (fun c78 => ?_)
            · refine gg_iload_n 2 d_Mdl_read_83 rfl rfl ?_
              refine gg_istore d_Mdl_read_84 (by decide) rfl ?_
              dsimp only [List.set]
              refine gg_forget 3 ?_
              refine gg_forget 4 ?_
              dsimp only [List.set]
              exact fills (mT - q) q rfl (Nat.le_refl _) (by omega)
            · rw [nI_eq (by omega) (by omega)] at c78
              exfalso
              have h8 := hok.1
              have h9 := hok.2.1
              omega
    · rw [nI_eq (by omega) (by omega)] at c35
      refine gg_iconst (v := nI 2) d_Mdl_read_38 (by decide) ?_
      refine gg_goto 54 d_Mdl_read_39 (by decide) ?_
      refine gg_istore_n 3 d_Mdl_read_54 rfl (by decide) rfl ?_
      dsimp only [List.set]
      refine gg_aload_n 0 d_Mdl_read_55 rfl rfl ?_
      refine gg_get f_Mdl_34 d_Mdl_read_56 rfl rfl ?_
      refine gg_iload_n 2 d_Mdl_read_59 rfl rfl ?_
      refine gg_isub d_Mdl_read_60 ?_
      rw [pk_sub (by omega)]
      refine gg_istore d_Mdl_read_61 (by decide) rfl ?_
      dsimp only [List.set]
      refine gg_iload_n 2 d_Mdl_read_63 rfl rfl ?_
      refine gg_iconst (v := nI 4) d_Mdl_read_64 (by decide) ?_
      refine gg_irem d_Mdl_read_65 (by decide) ?_
      rw [pk_rem (by omega) (by decide) (by decide)]
      refine gg_iconst (v := nI 1) d_Mdl_read_66 (by decide) ?_
      refine gg_icmp_eq 81 d_Mdl_read_67 (by decide) (fun c67 => ?_) (fun c67 => ?_)
      · rw [nI_eq (by omega) (by omega)] at c67
        exfalso
        have h8 := hok.1
        have h9 := hok.2.1
        omega
      · refine gg_iload d_Mdl_read_70 rfl ?_
        refine gg_if_eq 83 d_Mdl_read_72 (by decide) (fun c72 => ?_) (fun c72 => ?_)
        · rw [← nI_0, nI_eq (by omega) (by omega)] at c72
          refine gg_iload_n 2 d_Mdl_read_83 rfl rfl ?_
          refine gg_istore d_Mdl_read_84 (by decide) rfl ?_
          dsimp only [List.set]
          refine gg_forget 3 ?_
          refine gg_forget 4 ?_
          dsimp only [List.set]
          exact fills (mT - q) q rfl (Nat.le_refl _) (by omega)
        · rw [← nI_0, nI_eq (by omega) (by omega)] at c72
          refine gg_iload d_Mdl_read_75 rfl ?_
          refine gg_iload_n 3 d_Mdl_read_77 rfl rfl ?_
          refine gg_icmp_eq 83 d_Mdl_read_78 (by decide) (fun c78 => ?_) (fun c78 => ?_)
          · refine gg_iload_n 2 d_Mdl_read_83 rfl rfl ?_
            refine gg_istore d_Mdl_read_84 (by decide) rfl ?_
            dsimp only [List.set]
            refine gg_forget 3 ?_
            refine gg_forget 4 ?_
            dsimp only [List.set]
            exact fills (mT - q) q rfl (Nat.le_refl _) (by omega)
          · rw [nI_eq (by omega) (by omega)] at c78
            exfalso
            have h8 := hok.1
            have h9 := hok.2.1
            omega
  have loop : ∀ k : Nat, ∀ i, mT - i = k → i ≤ mT → rd_l zT z k i = q → gg_G l D cA d R_Mdl b_Mdl_read 9 (some .int) (gg_is (some (.int (nI (q - (q + 3) / 4)))) (hp tN tF oN oF rN rF pN pF bN bF eN eF lo mT (q - (q + 3) / 4) mW mR mP zT (rd_F zO (rd_w zT z) (q - (q + 3) / 4)) zX zB zL zR zP zQ lm)) 2 [some (.ref 14), some (.int s), some (.int (nI i)), none, none, none, none, none, none] [] ((hp tN tF oN oF rN rF pN pF bN bF eN eF lo mT mO mW mR mP zT zO zX zB zL zR zP zQ lm)) := by
    intro k
    induction k with
    | zero =>
      intro i hk hi hl
      refine gg_iload_n 2 d_Mdl_read_2 rfl rfl ?_
      refine gg_aload_n 0 d_Mdl_read_3 rfl rfl ?_
      refine gg_get f_Mdl_34 d_Mdl_read_4 rfl rfl ?_
      refine gg_icmp_ge 31 d_Mdl_read_7 (by decide) (fun c7 => ?_) (fun c7 => ?_)
      · have e9 : i = q := hl
        rw [e9]
        exact after
      · exact absurd (nI_le (by omega) (by omega)) c7
    | succ k ih =>
      intro i hk hi hl
      refine gg_iload_n 2 d_Mdl_read_2 rfl rfl ?_
      refine gg_aload_n 0 d_Mdl_read_3 rfl rfl ?_
      refine gg_get f_Mdl_34 d_Mdl_read_4 rfl rfl ?_
      refine gg_icmp_ge 31 d_Mdl_read_7 (by decide) (fun c7 => ?_) (fun c7 => ?_)
      · exact absurd c7 (nI_ge (by omega) (by omega))
      · refine gg_aload_n 0 d_Mdl_read_10 rfl rfl ?_
        refine gg_get f_Mdl_7 d_Mdl_read_11 rfl rfl ?_
        refine gg_iload_n 2 d_Mdl_read_14 rfl rfl ?_
        refine gg_iald d_Mdl_read_15 rfl (by omega) (by decide) ?_
        refine gg_iload_n 1 d_Mdl_read_16 rfl rfl ?_
        refine gg_cs1 m_Mdl_53 d_Mdl_read_17 (c_Mdl_which (d := 1) hz (by omega)) rfl (by omega) rfl (Nat.le_of_ble_eq_true rfl) ?_
        rw [show nI (wh_i (zT i) z 64 0) = nI (rd_w zT z i) from rfl]
        have hle := rd_w_le zT z i
        refine gg_bipush (v := nI 64) d_Mdl_read_20 (by decide) ?_
        refine gg_icmp_ge 31 d_Mdl_read_22 (by decide) (fun c22 => ?_) (fun c22 => ?_)
        · rw [nI_leI (by omega) (by omega)] at c22
          rw [rd_l_is (show rd_w zT z i = 64 by omega)] at hl
          rw [hl]
          exact after
        · rw [nI_leI (by omega) (by omega)] at c22
          rw [rd_l_ne (show ¬ rd_w zT z i = 64 by omega)] at hl
          refine gg_iinc (1) d_Mdl_read_25 rfl (by decide) (by decide) rfl ?_
          dsimp only [List.set]
          refine gg_goto 2 d_Mdl_read_28 (by decide) ?_
          rw [nI_1]
          exact ih (i + 1) (by omega) (by omega) hl
  refine gg_K.start (L := [some (.ref 14), some (.int s), none, none, none, none, none, none, none]) rfl (plainFor_of_name (by decide)) rfl (Nat.le_of_ble_eq_true rfl) ?_
  refine gg_iconst (v := 0) d_Mdl_read_0 (by decide) ?_
  refine gg_istore_n 2 d_Mdl_read_1 rfl (by decide) rfl ?_
  dsimp only [List.set]
  exact loop mT 0 rfl (Nat.zero_le _) hq
set_option maxHeartbeats 4000000 in
set_option maxRecDepth 100000 in
theorem c_Mdl_read_bad  {s : Int32} {z : Bool} {q : Nat} (hz : s = 0 ↔ z = true) (ht : mT ≤ 400) (hb : ck_o zT mT) (hq : rd_l zT z mT 0 = q) (hok : ¬ rd_ok zT mT q) (hd : 2 ≤ d) : gg_K l D cA d y_Mdl_read b_Mdl_read 9 (some .int) [.ref 14, .int s] (hp tN tF oN oF rN rF pN pF bN bF eN eF lo mT mO mW mR mP zT zO zX zB zL zR zP zQ lm) (gg_is (some (.int (-1))) (hp tN tF oN oF rN rF pN pF bN bF eN eF lo mT mO mW mR mP zT zO zX zB zL zR zP zQ lm)) := by
  have hql := (rd_l_le zT z mT 0).2
  rw [hq] at hql
  have fills : ∀ k : Nat, ∀ i, mT - i = k → q ≤ i → i ≤ mT → ¬ q % 4 = 1 → (mT - q = 0 ∨ (¬ q % 4 = 0 ∧ mT - q = 4 - q % 4)) → (∀ j, j < i → q ≤ j → zT j = 61) → gg_G l D cA d R_Mdl b_Mdl_read 9 (some .int) (gg_is (some (.int (-1))) (hp tN tF oN oF rN rF pN pF bN bF eN eF lo mT mO mW mR mP zT zO zX zB zL zR zP zQ lm)) 86 [some (.ref 14), some (.int s), some (.int (nI q)), none, none, some (.int (nI i)), none, none, none] [] ((hp tN tF oN oF rN rF pN pF bN bF eN eF lo mT mO mW mR mP zT zO zX zB zL zR zP zQ lm)) := by
    intro k
    induction k with
    | zero =>
      intro i hk hqi hi h1 h2 hj
      refine gg_iload d_Mdl_read_86 rfl ?_
      refine gg_aload_n 0 d_Mdl_read_88 rfl rfl ?_
      refine gg_get f_Mdl_34 d_Mdl_read_89 rfl rfl ?_
      refine gg_icmp_ge 115 d_Mdl_read_92 (by decide) (fun c92 => ?_) (fun c92 => ?_)
      · exact absurd ⟨h1, h2, fun j g1 g2 => hj j (by omega) g2⟩ hok
      · exact absurd (nI_le (by omega) (by omega)) c92
    | succ k ih =>
      intro i hk hqi hi h1 h2 hj
      refine gg_iload d_Mdl_read_86 rfl ?_
      refine gg_aload_n 0 d_Mdl_read_88 rfl rfl ?_
      refine gg_get f_Mdl_34 d_Mdl_read_89 rfl rfl ?_
      refine gg_icmp_ge 115 d_Mdl_read_92 (by decide) (fun c92 => ?_) (fun c92 => ?_)
      · exact absurd c92 (nI_ge (by omega) (by omega))
      · refine gg_aload_n 0 d_Mdl_read_95 rfl rfl ?_
        refine gg_get f_Mdl_7 d_Mdl_read_96 rfl rfl ?_
        refine gg_iload d_Mdl_read_99 rfl ?_
        refine gg_iald d_Mdl_read_101 rfl (by omega) (by decide) ?_
        refine gg_bipush (v := 61) d_Mdl_read_102 (by decide) ?_
        refine gg_icmp_eq 109 d_Mdl_read_104 (by decide) (fun c104 => ?_) (fun c104 => ?_)
        · have hj3 : ∀ j, j < i + 1 → q ≤ j → zT j = 61 := fun j g1 g2 => by
            rcases Nat.lt_or_ge j i with y | y
            · exact hj j y g2
            · rw [show j = i by omega]; exact c104
          refine gg_iinc (1) d_Mdl_read_109 rfl (by decide) (by decide) rfl ?_
          dsimp only [List.set]
          refine gg_goto 86 d_Mdl_read_112 (by decide) ?_
          rw [nI_1]
          exact ih (i + 1) (by omega) (by omega) (by omega) h1 h2 hj3
        · refine gg_iconst (v := (-1)) d_Mdl_read_107 (by decide) ?_
          exact gg_ireturn d_Mdl_read_108 rfl rfl ⟨rfl, rfl⟩
  have after : gg_G l D cA d R_Mdl b_Mdl_read 9 (some .int) (gg_is (some (.int (-1))) (hp tN tF oN oF rN rF pN pF bN bF eN eF lo mT mO mW mR mP zT zO zX zB zL zR zP zQ lm)) 31 [some (.ref 14), some (.int s), some (.int (nI q)), none, none, none, none, none, none] [] (hp tN tF oN oF rN rF pN pF bN bF eN eF lo mT mO mW mR mP zT zO zX zB zL zR zP zQ lm) := by
    refine gg_iload_n 2 d_Mdl_read_31 rfl rfl ?_
    refine gg_iconst (v := nI 4) d_Mdl_read_32 (by decide) ?_
    refine gg_irem d_Mdl_read_33 (by decide) ?_
    rw [pk_rem (by omega) (by decide) (by decide)]
    refine gg_iconst (v := nI 2) d_Mdl_read_34 (by decide) ?_
    refine gg_icmp_ne 42 d_Mdl_read_35 (by decide) (fun c35 => ?_) (fun c35 => ?_)
    · rw [nI_eq (by omega) (by omega)] at c35
      refine gg_iload_n 2 d_Mdl_read_42 rfl rfl ?_
      refine gg_iconst (v := nI 4) d_Mdl_read_43 (by decide) ?_
      refine gg_irem d_Mdl_read_44 (by decide) ?_
      rw [pk_rem (by omega) (by decide) (by decide)]
      refine gg_iconst (v := nI 3) d_Mdl_read_45 (by decide) ?_
      refine gg_icmp_ne 53 d_Mdl_read_46 (by decide) (fun c46 => ?_) (fun c46 => ?_)
      · rw [nI_eq (by omega) (by omega)] at c46
        refine gg_iconst (v := nI 0) d_Mdl_read_53 (by decide) ?_
        refine gg_istore_n 3 d_Mdl_read_54 rfl (by decide) rfl ?_
        dsimp only [List.set]
        refine gg_aload_n 0 d_Mdl_read_55 rfl rfl ?_
        refine gg_get f_Mdl_34 d_Mdl_read_56 rfl rfl ?_
        refine gg_iload_n 2 d_Mdl_read_59 rfl rfl ?_
        refine gg_isub d_Mdl_read_60 ?_
        rw [pk_sub (by omega)]
        refine gg_istore d_Mdl_read_61 (by decide) rfl ?_
        dsimp only [List.set]
        refine gg_iload_n 2 d_Mdl_read_63 rfl rfl ?_
        refine gg_iconst (v := nI 4) d_Mdl_read_64 (by decide) ?_
        refine gg_irem d_Mdl_read_65 (by decide) ?_
        rw [pk_rem (by omega) (by decide) (by decide)]
        refine gg_iconst (v := nI 1) d_Mdl_read_66 (by decide) ?_
        refine gg_icmp_eq 81 d_Mdl_read_67 (by decide) (fun c67 => ?_) (fun c67 => ?_)
        · rw [nI_eq (by omega) (by omega)] at c67
          refine gg_iconst (v := (-1)) d_Mdl_read_81 (by decide) ?_
          exact gg_ireturn d_Mdl_read_82 rfl rfl ⟨rfl, rfl⟩
        · rw [nI_eq (by omega) (by omega)] at c67
          refine gg_iload d_Mdl_read_70 rfl ?_
          refine gg_if_eq 83 d_Mdl_read_72 (by decide) (fun c72 => ?_) (fun c72 => ?_)
          · rw [← nI_0, nI_eq (by omega) (by omega)] at c72
            refine gg_iload_n 2 d_Mdl_read_83 rfl rfl ?_
            refine gg_istore d_Mdl_read_84 (by decide) rfl ?_
            dsimp only [List.set]
            refine gg_forget 3 ?_
            refine gg_forget 4 ?_
            dsimp only [List.set]
            exact fills (mT - q) q rfl (Nat.le_refl _) (by omega) (by omega) (by omega) (fun j g1 g2 => absurd g1 (by omega))
          · rw [← nI_0, nI_eq (by omega) (by omega)] at c72
            refine gg_iload d_Mdl_read_75 rfl ?_
            refine gg_iload_n 3 d_Mdl_read_77 rfl rfl ?_
            refine gg_icmp_eq 83 d_Mdl_read_78 (by decide) (fun c78 => ?_) (fun c78 => ?_)
            · rw [nI_eq (by omega) (by omega)] at c78
              refine gg_iload_n 2 d_Mdl_read_83 rfl rfl ?_
              refine gg_istore d_Mdl_read_84 (by decide) rfl ?_
              dsimp only [List.set]
              refine gg_forget 3 ?_
              refine gg_forget 4 ?_
              dsimp only [List.set]
              exact fills (mT - q) q rfl (Nat.le_refl _) (by omega) (by omega) (by omega) (fun j g1 g2 => absurd g1 (by omega))
            · refine gg_iconst (v := (-1)) d_Mdl_read_81 (by decide) ?_
              exact gg_ireturn d_Mdl_read_82 rfl rfl ⟨rfl, rfl⟩
      · rw [nI_eq (by omega) (by omega)] at c46
        refine gg_iconst (v := nI 1) d_Mdl_read_49 (by decide) ?_
        refine gg_goto 54 d_Mdl_read_50 (by decide) ?_
        refine gg_istore_n 3 d_Mdl_read_54 rfl (by decide) rfl ?_
        dsimp only [List.set]
        refine gg_aload_n 0 d_Mdl_read_55 rfl rfl ?_
        refine gg_get f_Mdl_34 d_Mdl_read_56 rfl rfl ?_
        refine gg_iload_n 2 d_Mdl_read_59 rfl rfl ?_
        refine gg_isub d_Mdl_read_60 ?_
        rw [pk_sub (by omega)]
        refine gg_istore d_Mdl_read_61 (by decide) rfl ?_
        dsimp only [List.set]
        refine gg_iload_n 2 d_Mdl_read_63 rfl rfl ?_
        refine gg_iconst (v := nI 4) d_Mdl_read_64 (by decide) ?_
        refine gg_irem d_Mdl_read_65 (by decide) ?_
        rw [pk_rem (by omega) (by decide) (by decide)]
        refine gg_iconst (v := nI 1) d_Mdl_read_66 (by decide) ?_
        refine gg_icmp_eq 81 d_Mdl_read_67 (by decide) (fun c67 => ?_) (fun c67 => ?_)
        · rw [nI_eq (by omega) (by omega)] at c67
          refine gg_iconst (v := (-1)) d_Mdl_read_81 (by decide) ?_
          exact gg_ireturn d_Mdl_read_82 rfl rfl ⟨rfl, rfl⟩
        · rw [nI_eq (by omega) (by omega)] at c67
          refine gg_iload d_Mdl_read_70 rfl ?_
          refine gg_if_eq 83 d_Mdl_read_72 (by decide) (fun c72 => ?_) (fun c72 => ?_)
          · rw [← nI_0, nI_eq (by omega) (by omega)] at c72
            refine gg_iload_n 2 d_Mdl_read_83 rfl rfl ?_
            refine gg_istore d_Mdl_read_84 (by decide) rfl ?_
            dsimp only [List.set]
            refine gg_forget 3 ?_
            refine gg_forget 4 ?_
            dsimp only [List.set]
            exact fills (mT - q) q rfl (Nat.le_refl _) (by omega) (by omega) (by omega) (fun j g1 g2 => absurd g1 (by omega))
          · rw [← nI_0, nI_eq (by omega) (by omega)] at c72
            refine gg_iload d_Mdl_read_75 rfl ?_
            refine gg_iload_n 3 d_Mdl_read_77 rfl rfl ?_
            refine gg_icmp_eq 83 d_Mdl_read_78 (by decide) (fun c78 => ?_) (fun c78 => ?_)
            · rw [nI_eq (by omega) (by omega)] at c78
              refine gg_iload_n 2 d_Mdl_read_83 rfl rfl ?_
              refine gg_istore d_Mdl_read_84 (by decide) rfl ?_
              dsimp only [List.set]
              refine gg_forget 3 ?_
              refine gg_forget 4 ?_
              dsimp only [List.set]
              exact fills (mT - q) q rfl (Nat.le_refl _) (by omega) (by omega) (by omega) (fun j g1 g2 => absurd g1 (by omega))
            · refine gg_iconst (v := (-1)) d_Mdl_read_81 (by decide) ?_
              exact gg_ireturn d_Mdl_read_82 rfl rfl ⟨rfl, rfl⟩
    · rw [nI_eq (by omega) (by omega)] at c35
      refine gg_iconst (v := nI 2) d_Mdl_read_38 (by decide) ?_
      refine gg_goto 54 d_Mdl_read_39 (by decide) ?_
      refine gg_istore_n 3 d_Mdl_read_54 rfl (by decide) rfl ?_
      dsimp only [List.set]
      refine gg_aload_n 0 d_Mdl_read_55 rfl rfl ?_
      refine gg_get f_Mdl_34 d_Mdl_read_56 rfl rfl ?_
      refine gg_iload_n 2 d_Mdl_read_59 rfl rfl ?_
      refine gg_isub d_Mdl_read_60 ?_
      rw [pk_sub (by omega)]
      refine gg_istore d_Mdl_read_61 (by decide) rfl ?_
      dsimp only [List.set]
      refine gg_iload_n 2 d_Mdl_read_63 rfl rfl ?_
      refine gg_iconst (v := nI 4) d_Mdl_read_64 (by decide) ?_
      refine gg_irem d_Mdl_read_65 (by decide) ?_
      rw [pk_rem (by omega) (by decide) (by decide)]
      refine gg_iconst (v := nI 1) d_Mdl_read_66 (by decide) ?_
      refine gg_icmp_eq 81 d_Mdl_read_67 (by decide) (fun c67 => ?_) (fun c67 => ?_)
      · rw [nI_eq (by omega) (by omega)] at c67
        refine gg_iconst (v := (-1)) d_Mdl_read_81 (by decide) ?_
        exact gg_ireturn d_Mdl_read_82 rfl rfl ⟨rfl, rfl⟩
      · rw [nI_eq (by omega) (by omega)] at c67
        refine gg_iload d_Mdl_read_70 rfl ?_
        refine gg_if_eq 83 d_Mdl_read_72 (by decide) (fun c72 => ?_) (fun c72 => ?_)
        · rw [← nI_0, nI_eq (by omega) (by omega)] at c72
          refine gg_iload_n 2 d_Mdl_read_83 rfl rfl ?_
          refine gg_istore d_Mdl_read_84 (by decide) rfl ?_
          dsimp only [List.set]
          refine gg_forget 3 ?_
          refine gg_forget 4 ?_
          dsimp only [List.set]
          exact fills (mT - q) q rfl (Nat.le_refl _) (by omega) (by omega) (by omega) (fun j g1 g2 => absurd g1 (by omega))
        · rw [← nI_0, nI_eq (by omega) (by omega)] at c72
          refine gg_iload d_Mdl_read_75 rfl ?_
          refine gg_iload_n 3 d_Mdl_read_77 rfl rfl ?_
          refine gg_icmp_eq 83 d_Mdl_read_78 (by decide) (fun c78 => ?_) (fun c78 => ?_)
          · rw [nI_eq (by omega) (by omega)] at c78
            refine gg_iload_n 2 d_Mdl_read_83 rfl rfl ?_
            refine gg_istore d_Mdl_read_84 (by decide) rfl ?_
            dsimp only [List.set]
            refine gg_forget 3 ?_
            refine gg_forget 4 ?_
            dsimp only [List.set]
            exact fills (mT - q) q rfl (Nat.le_refl _) (by omega) (by omega) (by omega) (fun j g1 g2 => absurd g1 (by omega))
          · refine gg_iconst (v := (-1)) d_Mdl_read_81 (by decide) ?_
            exact gg_ireturn d_Mdl_read_82 rfl rfl ⟨rfl, rfl⟩
  have loop : ∀ k : Nat, ∀ i, mT - i = k → i ≤ mT → rd_l zT z k i = q → gg_G l D cA d R_Mdl b_Mdl_read 9 (some .int) (gg_is (some (.int (-1))) (hp tN tF oN oF rN rF pN pF bN bF eN eF lo mT mO mW mR mP zT zO zX zB zL zR zP zQ lm)) 2 [some (.ref 14), some (.int s), some (.int (nI i)), none, none, none, none, none, none] [] ((hp tN tF oN oF rN rF pN pF bN bF eN eF lo mT mO mW mR mP zT zO zX zB zL zR zP zQ lm)) := by
    intro k
    induction k with
    | zero =>
      intro i hk hi hl
      refine gg_iload_n 2 d_Mdl_read_2 rfl rfl ?_
      refine gg_aload_n 0 d_Mdl_read_3 rfl rfl ?_
      refine gg_get f_Mdl_34 d_Mdl_read_4 rfl rfl ?_
      refine gg_icmp_ge 31 d_Mdl_read_7 (by decide) (fun c7 => ?_) (fun c7 => ?_)
      · have e9 : i = q := hl
        rw [e9]
        exact after
      · exact absurd (nI_le (by omega) (by omega)) c7
    | succ k ih =>
      intro i hk hi hl
      refine gg_iload_n 2 d_Mdl_read_2 rfl rfl ?_
      refine gg_aload_n 0 d_Mdl_read_3 rfl rfl ?_
      refine gg_get f_Mdl_34 d_Mdl_read_4 rfl rfl ?_
      refine gg_icmp_ge 31 d_Mdl_read_7 (by decide) (fun c7 => ?_) (fun c7 => ?_)
      · exact absurd c7 (nI_ge (by omega) (by omega))
      · refine gg_aload_n 0 d_Mdl_read_10 rfl rfl ?_
        refine gg_get f_Mdl_7 d_Mdl_read_11 rfl rfl ?_
        refine gg_iload_n 2 d_Mdl_read_14 rfl rfl ?_
        refine gg_iald d_Mdl_read_15 rfl (by omega) (by decide) ?_
        refine gg_iload_n 1 d_Mdl_read_16 rfl rfl ?_
        refine gg_cs1 m_Mdl_53 d_Mdl_read_17 (c_Mdl_which (d := 1) hz (by omega)) rfl (by omega) rfl (Nat.le_of_ble_eq_true rfl) ?_
        rw [show nI (wh_i (zT i) z 64 0) = nI (rd_w zT z i) from rfl]
        have hle := rd_w_le zT z i
        refine gg_bipush (v := nI 64) d_Mdl_read_20 (by decide) ?_
        refine gg_icmp_ge 31 d_Mdl_read_22 (by decide) (fun c22 => ?_) (fun c22 => ?_)
        · rw [nI_leI (by omega) (by omega)] at c22
          rw [rd_l_is (show rd_w zT z i = 64 by omega)] at hl
          rw [hl]
          exact after
        · rw [nI_leI (by omega) (by omega)] at c22
          rw [rd_l_ne (show ¬ rd_w zT z i = 64 by omega)] at hl
          refine gg_iinc (1) d_Mdl_read_25 rfl (by decide) (by decide) rfl ?_
          dsimp only [List.set]
          refine gg_goto 2 d_Mdl_read_28 (by decide) ?_
          rw [nI_1]
          exact ih (i + 1) (by omega) (by omega) hl
  refine gg_K.start (L := [some (.ref 14), some (.int s), none, none, none, none, none, none, none]) rfl (plainFor_of_name (by decide)) rfl (Nat.le_of_ble_eq_true rfl) ?_
  refine gg_iconst (v := 0) d_Mdl_read_0 (by decide) ?_
  refine gg_istore_n 2 d_Mdl_read_1 rfl (by decide) rfl ?_
  dsimp only [List.set]
  exact loop mT 0 rfl (Nat.zero_le _) hq
end RDM
