/-- the sign of a value; z: the plain signs -/
def sg_i (v : Int32) (z : Bool) : Int32 := if v < 26 then 65 + v else if v < 52 then 97 + v - 26 else if v < 62 then 48 + v - 52 else if v = 62 then (if z = true then 43 else 45) else (if z = true then 47 else 95)
/-- the value of a sign, or -1 -/
def sx_i (x : Int32) (z : Bool) : Int32 := if 65 ≤ x ∧ x ≤ 90 then x - 65 else if 97 ≤ x ∧ x ≤ 122 then x - 97 + 26 else if 48 ≤ x ∧ x ≤ 57 then x - 48 + 52 else if x = (if z = true then 43 else 45) then 62 else if x = (if z = true then 47 else 95) then 63 else -1
def wh_i (x : Int32) (z : Bool) : Nat → Nat → Nat
  | 0, v => v
  | k + 1, v => if sg_i (nI v) z = x then v else wh_i x z k (v + 1)
theorem wh_is {x : Int32} {z : Bool} {k v : Nat} (h : sg_i (nI v) z = x) : wh_i x z (k + 1) v = v := if_pos h
theorem wh_ne {x : Int32} {z : Bool} {k v : Nat} (h : ¬ sg_i (nI v) z = x) : wh_i x z (k + 1) v = wh_i x z k (v + 1) := if_neg h
theorem wh_le (x : Int32) (z : Bool) : ∀ k v, wh_i x z k v ≤ v + k
  | 0, v => Nat.le_refl v
  | k + 1, v => by
    unfold wh_i
    have := wh_le x z k (v + 1)
    split <;> omega
set_option maxRecDepth 100000 in
/-- for bytes the two are one -/
theorem sx_wh : ∀ b, b < 256 → ∀ z : Bool, sx_i (nI b) z = if wh_i (nI b) z 64 0 = 64 then -1 else nI (wh_i (nI b) z 64 0) := by decide +kernel
set_option maxHeartbeats 4000000 in
set_option maxRecDepth 100000 in
theorem c_Sig_signOf {l : Launch} {D : va_G} {cA : ClassId} {d : Nat} {h : List gg_C} {s : Int32} {z : Bool} {v : Int32} (hz : s = 0 ↔ z = true) : gg_K l D cA d y_Sig_signOf b_Sig_signOf 2 (some .int) [.int v, .int s] h (gg_is (some (.int (sg_i v z))) h) := by
  refine gg_K.start (L := [some (.int v), some (.int s)]) rfl (plainFor_of_name (by decide)) rfl (Nat.le_of_ble_eq_true rfl) ?_
  refine gg_iload_n 0 d_Sig_signOf_0 rfl rfl ?_
  refine gg_bipush (v := 26) d_Sig_signOf_1 (by decide) ?_
  refine gg_icmp_ge 11 d_Sig_signOf_3 (by decide) (fun c3 => ?_) (fun c3 => ?_)
  · have h1 := Int32.not_lt.mpr c3
    refine gg_iload_n 0 d_Sig_signOf_11 rfl rfl ?_
    refine gg_bipush (v := 52) d_Sig_signOf_12 (by decide) ?_
    refine gg_icmp_ge 25 d_Sig_signOf_14 (by decide) (fun c14 => ?_) (fun c14 => ?_)
    · have h2 := Int32.not_lt.mpr c14
      refine gg_iload_n 0 d_Sig_signOf_25 rfl rfl ?_
      refine gg_bipush (v := 62) d_Sig_signOf_26 (by decide) ?_
      refine gg_icmp_ge 39 d_Sig_signOf_28 (by decide) (fun c28 => ?_) (fun c28 => ?_)
      · have h3 := Int32.not_lt.mpr c28
        refine gg_iload_n 0 d_Sig_signOf_39 rfl rfl ?_
        refine gg_bipush (v := 62) d_Sig_signOf_40 (by decide) ?_
        refine gg_icmp_ne 57 d_Sig_signOf_42 (by decide) (fun c42 => ?_) (fun c42 => ?_)
        · have h4 := c42
          refine gg_iload_n 1 d_Sig_signOf_57 rfl rfl ?_
          refine gg_if_eq 66 d_Sig_signOf_58 (by decide) (fun c58 => ?_) (fun c58 => ?_)
          · have h5 := hz.mp c58
            refine gg_bipush (v := 47) d_Sig_signOf_66 (by decide) ?_
            exact gg_ireturn d_Sig_signOf_68 rfl rfl ⟨by unfold sg_i; first | rw [if_pos h1] | rw [if_neg h1, if_pos h2] | rw [if_neg h1, if_neg h2, if_pos h3] | rw [if_neg h1, if_neg h2, if_neg h3, if_pos h4, if_pos h5] | rw [if_neg h1, if_neg h2, if_neg h3, if_pos h4, if_neg h5] | rw [if_neg h1, if_neg h2, if_neg h3, if_neg h4, if_pos h5] | rw [if_neg h1, if_neg h2, if_neg h3, if_neg h4, if_neg h5], rfl⟩
          · have h5 := fun q => c58 (hz.mpr q)
            refine gg_bipush (v := 95) d_Sig_signOf_61 (by decide) ?_
            refine gg_goto 68 d_Sig_signOf_63 (by decide) ?_
            exact gg_ireturn d_Sig_signOf_68 rfl rfl ⟨by unfold sg_i; first | rw [if_pos h1] | rw [if_neg h1, if_pos h2] | rw [if_neg h1, if_neg h2, if_pos h3] | rw [if_neg h1, if_neg h2, if_neg h3, if_pos h4, if_pos h5] | rw [if_neg h1, if_neg h2, if_neg h3, if_pos h4, if_neg h5] | rw [if_neg h1, if_neg h2, if_neg h3, if_neg h4, if_pos h5] | rw [if_neg h1, if_neg h2, if_neg h3, if_neg h4, if_neg h5], rfl⟩
        · have h4 := c42
          refine gg_iload_n 1 d_Sig_signOf_45 rfl rfl ?_
          refine gg_if_eq 54 d_Sig_signOf_46 (by decide) (fun c46 => ?_) (fun c46 => ?_)
          · have h5 := hz.mp c46
            refine gg_bipush (v := 43) d_Sig_signOf_54 (by decide) ?_
            exact gg_ireturn d_Sig_signOf_56 rfl rfl ⟨by unfold sg_i; first | rw [if_pos h1] | rw [if_neg h1, if_pos h2] | rw [if_neg h1, if_neg h2, if_pos h3] | rw [if_neg h1, if_neg h2, if_neg h3, if_pos h4, if_pos h5] | rw [if_neg h1, if_neg h2, if_neg h3, if_pos h4, if_neg h5] | rw [if_neg h1, if_neg h2, if_neg h3, if_neg h4, if_pos h5] | rw [if_neg h1, if_neg h2, if_neg h3, if_neg h4, if_neg h5], rfl⟩
          · have h5 := fun q => c46 (hz.mpr q)
            refine gg_bipush (v := 45) d_Sig_signOf_49 (by decide) ?_
            refine gg_goto 56 d_Sig_signOf_51 (by decide) ?_
            exact gg_ireturn d_Sig_signOf_56 rfl rfl ⟨by unfold sg_i; first | rw [if_pos h1] | rw [if_neg h1, if_pos h2] | rw [if_neg h1, if_neg h2, if_pos h3] | rw [if_neg h1, if_neg h2, if_neg h3, if_pos h4, if_pos h5] | rw [if_neg h1, if_neg h2, if_neg h3, if_pos h4, if_neg h5] | rw [if_neg h1, if_neg h2, if_neg h3, if_neg h4, if_pos h5] | rw [if_neg h1, if_neg h2, if_neg h3, if_neg h4, if_neg h5], rfl⟩
      · have h3 := Int32.not_le.mp c28
        refine gg_bipush (v := 48) d_Sig_signOf_31 (by decide) ?_
        refine gg_iload_n 0 d_Sig_signOf_33 rfl rfl ?_
        refine gg_iadd d_Sig_signOf_34 ?_
        refine gg_bipush (v := 52) d_Sig_signOf_35 (by decide) ?_
        refine gg_isub d_Sig_signOf_37 ?_
        exact gg_ireturn d_Sig_signOf_38 rfl rfl ⟨by unfold sg_i; first | rw [if_pos h1] | rw [if_neg h1, if_pos h2] | rw [if_neg h1, if_neg h2, if_pos h3] | rw [if_neg h1, if_neg h2, if_neg h3, if_pos h4, if_pos h5] | rw [if_neg h1, if_neg h2, if_neg h3, if_pos h4, if_neg h5] | rw [if_neg h1, if_neg h2, if_neg h3, if_neg h4, if_pos h5] | rw [if_neg h1, if_neg h2, if_neg h3, if_neg h4, if_neg h5], rfl⟩
    · have h2 := Int32.not_le.mp c14
      refine gg_bipush (v := 97) d_Sig_signOf_17 (by decide) ?_
      refine gg_iload_n 0 d_Sig_signOf_19 rfl rfl ?_
      refine gg_iadd d_Sig_signOf_20 ?_
      refine gg_bipush (v := 26) d_Sig_signOf_21 (by decide) ?_
      refine gg_isub d_Sig_signOf_23 ?_
      exact gg_ireturn d_Sig_signOf_24 rfl rfl ⟨by unfold sg_i; first | rw [if_pos h1] | rw [if_neg h1, if_pos h2] | rw [if_neg h1, if_neg h2, if_pos h3] | rw [if_neg h1, if_neg h2, if_neg h3, if_pos h4, if_pos h5] | rw [if_neg h1, if_neg h2, if_neg h3, if_pos h4, if_neg h5] | rw [if_neg h1, if_neg h2, if_neg h3, if_neg h4, if_pos h5] | rw [if_neg h1, if_neg h2, if_neg h3, if_neg h4, if_neg h5], rfl⟩
  · have h1 := Int32.not_le.mp c3
    refine gg_bipush (v := 65) d_Sig_signOf_6 (by decide) ?_
    refine gg_iload_n 0 d_Sig_signOf_8 rfl rfl ?_
    refine gg_iadd d_Sig_signOf_9 ?_
    exact gg_ireturn d_Sig_signOf_10 rfl rfl ⟨by unfold sg_i; first | rw [if_pos h1] | rw [if_neg h1, if_pos h2] | rw [if_neg h1, if_neg h2, if_pos h3] | rw [if_neg h1, if_neg h2, if_neg h3, if_pos h4, if_pos h5] | rw [if_neg h1, if_neg h2, if_neg h3, if_pos h4, if_neg h5] | rw [if_neg h1, if_neg h2, if_neg h3, if_neg h4, if_pos h5] | rw [if_neg h1, if_neg h2, if_neg h3, if_neg h4, if_neg h5], rfl⟩
set_option maxHeartbeats 4000000 in
set_option maxRecDepth 100000 in
theorem c_Mdl_sign {l : Launch} {D : va_G} {cA : ClassId} {d : Nat} {h : List gg_C} {s : Int32} {z : Bool} {v : Int32} (hz : s = 0 ↔ z = true) : gg_K l D cA d y_Mdl_sign b_Mdl_sign 2 (some .int) [.int v, .int s] h (gg_is (some (.int (sg_i v z))) h) := by
  refine gg_K.start (L := [some (.int v), some (.int s)]) rfl (plainFor_of_name (by decide)) rfl (Nat.le_of_ble_eq_true rfl) ?_
  refine gg_iload_n 0 d_Mdl_sign_0 rfl rfl ?_
  refine gg_bipush (v := 26) d_Mdl_sign_1 (by decide) ?_
  refine gg_icmp_ge 11 d_Mdl_sign_3 (by decide) (fun c3 => ?_) (fun c3 => ?_)
  · have h1 := Int32.not_lt.mpr c3
    refine gg_iload_n 0 d_Mdl_sign_11 rfl rfl ?_
    refine gg_bipush (v := 52) d_Mdl_sign_12 (by decide) ?_
    refine gg_icmp_ge 25 d_Mdl_sign_14 (by decide) (fun c14 => ?_) (fun c14 => ?_)
    · have h2 := Int32.not_lt.mpr c14
      refine gg_iload_n 0 d_Mdl_sign_25 rfl rfl ?_
      refine gg_bipush (v := 62) d_Mdl_sign_26 (by decide) ?_
      refine gg_icmp_ge 39 d_Mdl_sign_28 (by decide) (fun c28 => ?_) (fun c28 => ?_)
      · have h3 := Int32.not_lt.mpr c28
        refine gg_iload_n 0 d_Mdl_sign_39 rfl rfl ?_
        refine gg_bipush (v := 62) d_Mdl_sign_40 (by decide) ?_
        refine gg_icmp_ne 57 d_Mdl_sign_42 (by decide) (fun c42 => ?_) (fun c42 => ?_)
        · have h4 := c42
          refine gg_iload_n 1 d_Mdl_sign_57 rfl rfl ?_
          refine gg_if_eq 66 d_Mdl_sign_58 (by decide) (fun c58 => ?_) (fun c58 => ?_)
          · have h5 := hz.mp c58
            refine gg_bipush (v := 47) d_Mdl_sign_66 (by decide) ?_
            exact gg_ireturn d_Mdl_sign_68 rfl rfl ⟨by unfold sg_i; first | rw [if_pos h1] | rw [if_neg h1, if_pos h2] | rw [if_neg h1, if_neg h2, if_pos h3] | rw [if_neg h1, if_neg h2, if_neg h3, if_pos h4, if_pos h5] | rw [if_neg h1, if_neg h2, if_neg h3, if_pos h4, if_neg h5] | rw [if_neg h1, if_neg h2, if_neg h3, if_neg h4, if_pos h5] | rw [if_neg h1, if_neg h2, if_neg h3, if_neg h4, if_neg h5], rfl⟩
          · have h5 := fun q => c58 (hz.mpr q)
            refine gg_bipush (v := 95) d_Mdl_sign_61 (by decide) ?_
            refine gg_goto 68 d_Mdl_sign_63 (by decide) ?_
            exact gg_ireturn d_Mdl_sign_68 rfl rfl ⟨by unfold sg_i; first | rw [if_pos h1] | rw [if_neg h1, if_pos h2] | rw [if_neg h1, if_neg h2, if_pos h3] | rw [if_neg h1, if_neg h2, if_neg h3, if_pos h4, if_pos h5] | rw [if_neg h1, if_neg h2, if_neg h3, if_pos h4, if_neg h5] | rw [if_neg h1, if_neg h2, if_neg h3, if_neg h4, if_pos h5] | rw [if_neg h1, if_neg h2, if_neg h3, if_neg h4, if_neg h5], rfl⟩
        · have h4 := c42
          refine gg_iload_n 1 d_Mdl_sign_45 rfl rfl ?_
          refine gg_if_eq 54 d_Mdl_sign_46 (by decide) (fun c46 => ?_) (fun c46 => ?_)
          · have h5 := hz.mp c46
            refine gg_bipush (v := 43) d_Mdl_sign_54 (by decide) ?_
            exact gg_ireturn d_Mdl_sign_56 rfl rfl ⟨by unfold sg_i; first | rw [if_pos h1] | rw [if_neg h1, if_pos h2] | rw [if_neg h1, if_neg h2, if_pos h3] | rw [if_neg h1, if_neg h2, if_neg h3, if_pos h4, if_pos h5] | rw [if_neg h1, if_neg h2, if_neg h3, if_pos h4, if_neg h5] | rw [if_neg h1, if_neg h2, if_neg h3, if_neg h4, if_pos h5] | rw [if_neg h1, if_neg h2, if_neg h3, if_neg h4, if_neg h5], rfl⟩
          · have h5 := fun q => c46 (hz.mpr q)
            refine gg_bipush (v := 45) d_Mdl_sign_49 (by decide) ?_
            refine gg_goto 56 d_Mdl_sign_51 (by decide) ?_
            exact gg_ireturn d_Mdl_sign_56 rfl rfl ⟨by unfold sg_i; first | rw [if_pos h1] | rw [if_neg h1, if_pos h2] | rw [if_neg h1, if_neg h2, if_pos h3] | rw [if_neg h1, if_neg h2, if_neg h3, if_pos h4, if_pos h5] | rw [if_neg h1, if_neg h2, if_neg h3, if_pos h4, if_neg h5] | rw [if_neg h1, if_neg h2, if_neg h3, if_neg h4, if_pos h5] | rw [if_neg h1, if_neg h2, if_neg h3, if_neg h4, if_neg h5], rfl⟩
      · have h3 := Int32.not_le.mp c28
        refine gg_bipush (v := 48) d_Mdl_sign_31 (by decide) ?_
        refine gg_iload_n 0 d_Mdl_sign_33 rfl rfl ?_
        refine gg_iadd d_Mdl_sign_34 ?_
        refine gg_bipush (v := 52) d_Mdl_sign_35 (by decide) ?_
        refine gg_isub d_Mdl_sign_37 ?_
        exact gg_ireturn d_Mdl_sign_38 rfl rfl ⟨by unfold sg_i; first | rw [if_pos h1] | rw [if_neg h1, if_pos h2] | rw [if_neg h1, if_neg h2, if_pos h3] | rw [if_neg h1, if_neg h2, if_neg h3, if_pos h4, if_pos h5] | rw [if_neg h1, if_neg h2, if_neg h3, if_pos h4, if_neg h5] | rw [if_neg h1, if_neg h2, if_neg h3, if_neg h4, if_pos h5] | rw [if_neg h1, if_neg h2, if_neg h3, if_neg h4, if_neg h5], rfl⟩
    · have h2 := Int32.not_le.mp c14
      refine gg_bipush (v := 97) d_Mdl_sign_17 (by decide) ?_
      refine gg_iload_n 0 d_Mdl_sign_19 rfl rfl ?_
      refine gg_iadd d_Mdl_sign_20 ?_
      refine gg_bipush (v := 26) d_Mdl_sign_21 (by decide) ?_
      refine gg_isub d_Mdl_sign_23 ?_
      exact gg_ireturn d_Mdl_sign_24 rfl rfl ⟨by unfold sg_i; first | rw [if_pos h1] | rw [if_neg h1, if_pos h2] | rw [if_neg h1, if_neg h2, if_pos h3] | rw [if_neg h1, if_neg h2, if_neg h3, if_pos h4, if_pos h5] | rw [if_neg h1, if_neg h2, if_neg h3, if_pos h4, if_neg h5] | rw [if_neg h1, if_neg h2, if_neg h3, if_neg h4, if_pos h5] | rw [if_neg h1, if_neg h2, if_neg h3, if_neg h4, if_neg h5], rfl⟩
  · have h1 := Int32.not_le.mp c3
    refine gg_bipush (v := 65) d_Mdl_sign_6 (by decide) ?_
    refine gg_iload_n 0 d_Mdl_sign_8 rfl rfl ?_
    refine gg_iadd d_Mdl_sign_9 ?_
    exact gg_ireturn d_Mdl_sign_10 rfl rfl ⟨by unfold sg_i; first | rw [if_pos h1] | rw [if_neg h1, if_pos h2] | rw [if_neg h1, if_neg h2, if_pos h3] | rw [if_neg h1, if_neg h2, if_neg h3, if_pos h4, if_pos h5] | rw [if_neg h1, if_neg h2, if_neg h3, if_pos h4, if_neg h5] | rw [if_neg h1, if_neg h2, if_neg h3, if_neg h4, if_pos h5] | rw [if_neg h1, if_neg h2, if_neg h3, if_neg h4, if_neg h5], rfl⟩
set_option maxHeartbeats 4000000 in
set_option maxRecDepth 100000 in
theorem c_Sig_sixBitsOf {l : Launch} {D : va_G} {cA : ClassId} {d : Nat} {h : List gg_C} {s : Int32} {z : Bool} {x : Int32} (hz : s = 0 ↔ z = true) : gg_K l D cA d y_Sig_sixBitsOf b_Sig_sixBitsOf 2 (some .int) [.int x, .int s] h (gg_is (some (.int (sx_i x z))) h) := by
  refine gg_K.start (L := [some (.int x), some (.int s)]) rfl (plainFor_of_name (by decide)) rfl (Nat.le_of_ble_eq_true rfl) ?_
  refine gg_iload_n 0 d_Sig_sixBitsOf_0 rfl rfl ?_
  refine gg_bipush (v := 65) d_Sig_sixBitsOf_1 (by decide) ?_
  refine gg_icmp_lt 17 d_Sig_sixBitsOf_3 (by decide) (fun c3 => ?_) (fun c3 => ?_)
  · have h1 : ¬ (65 ≤ x ∧ x ≤ 90) := fun q => absurd q.1 (Int32.not_le.mpr c3)
    refine gg_iload_n 0 d_Sig_sixBitsOf_17 rfl rfl ?_
    refine gg_bipush (v := 97) d_Sig_sixBitsOf_18 (by decide) ?_
    refine gg_icmp_lt 37 d_Sig_sixBitsOf_20 (by decide) (fun c20 => ?_) (fun c20 => ?_)
    · have h2 : ¬ (97 ≤ x ∧ x ≤ 122) := fun q => absurd q.1 (Int32.not_le.mpr c20)
      refine gg_iload_n 0 d_Sig_sixBitsOf_37 rfl rfl ?_
      refine gg_bipush (v := 48) d_Sig_sixBitsOf_38 (by decide) ?_
      refine gg_icmp_lt 57 d_Sig_sixBitsOf_40 (by decide) (fun c40 => ?_) (fun c40 => ?_)
      · have h3 : ¬ (48 ≤ x ∧ x ≤ 57) := fun q => absurd q.1 (Int32.not_le.mpr c40)
        refine gg_iload_n 0 d_Sig_sixBitsOf_57 rfl rfl ?_
        refine gg_iload_n 1 d_Sig_sixBitsOf_58 rfl rfl ?_
        refine gg_if_eq 67 d_Sig_sixBitsOf_59 (by decide) (fun c59 => ?_) (fun c59 => ?_)
        · have h5 : (if z = true then (43 : Int32) else 45) = 43 := if_pos (hz.mp c59)
          have h6 : (if z = true then (47 : Int32) else 95) = 47 := if_pos (hz.mp c59)
          refine gg_bipush (v := 43) d_Sig_sixBitsOf_67 (by decide) ?_
          refine gg_icmp_ne 75 d_Sig_sixBitsOf_69 (by decide) (fun c69 => ?_) (fun c69 => ?_)
          · refine gg_iload_n 0 d_Sig_sixBitsOf_75 rfl rfl ?_
            refine gg_iload_n 1 d_Sig_sixBitsOf_76 rfl rfl ?_
            refine gg_if_eq 85 d_Sig_sixBitsOf_77 (by decide) (fun c77 => ?_) (fun c77 => ?_)
            · first
              | exact absurd c77 c59
              | refine gg_bipush (v := 47) d_Sig_sixBitsOf_85 (by decide) ?_
                refine gg_icmp_ne 95 d_Sig_sixBitsOf_87 (by decide) (fun c87 => ?_) (fun c87 => ?_)
                · refine gg_iconst (v := (-1)) d_Sig_sixBitsOf_95 (by decide) ?_
                  exact gg_ireturn d_Sig_sixBitsOf_96 rfl rfl ⟨by unfold sx_i; first | rw [if_pos h1] | rw [if_neg h1, if_pos h2] | rw [if_neg h1, if_neg h2, if_pos h3] | rw [if_neg h1, if_neg h2, if_neg h3, h5, if_pos c69] | rw [if_neg h1, if_neg h2, if_neg h3, h5, h6, if_neg c69, if_pos c87] | rw [if_neg h1, if_neg h2, if_neg h3, h5, h6, if_neg c69, if_neg c87], rfl⟩
                · refine gg_bipush (v := 63) d_Sig_sixBitsOf_90 (by decide) ?_
                  refine gg_goto 96 d_Sig_sixBitsOf_92 (by decide) ?_
                  exact gg_ireturn d_Sig_sixBitsOf_96 rfl rfl ⟨by unfold sx_i; first | rw [if_pos h1] | rw [if_neg h1, if_pos h2] | rw [if_neg h1, if_neg h2, if_pos h3] | rw [if_neg h1, if_neg h2, if_neg h3, h5, if_pos c69] | rw [if_neg h1, if_neg h2, if_neg h3, h5, h6, if_neg c69, if_pos c87] | rw [if_neg h1, if_neg h2, if_neg h3, h5, h6, if_neg c69, if_neg c87], rfl⟩
            · first
              | exact absurd c59 c77
              | refine gg_bipush (v := 95) d_Sig_sixBitsOf_80 (by decide) ?_
                refine gg_goto 87 d_Sig_sixBitsOf_82 (by decide) ?_
                refine gg_icmp_ne 95 d_Sig_sixBitsOf_87 (by decide) (fun c87 => ?_) (fun c87 => ?_)
                · refine gg_iconst (v := (-1)) d_Sig_sixBitsOf_95 (by decide) ?_
                  exact gg_ireturn d_Sig_sixBitsOf_96 rfl rfl ⟨by unfold sx_i; first | rw [if_pos h1] | rw [if_neg h1, if_pos h2] | rw [if_neg h1, if_neg h2, if_pos h3] | rw [if_neg h1, if_neg h2, if_neg h3, h5, if_pos c69] | rw [if_neg h1, if_neg h2, if_neg h3, h5, h6, if_neg c69, if_pos c87] | rw [if_neg h1, if_neg h2, if_neg h3, h5, h6, if_neg c69, if_neg c87], rfl⟩
                · refine gg_bipush (v := 63) d_Sig_sixBitsOf_90 (by decide) ?_
                  refine gg_goto 96 d_Sig_sixBitsOf_92 (by decide) ?_
                  exact gg_ireturn d_Sig_sixBitsOf_96 rfl rfl ⟨by unfold sx_i; first | rw [if_pos h1] | rw [if_neg h1, if_pos h2] | rw [if_neg h1, if_neg h2, if_pos h3] | rw [if_neg h1, if_neg h2, if_neg h3, h5, if_pos c69] | rw [if_neg h1, if_neg h2, if_neg h3, h5, h6, if_neg c69, if_pos c87] | rw [if_neg h1, if_neg h2, if_neg h3, h5, h6, if_neg c69, if_neg c87], rfl⟩
          · refine gg_bipush (v := 62) d_Sig_sixBitsOf_72 (by decide) ?_
            exact gg_ireturn d_Sig_sixBitsOf_74 rfl rfl ⟨by unfold sx_i; first | rw [if_pos h1] | rw [if_neg h1, if_pos h2] | rw [if_neg h1, if_neg h2, if_pos h3] | rw [if_neg h1, if_neg h2, if_neg h3, h5, if_pos c69] | rw [if_neg h1, if_neg h2, if_neg h3, h5, h6, if_neg c69, if_pos c87] | rw [if_neg h1, if_neg h2, if_neg h3, h5, h6, if_neg c69, if_neg c87], rfl⟩
        · have h5 : (if z = true then (43 : Int32) else 45) = 45 := if_neg (fun q => c59 (hz.mpr q))
          have h6 : (if z = true then (47 : Int32) else 95) = 95 := if_neg (fun q => c59 (hz.mpr q))
          refine gg_bipush (v := 45) d_Sig_sixBitsOf_62 (by decide) ?_
          refine gg_goto 69 d_Sig_sixBitsOf_64 (by decide) ?_
          refine gg_icmp_ne 75 d_Sig_sixBitsOf_69 (by decide) (fun c69 => ?_) (fun c69 => ?_)
          · refine gg_iload_n 0 d_Sig_sixBitsOf_75 rfl rfl ?_
            refine gg_iload_n 1 d_Sig_sixBitsOf_76 rfl rfl ?_
            refine gg_if_eq 85 d_Sig_sixBitsOf_77 (by decide) (fun c77 => ?_) (fun c77 => ?_)
            · first
              | exact absurd c77 c59
              | refine gg_bipush (v := 47) d_Sig_sixBitsOf_85 (by decide) ?_
                refine gg_icmp_ne 95 d_Sig_sixBitsOf_87 (by decide) (fun c87 => ?_) (fun c87 => ?_)
                · refine gg_iconst (v := (-1)) d_Sig_sixBitsOf_95 (by decide) ?_
                  exact gg_ireturn d_Sig_sixBitsOf_96 rfl rfl ⟨by unfold sx_i; first | rw [if_pos h1] | rw [if_neg h1, if_pos h2] | rw [if_neg h1, if_neg h2, if_pos h3] | rw [if_neg h1, if_neg h2, if_neg h3, h5, if_pos c69] | rw [if_neg h1, if_neg h2, if_neg h3, h5, h6, if_neg c69, if_pos c87] | rw [if_neg h1, if_neg h2, if_neg h3, h5, h6, if_neg c69, if_neg c87], rfl⟩
                · refine gg_bipush (v := 63) d_Sig_sixBitsOf_90 (by decide) ?_
                  refine gg_goto 96 d_Sig_sixBitsOf_92 (by decide) ?_
                  exact gg_ireturn d_Sig_sixBitsOf_96 rfl rfl ⟨by unfold sx_i; first | rw [if_pos h1] | rw [if_neg h1, if_pos h2] | rw [if_neg h1, if_neg h2, if_pos h3] | rw [if_neg h1, if_neg h2, if_neg h3, h5, if_pos c69] | rw [if_neg h1, if_neg h2, if_neg h3, h5, h6, if_neg c69, if_pos c87] | rw [if_neg h1, if_neg h2, if_neg h3, h5, h6, if_neg c69, if_neg c87], rfl⟩
            · first
              | exact absurd c59 c77
              | refine gg_bipush (v := 95) d_Sig_sixBitsOf_80 (by decide) ?_
                refine gg_goto 87 d_Sig_sixBitsOf_82 (by decide) ?_
                refine gg_icmp_ne 95 d_Sig_sixBitsOf_87 (by decide) (fun c87 => ?_) (fun c87 => ?_)
                · refine gg_iconst (v := (-1)) d_Sig_sixBitsOf_95 (by decide) ?_
                  exact gg_ireturn d_Sig_sixBitsOf_96 rfl rfl ⟨by unfold sx_i; first | rw [if_pos h1] | rw [if_neg h1, if_pos h2] | rw [if_neg h1, if_neg h2, if_pos h3] | rw [if_neg h1, if_neg h2, if_neg h3, h5, if_pos c69] | rw [if_neg h1, if_neg h2, if_neg h3, h5, h6, if_neg c69, if_pos c87] | rw [if_neg h1, if_neg h2, if_neg h3, h5, h6, if_neg c69, if_neg c87], rfl⟩
                · refine gg_bipush (v := 63) d_Sig_sixBitsOf_90 (by decide) ?_
                  refine gg_goto 96 d_Sig_sixBitsOf_92 (by decide) ?_
                  exact gg_ireturn d_Sig_sixBitsOf_96 rfl rfl ⟨by unfold sx_i; first | rw [if_pos h1] | rw [if_neg h1, if_pos h2] | rw [if_neg h1, if_neg h2, if_pos h3] | rw [if_neg h1, if_neg h2, if_neg h3, h5, if_pos c69] | rw [if_neg h1, if_neg h2, if_neg h3, h5, h6, if_neg c69, if_pos c87] | rw [if_neg h1, if_neg h2, if_neg h3, h5, h6, if_neg c69, if_neg c87], rfl⟩
          · refine gg_bipush (v := 62) d_Sig_sixBitsOf_72 (by decide) ?_
            exact gg_ireturn d_Sig_sixBitsOf_74 rfl rfl ⟨by unfold sx_i; first | rw [if_pos h1] | rw [if_neg h1, if_pos h2] | rw [if_neg h1, if_neg h2, if_pos h3] | rw [if_neg h1, if_neg h2, if_neg h3, h5, if_pos c69] | rw [if_neg h1, if_neg h2, if_neg h3, h5, h6, if_neg c69, if_pos c87] | rw [if_neg h1, if_neg h2, if_neg h3, h5, h6, if_neg c69, if_neg c87], rfl⟩
      · refine gg_iload_n 0 d_Sig_sixBitsOf_43 rfl rfl ?_
        refine gg_bipush (v := 57) d_Sig_sixBitsOf_44 (by decide) ?_
        refine gg_icmp_gt 57 d_Sig_sixBitsOf_46 (by decide) (fun c46 => ?_) (fun c46 => ?_)
        · have h3 : ¬ (48 ≤ x ∧ x ≤ 57) := fun q => absurd q.2 (Int32.not_le.mpr c46)
          refine gg_iload_n 0 d_Sig_sixBitsOf_57 rfl rfl ?_
          refine gg_iload_n 1 d_Sig_sixBitsOf_58 rfl rfl ?_
          refine gg_if_eq 67 d_Sig_sixBitsOf_59 (by decide) (fun c59 => ?_) (fun c59 => ?_)
          · have h5 : (if z = true then (43 : Int32) else 45) = 43 := if_pos (hz.mp c59)
            have h6 : (if z = true then (47 : Int32) else 95) = 47 := if_pos (hz.mp c59)
            refine gg_bipush (v := 43) d_Sig_sixBitsOf_67 (by decide) ?_
            refine gg_icmp_ne 75 d_Sig_sixBitsOf_69 (by decide) (fun c69 => ?_) (fun c69 => ?_)
            · refine gg_iload_n 0 d_Sig_sixBitsOf_75 rfl rfl ?_
              refine gg_iload_n 1 d_Sig_sixBitsOf_76 rfl rfl ?_
              refine gg_if_eq 85 d_Sig_sixBitsOf_77 (by decide) (fun c77 => ?_) (fun c77 => ?_)
              · first
                | exact absurd c77 c59
                | refine gg_bipush (v := 47) d_Sig_sixBitsOf_85 (by decide) ?_
                  refine gg_icmp_ne 95 d_Sig_sixBitsOf_87 (by decide) (fun c87 => ?_) (fun c87 => ?_)
                  · refine gg_iconst (v := (-1)) d_Sig_sixBitsOf_95 (by decide) ?_
                    exact gg_ireturn d_Sig_sixBitsOf_96 rfl rfl ⟨by unfold sx_i; first | rw [if_pos h1] | rw [if_neg h1, if_pos h2] | rw [if_neg h1, if_neg h2, if_pos h3] | rw [if_neg h1, if_neg h2, if_neg h3, h5, if_pos c69] | rw [if_neg h1, if_neg h2, if_neg h3, h5, h6, if_neg c69, if_pos c87] | rw [if_neg h1, if_neg h2, if_neg h3, h5, h6, if_neg c69, if_neg c87], rfl⟩
                  · refine gg_bipush (v := 63) d_Sig_sixBitsOf_90 (by decide) ?_
                    refine gg_goto 96 d_Sig_sixBitsOf_92 (by decide) ?_
                    exact gg_ireturn d_Sig_sixBitsOf_96 rfl rfl ⟨by unfold sx_i; first | rw [if_pos h1] | rw [if_neg h1, if_pos h2] | rw [if_neg h1, if_neg h2, if_pos h3] | rw [if_neg h1, if_neg h2, if_neg h3, h5, if_pos c69] | rw [if_neg h1, if_neg h2, if_neg h3, h5, h6, if_neg c69, if_pos c87] | rw [if_neg h1, if_neg h2, if_neg h3, h5, h6, if_neg c69, if_neg c87], rfl⟩
              · first
                | exact absurd c59 c77
                | refine gg_bipush (v := 95) d_Sig_sixBitsOf_80 (by decide) ?_
                  refine gg_goto 87 d_Sig_sixBitsOf_82 (by decide) ?_
                  refine gg_icmp_ne 95 d_Sig_sixBitsOf_87 (by decide) (fun c87 => ?_) (fun c87 => ?_)
                  · refine gg_iconst (v := (-1)) d_Sig_sixBitsOf_95 (by decide) ?_
                    exact gg_ireturn d_Sig_sixBitsOf_96 rfl rfl ⟨by unfold sx_i; first | rw [if_pos h1] | rw [if_neg h1, if_pos h2] | rw [if_neg h1, if_neg h2, if_pos h3] | rw [if_neg h1, if_neg h2, if_neg h3, h5, if_pos c69] | rw [if_neg h1, if_neg h2, if_neg h3, h5, h6, if_neg c69, if_pos c87] | rw [if_neg h1, if_neg h2, if_neg h3, h5, h6, if_neg c69, if_neg c87], rfl⟩
                  · refine gg_bipush (v := 63) d_Sig_sixBitsOf_90 (by decide) ?_
                    refine gg_goto 96 d_Sig_sixBitsOf_92 (by decide) ?_
                    exact gg_ireturn d_Sig_sixBitsOf_96 rfl rfl ⟨by unfold sx_i; first | rw [if_pos h1] | rw [if_neg h1, if_pos h2] | rw [if_neg h1, if_neg h2, if_pos h3] | rw [if_neg h1, if_neg h2, if_neg h3, h5, if_pos c69] | rw [if_neg h1, if_neg h2, if_neg h3, h5, h6, if_neg c69, if_pos c87] | rw [if_neg h1, if_neg h2, if_neg h3, h5, h6, if_neg c69, if_neg c87], rfl⟩
            · refine gg_bipush (v := 62) d_Sig_sixBitsOf_72 (by decide) ?_
              exact gg_ireturn d_Sig_sixBitsOf_74 rfl rfl ⟨by unfold sx_i; first | rw [if_pos h1] | rw [if_neg h1, if_pos h2] | rw [if_neg h1, if_neg h2, if_pos h3] | rw [if_neg h1, if_neg h2, if_neg h3, h5, if_pos c69] | rw [if_neg h1, if_neg h2, if_neg h3, h5, h6, if_neg c69, if_pos c87] | rw [if_neg h1, if_neg h2, if_neg h3, h5, h6, if_neg c69, if_neg c87], rfl⟩
          · have h5 : (if z = true then (43 : Int32) else 45) = 45 := if_neg (fun q => c59 (hz.mpr q))
            have h6 : (if z = true then (47 : Int32) else 95) = 95 := if_neg (fun q => c59 (hz.mpr q))
            refine gg_bipush (v := 45) d_Sig_sixBitsOf_62 (by decide) ?_
            refine gg_goto 69 d_Sig_sixBitsOf_64 (by decide) ?_
            refine gg_icmp_ne 75 d_Sig_sixBitsOf_69 (by decide) (fun c69 => ?_) (fun c69 => ?_)
            · refine gg_iload_n 0 d_Sig_sixBitsOf_75 rfl rfl ?_
              refine gg_iload_n 1 d_Sig_sixBitsOf_76 rfl rfl ?_
              refine gg_if_eq 85 d_Sig_sixBitsOf_77 (by decide) (fun c77 => ?_) (fun c77 => ?_)
              · first
                | exact absurd c77 c59
                | refine gg_bipush (v := 47) d_Sig_sixBitsOf_85 (by decide) ?_
                  refine gg_icmp_ne 95 d_Sig_sixBitsOf_87 (by decide) (fun c87 => ?_) (fun c87 => ?_)
                  · refine gg_iconst (v := (-1)) d_Sig_sixBitsOf_95 (by decide) ?_
                    exact gg_ireturn d_Sig_sixBitsOf_96 rfl rfl ⟨by unfold sx_i; first | rw [if_pos h1] | rw [if_neg h1, if_pos h2] | rw [if_neg h1, if_neg h2, if_pos h3] | rw [if_neg h1, if_neg h2, if_neg h3, h5, if_pos c69] | rw [if_neg h1, if_neg h2, if_neg h3, h5, h6, if_neg c69, if_pos c87] | rw [if_neg h1, if_neg h2, if_neg h3, h5, h6, if_neg c69, if_neg c87], rfl⟩
                  · refine gg_bipush (v := 63) d_Sig_sixBitsOf_90 (by decide) ?_
                    refine gg_goto 96 d_Sig_sixBitsOf_92 (by decide) ?_
                    exact gg_ireturn d_Sig_sixBitsOf_96 rfl rfl ⟨by unfold sx_i; first | rw [if_pos h1] | rw [if_neg h1, if_pos h2] | rw [if_neg h1, if_neg h2, if_pos h3] | rw [if_neg h1, if_neg h2, if_neg h3, h5, if_pos c69] | rw [if_neg h1, if_neg h2, if_neg h3, h5, h6, if_neg c69, if_pos c87] | rw [if_neg h1, if_neg h2, if_neg h3, h5, h6, if_neg c69, if_neg c87], rfl⟩
              · first
                | exact absurd c59 c77
                | refine gg_bipush (v := 95) d_Sig_sixBitsOf_80 (by decide) ?_
                  refine gg_goto 87 d_Sig_sixBitsOf_82 (by decide) ?_
                  refine gg_icmp_ne 95 d_Sig_sixBitsOf_87 (by decide) (fun c87 => ?_) (fun c87 => ?_)
                  · refine gg_iconst (v := (-1)) d_Sig_sixBitsOf_95 (by decide) ?_
                    exact gg_ireturn d_Sig_sixBitsOf_96 rfl rfl ⟨by unfold sx_i; first | rw [if_pos h1] | rw [if_neg h1, if_pos h2] | rw [if_neg h1, if_neg h2, if_pos h3] | rw [if_neg h1, if_neg h2, if_neg h3, h5, if_pos c69] | rw [if_neg h1, if_neg h2, if_neg h3, h5, h6, if_neg c69, if_pos c87] | rw [if_neg h1, if_neg h2, if_neg h3, h5, h6, if_neg c69, if_neg c87], rfl⟩
                  · refine gg_bipush (v := 63) d_Sig_sixBitsOf_90 (by decide) ?_
                    refine gg_goto 96 d_Sig_sixBitsOf_92 (by decide) ?_
                    exact gg_ireturn d_Sig_sixBitsOf_96 rfl rfl ⟨by unfold sx_i; first | rw [if_pos h1] | rw [if_neg h1, if_pos h2] | rw [if_neg h1, if_neg h2, if_pos h3] | rw [if_neg h1, if_neg h2, if_neg h3, h5, if_pos c69] | rw [if_neg h1, if_neg h2, if_neg h3, h5, h6, if_neg c69, if_pos c87] | rw [if_neg h1, if_neg h2, if_neg h3, h5, h6, if_neg c69, if_neg c87], rfl⟩
            · refine gg_bipush (v := 62) d_Sig_sixBitsOf_72 (by decide) ?_
              exact gg_ireturn d_Sig_sixBitsOf_74 rfl rfl ⟨by unfold sx_i; first | rw [if_pos h1] | rw [if_neg h1, if_pos h2] | rw [if_neg h1, if_neg h2, if_pos h3] | rw [if_neg h1, if_neg h2, if_neg h3, h5, if_pos c69] | rw [if_neg h1, if_neg h2, if_neg h3, h5, h6, if_neg c69, if_pos c87] | rw [if_neg h1, if_neg h2, if_neg h3, h5, h6, if_neg c69, if_neg c87], rfl⟩
        · have h3 : 48 ≤ x ∧ x ≤ 57 := ⟨Int32.not_lt.mp c40, Int32.not_lt.mp c46⟩
          refine gg_iload_n 0 d_Sig_sixBitsOf_49 rfl rfl ?_
          refine gg_bipush (v := 48) d_Sig_sixBitsOf_50 (by decide) ?_
          refine gg_isub d_Sig_sixBitsOf_52 ?_
          refine gg_bipush (v := 52) d_Sig_sixBitsOf_53 (by decide) ?_
          refine gg_iadd d_Sig_sixBitsOf_55 ?_
          exact gg_ireturn d_Sig_sixBitsOf_56 rfl rfl ⟨by unfold sx_i; first | rw [if_pos h1] | rw [if_neg h1, if_pos h2] | rw [if_neg h1, if_neg h2, if_pos h3] | rw [if_neg h1, if_neg h2, if_neg h3, h5, if_pos c69] | rw [if_neg h1, if_neg h2, if_neg h3, h5, h6, if_neg c69, if_pos c87] | rw [if_neg h1, if_neg h2, if_neg h3, h5, h6, if_neg c69, if_neg c87], rfl⟩
    · refine gg_iload_n 0 d_Sig_sixBitsOf_23 rfl rfl ?_
      refine gg_bipush (v := 122) d_Sig_sixBitsOf_24 (by decide) ?_
      refine gg_icmp_gt 37 d_Sig_sixBitsOf_26 (by decide) (fun c26 => ?_) (fun c26 => ?_)
      · have h2 : ¬ (97 ≤ x ∧ x ≤ 122) := fun q => absurd q.2 (Int32.not_le.mpr c26)
        refine gg_iload_n 0 d_Sig_sixBitsOf_37 rfl rfl ?_
        refine gg_bipush (v := 48) d_Sig_sixBitsOf_38 (by decide) ?_
        refine gg_icmp_lt 57 d_Sig_sixBitsOf_40 (by decide) (fun c40 => ?_) (fun c40 => ?_)
        · have h3 : ¬ (48 ≤ x ∧ x ≤ 57) := fun q => absurd q.1 (Int32.not_le.mpr c40)
          refine gg_iload_n 0 d_Sig_sixBitsOf_57 rfl rfl ?_
          refine gg_iload_n 1 d_Sig_sixBitsOf_58 rfl rfl ?_
          refine gg_if_eq 67 d_Sig_sixBitsOf_59 (by decide) (fun c59 => ?_) (fun c59 => ?_)
          · have h5 : (if z = true then (43 : Int32) else 45) = 43 := if_pos (hz.mp c59)
            have h6 : (if z = true then (47 : Int32) else 95) = 47 := if_pos (hz.mp c59)
            refine gg_bipush (v := 43) d_Sig_sixBitsOf_67 (by decide) ?_
            refine gg_icmp_ne 75 d_Sig_sixBitsOf_69 (by decide) (fun c69 => ?_) (fun c69 => ?_)
            · refine gg_iload_n 0 d_Sig_sixBitsOf_75 rfl rfl ?_
              refine gg_iload_n 1 d_Sig_sixBitsOf_76 rfl rfl ?_
              refine gg_if_eq 85 d_Sig_sixBitsOf_77 (by decide) (fun c77 => ?_) (fun c77 => ?_)
              · first
                | exact absurd c77 c59
                | refine gg_bipush (v := 47) d_Sig_sixBitsOf_85 (by decide) ?_
                  refine gg_icmp_ne 95 d_Sig_sixBitsOf_87 (by decide) (fun c87 => ?_) (fun c87 => ?_)
                  · refine gg_iconst (v := (-1)) d_Sig_sixBitsOf_95 (by decide) ?_
                    exact gg_ireturn d_Sig_sixBitsOf_96 rfl rfl ⟨by unfold sx_i; first | rw [if_pos h1] | rw [if_neg h1, if_pos h2] | rw [if_neg h1, if_neg h2, if_pos h3] | rw [if_neg h1, if_neg h2, if_neg h3, h5, if_pos c69] | rw [if_neg h1, if_neg h2, if_neg h3, h5, h6, if_neg c69, if_pos c87] | rw [if_neg h1, if_neg h2, if_neg h3, h5, h6, if_neg c69, if_neg c87], rfl⟩
                  · refine gg_bipush (v := 63) d_Sig_sixBitsOf_90 (by decide) ?_
                    refine gg_goto 96 d_Sig_sixBitsOf_92 (by decide) ?_
                    exact gg_ireturn d_Sig_sixBitsOf_96 rfl rfl ⟨by unfold sx_i; first | rw [if_pos h1] | rw [if_neg h1, if_pos h2] | rw [if_neg h1, if_neg h2, if_pos h3] | rw [if_neg h1, if_neg h2, if_neg h3, h5, if_pos c69] | rw [if_neg h1, if_neg h2, if_neg h3, h5, h6, if_neg c69, if_pos c87] | rw [if_neg h1, if_neg h2, if_neg h3, h5, h6, if_neg c69, if_neg c87], rfl⟩
              · first
                | exact absurd c59 c77
                | refine gg_bipush (v := 95) d_Sig_sixBitsOf_80 (by decide) ?_
                  refine gg_goto 87 d_Sig_sixBitsOf_82 (by decide) ?_
                  refine gg_icmp_ne 95 d_Sig_sixBitsOf_87 (by decide) (fun c87 => ?_) (fun c87 => ?_)
                  · refine gg_iconst (v := (-1)) d_Sig_sixBitsOf_95 (by decide) ?_
                    exact gg_ireturn d_Sig_sixBitsOf_96 rfl rfl ⟨by unfold sx_i; first | rw [if_pos h1] | rw [if_neg h1, if_pos h2] | rw [if_neg h1, if_neg h2, if_pos h3] | rw [if_neg h1, if_neg h2, if_neg h3, h5, if_pos c69] | rw [if_neg h1, if_neg h2, if_neg h3, h5, h6, if_neg c69, if_pos c87] | rw [if_neg h1, if_neg h2, if_neg h3, h5, h6, if_neg c69, if_neg c87], rfl⟩
                  · refine gg_bipush (v := 63) d_Sig_sixBitsOf_90 (by decide) ?_
                    refine gg_goto 96 d_Sig_sixBitsOf_92 (by decide) ?_
                    exact gg_ireturn d_Sig_sixBitsOf_96 rfl rfl ⟨by unfold sx_i; first | rw [if_pos h1] | rw [if_neg h1, if_pos h2] | rw [if_neg h1, if_neg h2, if_pos h3] | rw [if_neg h1, if_neg h2, if_neg h3, h5, if_pos c69] | rw [if_neg h1, if_neg h2, if_neg h3, h5, h6, if_neg c69, if_pos c87] | rw [if_neg h1, if_neg h2, if_neg h3, h5, h6, if_neg c69, if_neg c87], rfl⟩
            · refine gg_bipush (v := 62) d_Sig_sixBitsOf_72 (by decide) ?_
              exact gg_ireturn d_Sig_sixBitsOf_74 rfl rfl ⟨by unfold sx_i; first | rw [if_pos h1] | rw [if_neg h1, if_pos h2] | rw [if_neg h1, if_neg h2, if_pos h3] | rw [if_neg h1, if_neg h2, if_neg h3, h5, if_pos c69] | rw [if_neg h1, if_neg h2, if_neg h3, h5, h6, if_neg c69, if_pos c87] | rw [if_neg h1, if_neg h2, if_neg h3, h5, h6, if_neg c69, if_neg c87], rfl⟩
          · have h5 : (if z = true then (43 : Int32) else 45) = 45 := if_neg (fun q => c59 (hz.mpr q))
            have h6 : (if z = true then (47 : Int32) else 95) = 95 := if_neg (fun q => c59 (hz.mpr q))
            refine gg_bipush (v := 45) d_Sig_sixBitsOf_62 (by decide) ?_
            refine gg_goto 69 d_Sig_sixBitsOf_64 (by decide) ?_
            refine gg_icmp_ne 75 d_Sig_sixBitsOf_69 (by decide) (fun c69 => ?_) (fun c69 => ?_)
            · refine gg_iload_n 0 d_Sig_sixBitsOf_75 rfl rfl ?_
              refine gg_iload_n 1 d_Sig_sixBitsOf_76 rfl rfl ?_
              refine gg_if_eq 85 d_Sig_sixBitsOf_77 (by decide) (fun c77 => ?_) (fun c77 => ?_)
              · first
                | exact absurd c77 c59
                | refine gg_bipush (v := 47) d_Sig_sixBitsOf_85 (by decide) ?_
                  refine gg_icmp_ne 95 d_Sig_sixBitsOf_87 (by decide) (fun c87 => ?_) (fun c87 => ?_)
                  · refine gg_iconst (v := (-1)) d_Sig_sixBitsOf_95 (by decide) ?_
                    exact gg_ireturn d_Sig_sixBitsOf_96 rfl rfl ⟨by unfold sx_i; first | rw [if_pos h1] | rw [if_neg h1, if_pos h2] | rw [if_neg h1, if_neg h2, if_pos h3] | rw [if_neg h1, if_neg h2, if_neg h3, h5, if_pos c69] | rw [if_neg h1, if_neg h2, if_neg h3, h5, h6, if_neg c69, if_pos c87] | rw [if_neg h1, if_neg h2, if_neg h3, h5, h6, if_neg c69, if_neg c87], rfl⟩
                  · refine gg_bipush (v := 63) d_Sig_sixBitsOf_90 (by decide) ?_
                    refine gg_goto 96 d_Sig_sixBitsOf_92 (by decide) ?_
                    exact gg_ireturn d_Sig_sixBitsOf_96 rfl rfl ⟨by unfold sx_i; first | rw [if_pos h1] | rw [if_neg h1, if_pos h2] | rw [if_neg h1, if_neg h2, if_pos h3] | rw [if_neg h1, if_neg h2, if_neg h3, h5, if_pos c69] | rw [if_neg h1, if_neg h2, if_neg h3, h5, h6, if_neg c69, if_pos c87] | rw [if_neg h1, if_neg h2, if_neg h3, h5, h6, if_neg c69, if_neg c87], rfl⟩
              · first
                | exact absurd c59 c77
                | refine gg_bipush (v := 95) d_Sig_sixBitsOf_80 (by decide) ?_
                  refine gg_goto 87 d_Sig_sixBitsOf_82 (by decide) ?_
                  refine gg_icmp_ne 95 d_Sig_sixBitsOf_87 (by decide) (fun c87 => ?_) (fun c87 => ?_)
                  · refine gg_iconst (v := (-1)) d_Sig_sixBitsOf_95 (by decide) ?_
                    exact gg_ireturn d_Sig_sixBitsOf_96 rfl rfl ⟨by unfold sx_i; first | rw [if_pos h1] | rw [if_neg h1, if_pos h2] | rw [if_neg h1, if_neg h2, if_pos h3] | rw [if_neg h1, if_neg h2, if_neg h3, h5, if_pos c69] | rw [if_neg h1, if_neg h2, if_neg h3, h5, h6, if_neg c69, if_pos c87] | rw [if_neg h1, if_neg h2, if_neg h3, h5, h6, if_neg c69, if_neg c87], rfl⟩
                  · refine gg_bipush (v := 63) d_Sig_sixBitsOf_90 (by decide) ?_
                    refine gg_goto 96 d_Sig_sixBitsOf_92 (by decide) ?_
                    exact gg_ireturn d_Sig_sixBitsOf_96 rfl rfl ⟨by unfold sx_i; first | rw [if_pos h1] | rw [if_neg h1, if_pos h2] | rw [if_neg h1, if_neg h2, if_pos h3] | rw [if_neg h1, if_neg h2, if_neg h3, h5, if_pos c69] | rw [if_neg h1, if_neg h2, if_neg h3, h5, h6, if_neg c69, if_pos c87] | rw [if_neg h1, if_neg h2, if_neg h3, h5, h6, if_neg c69, if_neg c87], rfl⟩
            · refine gg_bipush (v := 62) d_Sig_sixBitsOf_72 (by decide) ?_
              exact gg_ireturn d_Sig_sixBitsOf_74 rfl rfl ⟨by unfold sx_i; first | rw [if_pos h1] | rw [if_neg h1, if_pos h2] | rw [if_neg h1, if_neg h2, if_pos h3] | rw [if_neg h1, if_neg h2, if_neg h3, h5, if_pos c69] | rw [if_neg h1, if_neg h2, if_neg h3, h5, h6, if_neg c69, if_pos c87] | rw [if_neg h1, if_neg h2, if_neg h3, h5, h6, if_neg c69, if_neg c87], rfl⟩
        · refine gg_iload_n 0 d_Sig_sixBitsOf_43 rfl rfl ?_
          refine gg_bipush (v := 57) d_Sig_sixBitsOf_44 (by decide) ?_
          refine gg_icmp_gt 57 d_Sig_sixBitsOf_46 (by decide) (fun c46 => ?_) (fun c46 => ?_)
          · have h3 : ¬ (48 ≤ x ∧ x ≤ 57) := fun q => absurd q.2 (Int32.not_le.mpr c46)
            refine gg_iload_n 0 d_Sig_sixBitsOf_57 rfl rfl ?_
            refine gg_iload_n 1 d_Sig_sixBitsOf_58 rfl rfl ?_
            refine gg_if_eq 67 d_Sig_sixBitsOf_59 (by decide) (fun c59 => ?_) (fun c59 => ?_)
            · have h5 : (if z = true then (43 : Int32) else 45) = 43 := if_pos (hz.mp c59)
              have h6 : (if z = true then (47 : Int32) else 95) = 47 := if_pos (hz.mp c59)
              refine gg_bipush (v := 43) d_Sig_sixBitsOf_67 (by decide) ?_
              refine gg_icmp_ne 75 d_Sig_sixBitsOf_69 (by decide) (fun c69 => ?_) (fun c69 => ?_)
              · refine gg_iload_n 0 d_Sig_sixBitsOf_75 rfl rfl ?_
                refine gg_iload_n 1 d_Sig_sixBitsOf_76 rfl rfl ?_
                refine gg_if_eq 85 d_Sig_sixBitsOf_77 (by decide) (fun c77 => ?_) (fun c77 => ?_)
                · first
                  | exact absurd c77 c59
                  | refine gg_bipush (v := 47) d_Sig_sixBitsOf_85 (by decide) ?_
                    refine gg_icmp_ne 95 d_Sig_sixBitsOf_87 (by decide) (fun c87 => ?_) (fun c87 => ?_)
                    · refine gg_iconst (v := (-1)) d_Sig_sixBitsOf_95 (by decide) ?_
                      exact gg_ireturn d_Sig_sixBitsOf_96 rfl rfl ⟨by unfold sx_i; first | rw [if_pos h1] | rw [if_neg h1, if_pos h2] | rw [if_neg h1, if_neg h2, if_pos h3] | rw [if_neg h1, if_neg h2, if_neg h3, h5, if_pos c69] | rw [if_neg h1, if_neg h2, if_neg h3, h5, h6, if_neg c69, if_pos c87] | rw [if_neg h1, if_neg h2, if_neg h3, h5, h6, if_neg c69, if_neg c87], rfl⟩
                    · refine gg_bipush (v := 63) d_Sig_sixBitsOf_90 (by decide) ?_
                      refine gg_goto 96 d_Sig_sixBitsOf_92 (by decide) ?_
                      exact gg_ireturn d_Sig_sixBitsOf_96 rfl rfl ⟨by unfold sx_i; first | rw [if_pos h1] | rw [if_neg h1, if_pos h2] | rw [if_neg h1, if_neg h2, if_pos h3] | rw [if_neg h1, if_neg h2, if_neg h3, h5, if_pos c69] | rw [if_neg h1, if_neg h2, if_neg h3, h5, h6, if_neg c69, if_pos c87] | rw [if_neg h1, if_neg h2, if_neg h3, h5, h6, if_neg c69, if_neg c87], rfl⟩
                · first
                  | exact absurd c59 c77
                  | refine gg_bipush (v := 95) d_Sig_sixBitsOf_80 (by decide) ?_
                    refine gg_goto 87 d_Sig_sixBitsOf_82 (by decide) ?_
                    refine gg_icmp_ne 95 d_Sig_sixBitsOf_87 (by decide) (fun c87 => ?_) (fun c87 => ?_)
                    · refine gg_iconst (v := (-1)) d_Sig_sixBitsOf_95 (by decide) ?_
                      exact gg_ireturn d_Sig_sixBitsOf_96 rfl rfl ⟨by unfold sx_i; first | rw [if_pos h1] | rw [if_neg h1, if_pos h2] | rw [if_neg h1, if_neg h2, if_pos h3] | rw [if_neg h1, if_neg h2, if_neg h3, h5, if_pos c69] | rw [if_neg h1, if_neg h2, if_neg h3, h5, h6, if_neg c69, if_pos c87] | rw [if_neg h1, if_neg h2, if_neg h3, h5, h6, if_neg c69, if_neg c87], rfl⟩
                    · refine gg_bipush (v := 63) d_Sig_sixBitsOf_90 (by decide) ?_
                      refine gg_goto 96 d_Sig_sixBitsOf_92 (by decide) ?_
                      exact gg_ireturn d_Sig_sixBitsOf_96 rfl rfl ⟨by unfold sx_i; first | rw [if_pos h1] | rw [if_neg h1, if_pos h2] | rw [if_neg h1, if_neg h2, if_pos h3] | rw [if_neg h1, if_neg h2, if_neg h3, h5, if_pos c69] | rw [if_neg h1, if_neg h2, if_neg h3, h5, h6, if_neg c69, if_pos c87] | rw [if_neg h1, if_neg h2, if_neg h3, h5, h6, if_neg c69, if_neg c87], rfl⟩
              · refine gg_bipush (v := 62) d_Sig_sixBitsOf_72 (by decide) ?_
                exact gg_ireturn d_Sig_sixBitsOf_74 rfl rfl ⟨by unfold sx_i; first | rw [if_pos h1] | rw [if_neg h1, if_pos h2] | rw [if_neg h1, if_neg h2, if_pos h3] | rw [if_neg h1, if_neg h2, if_neg h3, h5, if_pos c69] | rw [if_neg h1, if_neg h2, if_neg h3, h5, h6, if_neg c69, if_pos c87] | rw [if_neg h1, if_neg h2, if_neg h3, h5, h6, if_neg c69, if_neg c87], rfl⟩
            · have h5 : (if z = true then (43 : Int32) else 45) = 45 := if_neg (fun q => c59 (hz.mpr q))
              have h6 : (if z = true then (47 : Int32) else 95) = 95 := if_neg (fun q => c59 (hz.mpr q))
              refine gg_bipush (v := 45) d_Sig_sixBitsOf_62 (by decide) ?_
              refine gg_goto 69 d_Sig_sixBitsOf_64 (by decide) ?_
              refine gg_icmp_ne 75 d_Sig_sixBitsOf_69 (by decide) (fun c69 => ?_) (fun c69 => ?_)
              · refine gg_iload_n 0 d_Sig_sixBitsOf_75 rfl rfl ?_
                refine gg_iload_n 1 d_Sig_sixBitsOf_76 rfl rfl ?_
                refine gg_if_eq 85 d_Sig_sixBitsOf_77 (by decide) (fun c77 => ?_) (fun c77 => ?_)
                · first
                  | exact absurd c77 c59
                  | refine gg_bipush (v := 47) d_Sig_sixBitsOf_85 (by decide) ?_
                    refine gg_icmp_ne 95 d_Sig_sixBitsOf_87 (by decide) (fun c87 => ?_) (fun c87 => ?_)
                    · refine gg_iconst (v := (-1)) d_Sig_sixBitsOf_95 (by decide) ?_
                      exact gg_ireturn d_Sig_sixBitsOf_96 rfl rfl ⟨by unfold sx_i; first | rw [if_pos h1] | rw [if_neg h1, if_pos h2] | rw [if_neg h1, if_neg h2, if_pos h3] | rw [if_neg h1, if_neg h2, if_neg h3, h5, if_pos c69] | rw [if_neg h1, if_neg h2, if_neg h3, h5, h6, if_neg c69, if_pos c87] | rw [if_neg h1, if_neg h2, if_neg h3, h5, h6, if_neg c69, if_neg c87], rfl⟩
                    · refine gg_bipush (v := 63) d_Sig_sixBitsOf_90 (by decide) ?_
                      refine gg_goto 96 d_Sig_sixBitsOf_92 (by decide) ?_
                      exact gg_ireturn d_Sig_sixBitsOf_96 rfl rfl ⟨by unfold sx_i; first | rw [if_pos h1] | rw [if_neg h1, if_pos h2] | rw [if_neg h1, if_neg h2, if_pos h3] | rw [if_neg h1, if_neg h2, if_neg h3, h5, if_pos c69] | rw [if_neg h1, if_neg h2, if_neg h3, h5, h6, if_neg c69, if_pos c87] | rw [if_neg h1, if_neg h2, if_neg h3, h5, h6, if_neg c69, if_neg c87], rfl⟩
                · first
                  | exact absurd c59 c77
                  | refine gg_bipush (v := 95) d_Sig_sixBitsOf_80 (by decide) ?_
                    refine gg_goto 87 d_Sig_sixBitsOf_82 (by decide) ?_
                    refine gg_icmp_ne 95 d_Sig_sixBitsOf_87 (by decide) (fun c87 => ?_) (fun c87 => ?_)
                    · refine gg_iconst (v := (-1)) d_Sig_sixBitsOf_95 (by decide) ?_
                      exact gg_ireturn d_Sig_sixBitsOf_96 rfl rfl ⟨by unfold sx_i; first | rw [if_pos h1] | rw [if_neg h1, if_pos h2] | rw [if_neg h1, if_neg h2, if_pos h3] | rw [if_neg h1, if_neg h2, if_neg h3, h5, if_pos c69] | rw [if_neg h1, if_neg h2, if_neg h3, h5, h6, if_neg c69, if_pos c87] | rw [if_neg h1, if_neg h2, if_neg h3, h5, h6, if_neg c69, if_neg c87], rfl⟩
                    · refine gg_bipush (v := 63) d_Sig_sixBitsOf_90 (by decide) ?_
                      refine gg_goto 96 d_Sig_sixBitsOf_92 (by decide) ?_
                      exact gg_ireturn d_Sig_sixBitsOf_96 rfl rfl ⟨by unfold sx_i; first | rw [if_pos h1] | rw [if_neg h1, if_pos h2] | rw [if_neg h1, if_neg h2, if_pos h3] | rw [if_neg h1, if_neg h2, if_neg h3, h5, if_pos c69] | rw [if_neg h1, if_neg h2, if_neg h3, h5, h6, if_neg c69, if_pos c87] | rw [if_neg h1, if_neg h2, if_neg h3, h5, h6, if_neg c69, if_neg c87], rfl⟩
              · refine gg_bipush (v := 62) d_Sig_sixBitsOf_72 (by decide) ?_
                exact gg_ireturn d_Sig_sixBitsOf_74 rfl rfl ⟨by unfold sx_i; first | rw [if_pos h1] | rw [if_neg h1, if_pos h2] | rw [if_neg h1, if_neg h2, if_pos h3] | rw [if_neg h1, if_neg h2, if_neg h3, h5, if_pos c69] | rw [if_neg h1, if_neg h2, if_neg h3, h5, h6, if_neg c69, if_pos c87] | rw [if_neg h1, if_neg h2, if_neg h3, h5, h6, if_neg c69, if_neg c87], rfl⟩
          · have h3 : 48 ≤ x ∧ x ≤ 57 := ⟨Int32.not_lt.mp c40, Int32.not_lt.mp c46⟩
            refine gg_iload_n 0 d_Sig_sixBitsOf_49 rfl rfl ?_
            refine gg_bipush (v := 48) d_Sig_sixBitsOf_50 (by decide) ?_
            refine gg_isub d_Sig_sixBitsOf_52 ?_
            refine gg_bipush (v := 52) d_Sig_sixBitsOf_53 (by decide) ?_
            refine gg_iadd d_Sig_sixBitsOf_55 ?_
            exact gg_ireturn d_Sig_sixBitsOf_56 rfl rfl ⟨by unfold sx_i; first | rw [if_pos h1] | rw [if_neg h1, if_pos h2] | rw [if_neg h1, if_neg h2, if_pos h3] | rw [if_neg h1, if_neg h2, if_neg h3, h5, if_pos c69] | rw [if_neg h1, if_neg h2, if_neg h3, h5, h6, if_neg c69, if_pos c87] | rw [if_neg h1, if_neg h2, if_neg h3, h5, h6, if_neg c69, if_neg c87], rfl⟩
      · have h2 : 97 ≤ x ∧ x ≤ 122 := ⟨Int32.not_lt.mp c20, Int32.not_lt.mp c26⟩
        refine gg_iload_n 0 d_Sig_sixBitsOf_29 rfl rfl ?_
        refine gg_bipush (v := 97) d_Sig_sixBitsOf_30 (by decide) ?_
        refine gg_isub d_Sig_sixBitsOf_32 ?_
        refine gg_bipush (v := 26) d_Sig_sixBitsOf_33 (by decide) ?_
        refine gg_iadd d_Sig_sixBitsOf_35 ?_
        exact gg_ireturn d_Sig_sixBitsOf_36 rfl rfl ⟨by unfold sx_i; first | rw [if_pos h1] | rw [if_neg h1, if_pos h2] | rw [if_neg h1, if_neg h2, if_pos h3] | rw [if_neg h1, if_neg h2, if_neg h3, h5, if_pos c69] | rw [if_neg h1, if_neg h2, if_neg h3, h5, h6, if_neg c69, if_pos c87] | rw [if_neg h1, if_neg h2, if_neg h3, h5, h6, if_neg c69, if_neg c87], rfl⟩
  · refine gg_iload_n 0 d_Sig_sixBitsOf_6 rfl rfl ?_
    refine gg_bipush (v := 90) d_Sig_sixBitsOf_7 (by decide) ?_
    refine gg_icmp_gt 17 d_Sig_sixBitsOf_9 (by decide) (fun c9 => ?_) (fun c9 => ?_)
    · have h1 : ¬ (65 ≤ x ∧ x ≤ 90) := fun q => absurd q.2 (Int32.not_le.mpr c9)
      refine gg_iload_n 0 d_Sig_sixBitsOf_17 rfl rfl ?_
      refine gg_bipush (v := 97) d_Sig_sixBitsOf_18 (by decide) ?_
      refine gg_icmp_lt 37 d_Sig_sixBitsOf_20 (by decide) (fun c20 => ?_) (fun c20 => ?_)
      · have h2 : ¬ (97 ≤ x ∧ x ≤ 122) := fun q => absurd q.1 (Int32.not_le.mpr c20)
        refine gg_iload_n 0 d_Sig_sixBitsOf_37 rfl rfl ?_
        refine gg_bipush (v := 48) d_Sig_sixBitsOf_38 (by decide) ?_
        refine gg_icmp_lt 57 d_Sig_sixBitsOf_40 (by decide) (fun c40 => ?_) (fun c40 => ?_)
        · have h3 : ¬ (48 ≤ x ∧ x ≤ 57) := fun q => absurd q.1 (Int32.not_le.mpr c40)
          refine gg_iload_n 0 d_Sig_sixBitsOf_57 rfl rfl ?_
          refine gg_iload_n 1 d_Sig_sixBitsOf_58 rfl rfl ?_
          refine gg_if_eq 67 d_Sig_sixBitsOf_59 (by decide) (fun c59 => ?_) (fun c59 => ?_)
          · have h5 : (if z = true then (43 : Int32) else 45) = 43 := if_pos (hz.mp c59)
            have h6 : (if z = true then (47 : Int32) else 95) = 47 := if_pos (hz.mp c59)
            refine gg_bipush (v := 43) d_Sig_sixBitsOf_67 (by decide) ?_
            refine gg_icmp_ne 75 d_Sig_sixBitsOf_69 (by decide) (fun c69 => ?_) (fun c69 => ?_)
            · refine gg_iload_n 0 d_Sig_sixBitsOf_75 rfl rfl ?_
              refine gg_iload_n 1 d_Sig_sixBitsOf_76 rfl rfl ?_
              refine gg_if_eq 85 d_Sig_sixBitsOf_77 (by decide) (fun c77 => ?_) (fun c77 => ?_)
              · first
                | exact absurd c77 c59
                | refine gg_bipush (v := 47) d_Sig_sixBitsOf_85 (by decide) ?_
                  refine gg_icmp_ne 95 d_Sig_sixBitsOf_87 (by decide) (fun c87 => ?_) (fun c87 => ?_)
                  · refine gg_iconst (v := (-1)) d_Sig_sixBitsOf_95 (by decide) ?_
                    exact gg_ireturn d_Sig_sixBitsOf_96 rfl rfl ⟨by unfold sx_i; first | rw [if_pos h1] | rw [if_neg h1, if_pos h2] | rw [if_neg h1, if_neg h2, if_pos h3] | rw [if_neg h1, if_neg h2, if_neg h3, h5, if_pos c69] | rw [if_neg h1, if_neg h2, if_neg h3, h5, h6, if_neg c69, if_pos c87] | rw [if_neg h1, if_neg h2, if_neg h3, h5, h6, if_neg c69, if_neg c87], rfl⟩
                  · refine gg_bipush (v := 63) d_Sig_sixBitsOf_90 (by decide) ?_
                    refine gg_goto 96 d_Sig_sixBitsOf_92 (by decide) ?_
                    exact gg_ireturn d_Sig_sixBitsOf_96 rfl rfl ⟨by unfold sx_i; first | rw [if_pos h1] | rw [if_neg h1, if_pos h2] | rw [if_neg h1, if_neg h2, if_pos h3] | rw [if_neg h1, if_neg h2, if_neg h3, h5, if_pos c69] | rw [if_neg h1, if_neg h2, if_neg h3, h5, h6, if_neg c69, if_pos c87] | rw [if_neg h1, if_neg h2, if_neg h3, h5, h6, if_neg c69, if_neg c87], rfl⟩
              · first
                | exact absurd c59 c77
                | refine gg_bipush (v := 95) d_Sig_sixBitsOf_80 (by decide) ?_
                  refine gg_goto 87 d_Sig_sixBitsOf_82 (by decide) ?_
                  refine gg_icmp_ne 95 d_Sig_sixBitsOf_87 (by decide) (fun c87 => ?_) (fun c87 => ?_)
                  · refine gg_iconst (v := (-1)) d_Sig_sixBitsOf_95 (by decide) ?_
                    exact gg_ireturn d_Sig_sixBitsOf_96 rfl rfl ⟨by unfold sx_i; first | rw [if_pos h1] | rw [if_neg h1, if_pos h2] | rw [if_neg h1, if_neg h2, if_pos h3] | rw [if_neg h1, if_neg h2, if_neg h3, h5, if_pos c69] | rw [if_neg h1, if_neg h2, if_neg h3, h5, h6, if_neg c69, if_pos c87] | rw [if_neg h1, if_neg h2, if_neg h3, h5, h6, if_neg c69, if_neg c87], rfl⟩
                  · refine gg_bipush (v := 63) d_Sig_sixBitsOf_90 (by decide) ?_
                    refine gg_goto 96 d_Sig_sixBitsOf_92 (by decide) ?_
                    exact gg_ireturn d_Sig_sixBitsOf_96 rfl rfl ⟨by unfold sx_i; first | rw [if_pos h1] | rw [if_neg h1, if_pos h2] | rw [if_neg h1, if_neg h2, if_pos h3] | rw [if_neg h1, if_neg h2, if_neg h3, h5, if_pos c69] | rw [if_neg h1, if_neg h2, if_neg h3, h5, h6, if_neg c69, if_pos c87] | rw [if_neg h1, if_neg h2, if_neg h3, h5, h6, if_neg c69, if_neg c87], rfl⟩
            · refine gg_bipush (v := 62) d_Sig_sixBitsOf_72 (by decide) ?_
              exact gg_ireturn d_Sig_sixBitsOf_74 rfl rfl ⟨by unfold sx_i; first | rw [if_pos h1] | rw [if_neg h1, if_pos h2] | rw [if_neg h1, if_neg h2, if_pos h3] | rw [if_neg h1, if_neg h2, if_neg h3, h5, if_pos c69] | rw [if_neg h1, if_neg h2, if_neg h3, h5, h6, if_neg c69, if_pos c87] | rw [if_neg h1, if_neg h2, if_neg h3, h5, h6, if_neg c69, if_neg c87], rfl⟩
          · have h5 : (if z = true then (43 : Int32) else 45) = 45 := if_neg (fun q => c59 (hz.mpr q))
            have h6 : (if z = true then (47 : Int32) else 95) = 95 := if_neg (fun q => c59 (hz.mpr q))
            refine gg_bipush (v := 45) d_Sig_sixBitsOf_62 (by decide) ?_
            refine gg_goto 69 d_Sig_sixBitsOf_64 (by decide) ?_
            refine gg_icmp_ne 75 d_Sig_sixBitsOf_69 (by decide) (fun c69 => ?_) (fun c69 => ?_)
            · refine gg_iload_n 0 d_Sig_sixBitsOf_75 rfl rfl ?_
              refine gg_iload_n 1 d_Sig_sixBitsOf_76 rfl rfl ?_
              refine gg_if_eq 85 d_Sig_sixBitsOf_77 (by decide) (fun c77 => ?_) (fun c77 => ?_)
              · first
                | exact absurd c77 c59
                | refine gg_bipush (v := 47) d_Sig_sixBitsOf_85 (by decide) ?_
                  refine gg_icmp_ne 95 d_Sig_sixBitsOf_87 (by decide) (fun c87 => ?_) (fun c87 => ?_)
                  · refine gg_iconst (v := (-1)) d_Sig_sixBitsOf_95 (by decide) ?_
                    exact gg_ireturn d_Sig_sixBitsOf_96 rfl rfl ⟨by unfold sx_i; first | rw [if_pos h1] | rw [if_neg h1, if_pos h2] | rw [if_neg h1, if_neg h2, if_pos h3] | rw [if_neg h1, if_neg h2, if_neg h3, h5, if_pos c69] | rw [if_neg h1, if_neg h2, if_neg h3, h5, h6, if_neg c69, if_pos c87] | rw [if_neg h1, if_neg h2, if_neg h3, h5, h6, if_neg c69, if_neg c87], rfl⟩
                  · refine gg_bipush (v := 63) d_Sig_sixBitsOf_90 (by decide) ?_
                    refine gg_goto 96 d_Sig_sixBitsOf_92 (by decide) ?_
                    exact gg_ireturn d_Sig_sixBitsOf_96 rfl rfl ⟨by unfold sx_i; first | rw [if_pos h1] | rw [if_neg h1, if_pos h2] | rw [if_neg h1, if_neg h2, if_pos h3] | rw [if_neg h1, if_neg h2, if_neg h3, h5, if_pos c69] | rw [if_neg h1, if_neg h2, if_neg h3, h5, h6, if_neg c69, if_pos c87] | rw [if_neg h1, if_neg h2, if_neg h3, h5, h6, if_neg c69, if_neg c87], rfl⟩
              · first
                | exact absurd c59 c77
                | refine gg_bipush (v := 95) d_Sig_sixBitsOf_80 (by decide) ?_
                  refine gg_goto 87 d_Sig_sixBitsOf_82 (by decide) ?_
                  refine gg_icmp_ne 95 d_Sig_sixBitsOf_87 (by decide) (fun c87 => ?_) (fun c87 => ?_)
                  · refine gg_iconst (v := (-1)) d_Sig_sixBitsOf_95 (by decide) ?_
                    exact gg_ireturn d_Sig_sixBitsOf_96 rfl rfl ⟨by unfold sx_i; first | rw [if_pos h1] | rw [if_neg h1, if_pos h2] | rw [if_neg h1, if_neg h2, if_pos h3] | rw [if_neg h1, if_neg h2, if_neg h3, h5, if_pos c69] | rw [if_neg h1, if_neg h2, if_neg h3, h5, h6, if_neg c69, if_pos c87] | rw [if_neg h1, if_neg h2, if_neg h3, h5, h6, if_neg c69, if_neg c87], rfl⟩
                  · refine gg_bipush (v := 63) d_Sig_sixBitsOf_90 (by decide) ?_
                    refine gg_goto 96 d_Sig_sixBitsOf_92 (by decide) ?_
                    exact gg_ireturn d_Sig_sixBitsOf_96 rfl rfl ⟨by unfold sx_i; first | rw [if_pos h1] | rw [if_neg h1, if_pos h2] | rw [if_neg h1, if_neg h2, if_pos h3] | rw [if_neg h1, if_neg h2, if_neg h3, h5, if_pos c69] | rw [if_neg h1, if_neg h2, if_neg h3, h5, h6, if_neg c69, if_pos c87] | rw [if_neg h1, if_neg h2, if_neg h3, h5, h6, if_neg c69, if_neg c87], rfl⟩
            · refine gg_bipush (v := 62) d_Sig_sixBitsOf_72 (by decide) ?_
              exact gg_ireturn d_Sig_sixBitsOf_74 rfl rfl ⟨by unfold sx_i; first | rw [if_pos h1] | rw [if_neg h1, if_pos h2] | rw [if_neg h1, if_neg h2, if_pos h3] | rw [if_neg h1, if_neg h2, if_neg h3, h5, if_pos c69] | rw [if_neg h1, if_neg h2, if_neg h3, h5, h6, if_neg c69, if_pos c87] | rw [if_neg h1, if_neg h2, if_neg h3, h5, h6, if_neg c69, if_neg c87], rfl⟩
        · refine gg_iload_n 0 d_Sig_sixBitsOf_43 rfl rfl ?_
          refine gg_bipush (v := 57) d_Sig_sixBitsOf_44 (by decide) ?_
          refine gg_icmp_gt 57 d_Sig_sixBitsOf_46 (by decide) (fun c46 => ?_) (fun c46 => ?_)
          · have h3 : ¬ (48 ≤ x ∧ x ≤ 57) := fun q => absurd q.2 (Int32.not_le.mpr c46)
            refine gg_iload_n 0 d_Sig_sixBitsOf_57 rfl rfl ?_
            refine gg_iload_n 1 d_Sig_sixBitsOf_58 rfl rfl ?_
            refine gg_if_eq 67 d_Sig_sixBitsOf_59 (by decide) (fun c59 => ?_) (fun c59 => ?_)
            · have h5 : (if z = true then (43 : Int32) else 45) = 43 := if_pos (hz.mp c59)
              have h6 : (if z = true then (47 : Int32) else 95) = 47 := if_pos (hz.mp c59)
              refine gg_bipush (v := 43) d_Sig_sixBitsOf_67 (by decide) ?_
              refine gg_icmp_ne 75 d_Sig_sixBitsOf_69 (by decide) (fun c69 => ?_) (fun c69 => ?_)
              · refine gg_iload_n 0 d_Sig_sixBitsOf_75 rfl rfl ?_
                refine gg_iload_n 1 d_Sig_sixBitsOf_76 rfl rfl ?_
                refine gg_if_eq 85 d_Sig_sixBitsOf_77 (by decide) (fun c77 => ?_) (fun c77 => ?_)
                · first
                  | exact absurd c77 c59
                  | refine gg_bipush (v := 47) d_Sig_sixBitsOf_85 (by decide) ?_
                    refine gg_icmp_ne 95 d_Sig_sixBitsOf_87 (by decide) (fun c87 => ?_) (fun c87 => ?_)
                    · refine gg_iconst (v := (-1)) d_Sig_sixBitsOf_95 (by decide) ?_
                      exact gg_ireturn d_Sig_sixBitsOf_96 rfl rfl ⟨by unfold sx_i; first | rw [if_pos h1] | rw [if_neg h1, if_pos h2] | rw [if_neg h1, if_neg h2, if_pos h3] | rw [if_neg h1, if_neg h2, if_neg h3, h5, if_pos c69] | rw [if_neg h1, if_neg h2, if_neg h3, h5, h6, if_neg c69, if_pos c87] | rw [if_neg h1, if_neg h2, if_neg h3, h5, h6, if_neg c69, if_neg c87], rfl⟩
                    · refine gg_bipush (v := 63) d_Sig_sixBitsOf_90 (by decide) ?_
                      refine gg_goto 96 d_Sig_sixBitsOf_92 (by decide) ?_
                      exact gg_ireturn d_Sig_sixBitsOf_96 rfl rfl ⟨by unfold sx_i; first | rw [if_pos h1] | rw [if_neg h1, if_pos h2] | rw [if_neg h1, if_neg h2, if_pos h3] | rw [if_neg h1, if_neg h2, if_neg h3, h5, if_pos c69] | rw [if_neg h1, if_neg h2, if_neg h3, h5, h6, if_neg c69, if_pos c87] | rw [if_neg h1, if_neg h2, if_neg h3, h5, h6, if_neg c69, if_neg c87], rfl⟩
                · first
                  | exact absurd c59 c77
                  | refine gg_bipush (v := 95) d_Sig_sixBitsOf_80 (by decide) ?_
                    refine gg_goto 87 d_Sig_sixBitsOf_82 (by decide) ?_
                    refine gg_icmp_ne 95 d_Sig_sixBitsOf_87 (by decide) (fun c87 => ?_) (fun c87 => ?_)
                    · refine gg_iconst (v := (-1)) d_Sig_sixBitsOf_95 (by decide) ?_
                      exact gg_ireturn d_Sig_sixBitsOf_96 rfl rfl ⟨by unfold sx_i; first | rw [if_pos h1] | rw [if_neg h1, if_pos h2] | rw [if_neg h1, if_neg h2, if_pos h3] | rw [if_neg h1, if_neg h2, if_neg h3, h5, if_pos c69] | rw [if_neg h1, if_neg h2, if_neg h3, h5, h6, if_neg c69, if_pos c87] | rw [if_neg h1, if_neg h2, if_neg h3, h5, h6, if_neg c69, if_neg c87], rfl⟩
                    · refine gg_bipush (v := 63) d_Sig_sixBitsOf_90 (by decide) ?_
                      refine gg_goto 96 d_Sig_sixBitsOf_92 (by decide) ?_
                      exact gg_ireturn d_Sig_sixBitsOf_96 rfl rfl ⟨by unfold sx_i; first | rw [if_pos h1] | rw [if_neg h1, if_pos h2] | rw [if_neg h1, if_neg h2, if_pos h3] | rw [if_neg h1, if_neg h2, if_neg h3, h5, if_pos c69] | rw [if_neg h1, if_neg h2, if_neg h3, h5, h6, if_neg c69, if_pos c87] | rw [if_neg h1, if_neg h2, if_neg h3, h5, h6, if_neg c69, if_neg c87], rfl⟩
              · refine gg_bipush (v := 62) d_Sig_sixBitsOf_72 (by decide) ?_
                exact gg_ireturn d_Sig_sixBitsOf_74 rfl rfl ⟨by unfold sx_i; first | rw [if_pos h1] | rw [if_neg h1, if_pos h2] | rw [if_neg h1, if_neg h2, if_pos h3] | rw [if_neg h1, if_neg h2, if_neg h3, h5, if_pos c69] | rw [if_neg h1, if_neg h2, if_neg h3, h5, h6, if_neg c69, if_pos c87] | rw [if_neg h1, if_neg h2, if_neg h3, h5, h6, if_neg c69, if_neg c87], rfl⟩
            · have h5 : (if z = true then (43 : Int32) else 45) = 45 := if_neg (fun q => c59 (hz.mpr q))
              have h6 : (if z = true then (47 : Int32) else 95) = 95 := if_neg (fun q => c59 (hz.mpr q))
              refine gg_bipush (v := 45) d_Sig_sixBitsOf_62 (by decide) ?_
              refine gg_goto 69 d_Sig_sixBitsOf_64 (by decide) ?_
              refine gg_icmp_ne 75 d_Sig_sixBitsOf_69 (by decide) (fun c69 => ?_) (fun c69 => ?_)
              · refine gg_iload_n 0 d_Sig_sixBitsOf_75 rfl rfl ?_
                refine gg_iload_n 1 d_Sig_sixBitsOf_76 rfl rfl ?_
                refine gg_if_eq 85 d_Sig_sixBitsOf_77 (by decide) (fun c77 => ?_) (fun c77 => ?_)
                · first
                  | exact absurd c77 c59
                  | refine gg_bipush (v := 47) d_Sig_sixBitsOf_85 (by decide) ?_
                    refine gg_icmp_ne 95 d_Sig_sixBitsOf_87 (by decide) (fun c87 => ?_) (fun c87 => ?_)
                    · refine gg_iconst (v := (-1)) d_Sig_sixBitsOf_95 (by decide) ?_
                      exact gg_ireturn d_Sig_sixBitsOf_96 rfl rfl ⟨by unfold sx_i; first | rw [if_pos h1] | rw [if_neg h1, if_pos h2] | rw [if_neg h1, if_neg h2, if_pos h3] | rw [if_neg h1, if_neg h2, if_neg h3, h5, if_pos c69] | rw [if_neg h1, if_neg h2, if_neg h3, h5, h6, if_neg c69, if_pos c87] | rw [if_neg h1, if_neg h2, if_neg h3, h5, h6, if_neg c69, if_neg c87], rfl⟩
                    · refine gg_bipush (v := 63) d_Sig_sixBitsOf_90 (by decide) ?_
                      refine gg_goto 96 d_Sig_sixBitsOf_92 (by decide) ?_
                      exact gg_ireturn d_Sig_sixBitsOf_96 rfl rfl ⟨by unfold sx_i; first | rw [if_pos h1] | rw [if_neg h1, if_pos h2] | rw [if_neg h1, if_neg h2, if_pos h3] | rw [if_neg h1, if_neg h2, if_neg h3, h5, if_pos c69] | rw [if_neg h1, if_neg h2, if_neg h3, h5, h6, if_neg c69, if_pos c87] | rw [if_neg h1, if_neg h2, if_neg h3, h5, h6, if_neg c69, if_neg c87], rfl⟩
                · first
                  | exact absurd c59 c77
                  | refine gg_bipush (v := 95) d_Sig_sixBitsOf_80 (by decide) ?_
                    refine gg_goto 87 d_Sig_sixBitsOf_82 (by decide) ?_
                    refine gg_icmp_ne 95 d_Sig_sixBitsOf_87 (by decide) (fun c87 => ?_) (fun c87 => ?_)
                    · refine gg_iconst (v := (-1)) d_Sig_sixBitsOf_95 (by decide) ?_
                      exact gg_ireturn d_Sig_sixBitsOf_96 rfl rfl ⟨by unfold sx_i; first | rw [if_pos h1] | rw [if_neg h1, if_pos h2] | rw [if_neg h1, if_neg h2, if_pos h3] | rw [if_neg h1, if_neg h2, if_neg h3, h5, if_pos c69] | rw [if_neg h1, if_neg h2, if_neg h3, h5, h6, if_neg c69, if_pos c87] | rw [if_neg h1, if_neg h2, if_neg h3, h5, h6, if_neg c69, if_neg c87], rfl⟩
                    · refine gg_bipush (v := 63) d_Sig_sixBitsOf_90 (by decide) ?_
                      refine gg_goto 96 d_Sig_sixBitsOf_92 (by decide) ?_
                      exact gg_ireturn d_Sig_sixBitsOf_96 rfl rfl ⟨by unfold sx_i; first | rw [if_pos h1] | rw [if_neg h1, if_pos h2] | rw [if_neg h1, if_neg h2, if_pos h3] | rw [if_neg h1, if_neg h2, if_neg h3, h5, if_pos c69] | rw [if_neg h1, if_neg h2, if_neg h3, h5, h6, if_neg c69, if_pos c87] | rw [if_neg h1, if_neg h2, if_neg h3, h5, h6, if_neg c69, if_neg c87], rfl⟩
              · refine gg_bipush (v := 62) d_Sig_sixBitsOf_72 (by decide) ?_
                exact gg_ireturn d_Sig_sixBitsOf_74 rfl rfl ⟨by unfold sx_i; first | rw [if_pos h1] | rw [if_neg h1, if_pos h2] | rw [if_neg h1, if_neg h2, if_pos h3] | rw [if_neg h1, if_neg h2, if_neg h3, h5, if_pos c69] | rw [if_neg h1, if_neg h2, if_neg h3, h5, h6, if_neg c69, if_pos c87] | rw [if_neg h1, if_neg h2, if_neg h3, h5, h6, if_neg c69, if_neg c87], rfl⟩
          · have h3 : 48 ≤ x ∧ x ≤ 57 := ⟨Int32.not_lt.mp c40, Int32.not_lt.mp c46⟩
            refine gg_iload_n 0 d_Sig_sixBitsOf_49 rfl rfl ?_
            refine gg_bipush (v := 48) d_Sig_sixBitsOf_50 (by decide) ?_
            refine gg_isub d_Sig_sixBitsOf_52 ?_
            refine gg_bipush (v := 52) d_Sig_sixBitsOf_53 (by decide) ?_
            refine gg_iadd d_Sig_sixBitsOf_55 ?_
            exact gg_ireturn d_Sig_sixBitsOf_56 rfl rfl ⟨by unfold sx_i; first | rw [if_pos h1] | rw [if_neg h1, if_pos h2] | rw [if_neg h1, if_neg h2, if_pos h3] | rw [if_neg h1, if_neg h2, if_neg h3, h5, if_pos c69] | rw [if_neg h1, if_neg h2, if_neg h3, h5, h6, if_neg c69, if_pos c87] | rw [if_neg h1, if_neg h2, if_neg h3, h5, h6, if_neg c69, if_neg c87], rfl⟩
      · refine gg_iload_n 0 d_Sig_sixBitsOf_23 rfl rfl ?_
        refine gg_bipush (v := 122) d_Sig_sixBitsOf_24 (by decide) ?_
        refine gg_icmp_gt 37 d_Sig_sixBitsOf_26 (by decide) (fun c26 => ?_) (fun c26 => ?_)
        · have h2 : ¬ (97 ≤ x ∧ x ≤ 122) := fun q => absurd q.2 (Int32.not_le.mpr c26)
          refine gg_iload_n 0 d_Sig_sixBitsOf_37 rfl rfl ?_
          refine gg_bipush (v := 48) d_Sig_sixBitsOf_38 (by decide) ?_
          refine gg_icmp_lt 57 d_Sig_sixBitsOf_40 (by decide) (fun c40 => ?_) (fun c40 => ?_)
          · have h3 : ¬ (48 ≤ x ∧ x ≤ 57) := fun q => absurd q.1 (Int32.not_le.mpr c40)
            refine gg_iload_n 0 d_Sig_sixBitsOf_57 rfl rfl ?_
            refine gg_iload_n 1 d_Sig_sixBitsOf_58 rfl rfl ?_
            refine gg_if_eq 67 d_Sig_sixBitsOf_59 (by decide) (fun c59 => ?_) (fun c59 => ?_)
            · have h5 : (if z = true then (43 : Int32) else 45) = 43 := if_pos (hz.mp c59)
              have h6 : (if z = true then (47 : Int32) else 95) = 47 := if_pos (hz.mp c59)
              refine gg_bipush (v := 43) d_Sig_sixBitsOf_67 (by decide) ?_
              refine gg_icmp_ne 75 d_Sig_sixBitsOf_69 (by decide) (fun c69 => ?_) (fun c69 => ?_)
              · refine gg_iload_n 0 d_Sig_sixBitsOf_75 rfl rfl ?_
                refine gg_iload_n 1 d_Sig_sixBitsOf_76 rfl rfl ?_
                refine gg_if_eq 85 d_Sig_sixBitsOf_77 (by decide) (fun c77 => ?_) (fun c77 => ?_)
                · first
                  | exact absurd c77 c59
                  | refine gg_bipush (v := 47) d_Sig_sixBitsOf_85 (by decide) ?_
                    refine gg_icmp_ne 95 d_Sig_sixBitsOf_87 (by decide) (fun c87 => ?_) (fun c87 => ?_)
                    · refine gg_iconst (v := (-1)) d_Sig_sixBitsOf_95 (by decide) ?_
                      exact gg_ireturn d_Sig_sixBitsOf_96 rfl rfl ⟨by unfold sx_i; first | rw [if_pos h1] | rw [if_neg h1, if_pos h2] | rw [if_neg h1, if_neg h2, if_pos h3] | rw [if_neg h1, if_neg h2, if_neg h3, h5, if_pos c69] | rw [if_neg h1, if_neg h2, if_neg h3, h5, h6, if_neg c69, if_pos c87] | rw [if_neg h1, if_neg h2, if_neg h3, h5, h6, if_neg c69, if_neg c87], rfl⟩
                    · refine gg_bipush (v := 63) d_Sig_sixBitsOf_90 (by decide) ?_
                      refine gg_goto 96 d_Sig_sixBitsOf_92 (by decide) ?_
                      exact gg_ireturn d_Sig_sixBitsOf_96 rfl rfl ⟨by unfold sx_i; first | rw [if_pos h1] | rw [if_neg h1, if_pos h2] | rw [if_neg h1, if_neg h2, if_pos h3] | rw [if_neg h1, if_neg h2, if_neg h3, h5, if_pos c69] | rw [if_neg h1, if_neg h2, if_neg h3, h5, h6, if_neg c69, if_pos c87] | rw [if_neg h1, if_neg h2, if_neg h3, h5, h6, if_neg c69, if_neg c87], rfl⟩
                · first
                  | exact absurd c59 c77
                  | refine gg_bipush (v := 95) d_Sig_sixBitsOf_80 (by decide) ?_
                    refine gg_goto 87 d_Sig_sixBitsOf_82 (by decide) ?_
                    refine gg_icmp_ne 95 d_Sig_sixBitsOf_87 (by decide) (fun c87 => ?_) (fun c87 => ?_)
                    · refine gg_iconst (v := (-1)) d_Sig_sixBitsOf_95 (by decide) ?_
                      exact gg_ireturn d_Sig_sixBitsOf_96 rfl rfl ⟨by unfold sx_i; first | rw [if_pos h1] | rw [if_neg h1, if_pos h2] | rw [if_neg h1, if_neg h2, if_pos h3] | rw [if_neg h1, if_neg h2, if_neg h3, h5, if_pos c69] | rw [if_neg h1, if_neg h2, if_neg h3, h5, h6, if_neg c69, if_pos c87] | rw [if_neg h1, if_neg h2, if_neg h3, h5, h6, if_neg c69, if_neg c87], rfl⟩
                    · refine gg_bipush (v := 63) d_Sig_sixBitsOf_90 (by decide) ?_
                      refine gg_goto 96 d_Sig_sixBitsOf_92 (by decide) ?_
                      exact gg_ireturn d_Sig_sixBitsOf_96 rfl rfl ⟨by unfold sx_i; first | rw [if_pos h1] | rw [if_neg h1, if_pos h2] | rw [if_neg h1, if_neg h2, if_pos h3] | rw [if_neg h1, if_neg h2, if_neg h3, h5, if_pos c69] | rw [if_neg h1, if_neg h2, if_neg h3, h5, h6, if_neg c69, if_pos c87] | rw [if_neg h1, if_neg h2, if_neg h3, h5, h6, if_neg c69, if_neg c87], rfl⟩
              · refine gg_bipush (v := 62) d_Sig_sixBitsOf_72 (by decide) ?_
                exact gg_ireturn d_Sig_sixBitsOf_74 rfl rfl ⟨by unfold sx_i; first | rw [if_pos h1] | rw [if_neg h1, if_pos h2] | rw [if_neg h1, if_neg h2, if_pos h3] | rw [if_neg h1, if_neg h2, if_neg h3, h5, if_pos c69] | rw [if_neg h1, if_neg h2, if_neg h3, h5, h6, if_neg c69, if_pos c87] | rw [if_neg h1, if_neg h2, if_neg h3, h5, h6, if_neg c69, if_neg c87], rfl⟩
            · have h5 : (if z = true then (43 : Int32) else 45) = 45 := if_neg (fun q => c59 (hz.mpr q))
              have h6 : (if z = true then (47 : Int32) else 95) = 95 := if_neg (fun q => c59 (hz.mpr q))
              refine gg_bipush (v := 45) d_Sig_sixBitsOf_62 (by decide) ?_
              refine gg_goto 69 d_Sig_sixBitsOf_64 (by decide) ?_
              refine gg_icmp_ne 75 d_Sig_sixBitsOf_69 (by decide) (fun c69 => ?_) (fun c69 => ?_)
              · refine gg_iload_n 0 d_Sig_sixBitsOf_75 rfl rfl ?_
                refine gg_iload_n 1 d_Sig_sixBitsOf_76 rfl rfl ?_
                refine gg_if_eq 85 d_Sig_sixBitsOf_77 (by decide) (fun c77 => ?_) (fun c77 => ?_)
                · first
                  | exact absurd c77 c59
                  | refine gg_bipush (v := 47) d_Sig_sixBitsOf_85 (by decide) ?_
                    refine gg_icmp_ne 95 d_Sig_sixBitsOf_87 (by decide) (fun c87 => ?_) (fun c87 => ?_)
                    · refine gg_iconst (v := (-1)) d_Sig_sixBitsOf_95 (by decide) ?_
                      exact gg_ireturn d_Sig_sixBitsOf_96 rfl rfl ⟨by unfold sx_i; first | rw [if_pos h1] | rw [if_neg h1, if_pos h2] | rw [if_neg h1, if_neg h2, if_pos h3] | rw [if_neg h1, if_neg h2, if_neg h3, h5, if_pos c69] | rw [if_neg h1, if_neg h2, if_neg h3, h5, h6, if_neg c69, if_pos c87] | rw [if_neg h1, if_neg h2, if_neg h3, h5, h6, if_neg c69, if_neg c87], rfl⟩
                    · refine gg_bipush (v := 63) d_Sig_sixBitsOf_90 (by decide) ?_
                      refine gg_goto 96 d_Sig_sixBitsOf_92 (by decide) ?_
                      exact gg_ireturn d_Sig_sixBitsOf_96 rfl rfl ⟨by unfold sx_i; first | rw [if_pos h1] | rw [if_neg h1, if_pos h2] | rw [if_neg h1, if_neg h2, if_pos h3] | rw [if_neg h1, if_neg h2, if_neg h3, h5, if_pos c69] | rw [if_neg h1, if_neg h2, if_neg h3, h5, h6, if_neg c69, if_pos c87] | rw [if_neg h1, if_neg h2, if_neg h3, h5, h6, if_neg c69, if_neg c87], rfl⟩
                · first
                  | exact absurd c59 c77
                  | refine gg_bipush (v := 95) d_Sig_sixBitsOf_80 (by decide) ?_
                    refine gg_goto 87 d_Sig_sixBitsOf_82 (by decide) ?_
                    refine gg_icmp_ne 95 d_Sig_sixBitsOf_87 (by decide) (fun c87 => ?_) (fun c87 => ?_)
                    · refine gg_iconst (v := (-1)) d_Sig_sixBitsOf_95 (by decide) ?_
                      exact gg_ireturn d_Sig_sixBitsOf_96 rfl rfl ⟨by unfold sx_i; first | rw [if_pos h1] | rw [if_neg h1, if_pos h2] | rw [if_neg h1, if_neg h2, if_pos h3] | rw [if_neg h1, if_neg h2, if_neg h3, h5, if_pos c69] | rw [if_neg h1, if_neg h2, if_neg h3, h5, h6, if_neg c69, if_pos c87] | rw [if_neg h1, if_neg h2, if_neg h3, h5, h6, if_neg c69, if_neg c87], rfl⟩
                    · refine gg_bipush (v := 63) d_Sig_sixBitsOf_90 (by decide) ?_
                      refine gg_goto 96 d_Sig_sixBitsOf_92 (by decide) ?_
                      exact gg_ireturn d_Sig_sixBitsOf_96 rfl rfl ⟨by unfold sx_i; first | rw [if_pos h1] | rw [if_neg h1, if_pos h2] | rw [if_neg h1, if_neg h2, if_pos h3] | rw [if_neg h1, if_neg h2, if_neg h3, h5, if_pos c69] | rw [if_neg h1, if_neg h2, if_neg h3, h5, h6, if_neg c69, if_pos c87] | rw [if_neg h1, if_neg h2, if_neg h3, h5, h6, if_neg c69, if_neg c87], rfl⟩
              · refine gg_bipush (v := 62) d_Sig_sixBitsOf_72 (by decide) ?_
                exact gg_ireturn d_Sig_sixBitsOf_74 rfl rfl ⟨by unfold sx_i; first | rw [if_pos h1] | rw [if_neg h1, if_pos h2] | rw [if_neg h1, if_neg h2, if_pos h3] | rw [if_neg h1, if_neg h2, if_neg h3, h5, if_pos c69] | rw [if_neg h1, if_neg h2, if_neg h3, h5, h6, if_neg c69, if_pos c87] | rw [if_neg h1, if_neg h2, if_neg h3, h5, h6, if_neg c69, if_neg c87], rfl⟩
          · refine gg_iload_n 0 d_Sig_sixBitsOf_43 rfl rfl ?_
            refine gg_bipush (v := 57) d_Sig_sixBitsOf_44 (by decide) ?_
            refine gg_icmp_gt 57 d_Sig_sixBitsOf_46 (by decide) (fun c46 => ?_) (fun c46 => ?_)
            · have h3 : ¬ (48 ≤ x ∧ x ≤ 57) := fun q => absurd q.2 (Int32.not_le.mpr c46)
              refine gg_iload_n 0 d_Sig_sixBitsOf_57 rfl rfl ?_
              refine gg_iload_n 1 d_Sig_sixBitsOf_58 rfl rfl ?_
              refine gg_if_eq 67 d_Sig_sixBitsOf_59 (by decide) (fun c59 => ?_) (fun c59 => ?_)
              · have h5 : (if z = true then (43 : Int32) else 45) = 43 := if_pos (hz.mp c59)
                have h6 : (if z = true then (47 : Int32) else 95) = 47 := if_pos (hz.mp c59)
                refine gg_bipush (v := 43) d_Sig_sixBitsOf_67 (by decide) ?_
                refine gg_icmp_ne 75 d_Sig_sixBitsOf_69 (by decide) (fun c69 => ?_) (fun c69 => ?_)
                · refine gg_iload_n 0 d_Sig_sixBitsOf_75 rfl rfl ?_
                  refine gg_iload_n 1 d_Sig_sixBitsOf_76 rfl rfl ?_
                  refine gg_if_eq 85 d_Sig_sixBitsOf_77 (by decide) (fun c77 => ?_) (fun c77 => ?_)
                  · first
                    | exact absurd c77 c59
                    | refine gg_bipush (v := 47) d_Sig_sixBitsOf_85 (by decide) ?_
                      refine gg_icmp_ne 95 d_Sig_sixBitsOf_87 (by decide) (fun c87 => ?_) (fun c87 => ?_)
                      · refine gg_iconst (v := (-1)) d_Sig_sixBitsOf_95 (by decide) ?_
                        exact gg_ireturn d_Sig_sixBitsOf_96 rfl rfl ⟨by unfold sx_i; first | rw [if_pos h1] | rw [if_neg h1, if_pos h2] | rw [if_neg h1, if_neg h2, if_pos h3] | rw [if_neg h1, if_neg h2, if_neg h3, h5, if_pos c69] | rw [if_neg h1, if_neg h2, if_neg h3, h5, h6, if_neg c69, if_pos c87] | rw [if_neg h1, if_neg h2, if_neg h3, h5, h6, if_neg c69, if_neg c87], rfl⟩
                      · refine gg_bipush (v := 63) d_Sig_sixBitsOf_90 (by decide) ?_
                        refine gg_goto 96 d_Sig_sixBitsOf_92 (by decide) ?_
                        exact gg_ireturn d_Sig_sixBitsOf_96 rfl rfl ⟨by unfold sx_i; first | rw [if_pos h1] | rw [if_neg h1, if_pos h2] | rw [if_neg h1, if_neg h2, if_pos h3] | rw [if_neg h1, if_neg h2, if_neg h3, h5, if_pos c69] | rw [if_neg h1, if_neg h2, if_neg h3, h5, h6, if_neg c69, if_pos c87] | rw [if_neg h1, if_neg h2, if_neg h3, h5, h6, if_neg c69, if_neg c87], rfl⟩
                  · first
                    | exact absurd c59 c77
                    | refine gg_bipush (v := 95) d_Sig_sixBitsOf_80 (by decide) ?_
                      refine gg_goto 87 d_Sig_sixBitsOf_82 (by decide) ?_
                      refine gg_icmp_ne 95 d_Sig_sixBitsOf_87 (by decide) (fun c87 => ?_) (fun c87 => ?_)
                      · refine gg_iconst (v := (-1)) d_Sig_sixBitsOf_95 (by decide) ?_
                        exact gg_ireturn d_Sig_sixBitsOf_96 rfl rfl ⟨by unfold sx_i; first | rw [if_pos h1] | rw [if_neg h1, if_pos h2] | rw [if_neg h1, if_neg h2, if_pos h3] | rw [if_neg h1, if_neg h2, if_neg h3, h5, if_pos c69] | rw [if_neg h1, if_neg h2, if_neg h3, h5, h6, if_neg c69, if_pos c87] | rw [if_neg h1, if_neg h2, if_neg h3, h5, h6, if_neg c69, if_neg c87], rfl⟩
                      · refine gg_bipush (v := 63) d_Sig_sixBitsOf_90 (by decide) ?_
                        refine gg_goto 96 d_Sig_sixBitsOf_92 (by decide) ?_
                        exact gg_ireturn d_Sig_sixBitsOf_96 rfl rfl ⟨by unfold sx_i; first | rw [if_pos h1] | rw [if_neg h1, if_pos h2] | rw [if_neg h1, if_neg h2, if_pos h3] | rw [if_neg h1, if_neg h2, if_neg h3, h5, if_pos c69] | rw [if_neg h1, if_neg h2, if_neg h3, h5, h6, if_neg c69, if_pos c87] | rw [if_neg h1, if_neg h2, if_neg h3, h5, h6, if_neg c69, if_neg c87], rfl⟩
                · refine gg_bipush (v := 62) d_Sig_sixBitsOf_72 (by decide) ?_
                  exact gg_ireturn d_Sig_sixBitsOf_74 rfl rfl ⟨by unfold sx_i; first | rw [if_pos h1] | rw [if_neg h1, if_pos h2] | rw [if_neg h1, if_neg h2, if_pos h3] | rw [if_neg h1, if_neg h2, if_neg h3, h5, if_pos c69] | rw [if_neg h1, if_neg h2, if_neg h3, h5, h6, if_neg c69, if_pos c87] | rw [if_neg h1, if_neg h2, if_neg h3, h5, h6, if_neg c69, if_neg c87], rfl⟩
              · have h5 : (if z = true then (43 : Int32) else 45) = 45 := if_neg (fun q => c59 (hz.mpr q))
                have h6 : (if z = true then (47 : Int32) else 95) = 95 := if_neg (fun q => c59 (hz.mpr q))
                refine gg_bipush (v := 45) d_Sig_sixBitsOf_62 (by decide) ?_
                refine gg_goto 69 d_Sig_sixBitsOf_64 (by decide) ?_
                refine gg_icmp_ne 75 d_Sig_sixBitsOf_69 (by decide) (fun c69 => ?_) (fun c69 => ?_)
                · refine gg_iload_n 0 d_Sig_sixBitsOf_75 rfl rfl ?_
                  refine gg_iload_n 1 d_Sig_sixBitsOf_76 rfl rfl ?_
                  refine gg_if_eq 85 d_Sig_sixBitsOf_77 (by decide) (fun c77 => ?_) (fun c77 => ?_)
                  · first
                    | exact absurd c77 c59
                    | refine gg_bipush (v := 47) d_Sig_sixBitsOf_85 (by decide) ?_
                      refine gg_icmp_ne 95 d_Sig_sixBitsOf_87 (by decide) (fun c87 => ?_) (fun c87 => ?_)
                      · refine gg_iconst (v := (-1)) d_Sig_sixBitsOf_95 (by decide) ?_
                        exact gg_ireturn d_Sig_sixBitsOf_96 rfl rfl ⟨by unfold sx_i; first | rw [if_pos h1] | rw [if_neg h1, if_pos h2] | rw [if_neg h1, if_neg h2, if_pos h3] | rw [if_neg h1, if_neg h2, if_neg h3, h5, if_pos c69] | rw [if_neg h1, if_neg h2, if_neg h3, h5, h6, if_neg c69, if_pos c87] | rw [if_neg h1, if_neg h2, if_neg h3, h5, h6, if_neg c69, if_neg c87], rfl⟩
                      · refine gg_bipush (v := 63) d_Sig_sixBitsOf_90 (by decide) ?_
                        refine gg_goto 96 d_Sig_sixBitsOf_92 (by decide) ?_
                        exact gg_ireturn d_Sig_sixBitsOf_96 rfl rfl ⟨by unfold sx_i; first | rw [if_pos h1] | rw [if_neg h1, if_pos h2] | rw [if_neg h1, if_neg h2, if_pos h3] | rw [if_neg h1, if_neg h2, if_neg h3, h5, if_pos c69] | rw [if_neg h1, if_neg h2, if_neg h3, h5, h6, if_neg c69, if_pos c87] | rw [if_neg h1, if_neg h2, if_neg h3, h5, h6, if_neg c69, if_neg c87], rfl⟩
                  · first
                    | exact absurd c59 c77
                    | refine gg_bipush (v := 95) d_Sig_sixBitsOf_80 (by decide) ?_
                      refine gg_goto 87 d_Sig_sixBitsOf_82 (by decide) ?_
                      refine gg_icmp_ne 95 d_Sig_sixBitsOf_87 (by decide) (fun c87 => ?_) (fun c87 => ?_)
                      · refine gg_iconst (v := (-1)) d_Sig_sixBitsOf_95 (by decide) ?_
                        exact gg_ireturn d_Sig_sixBitsOf_96 rfl rfl ⟨by unfold sx_i; first | rw [if_pos h1] | rw [if_neg h1, if_pos h2] | rw [if_neg h1, if_neg h2, if_pos h3] | rw [if_neg h1, if_neg h2, if_neg h3, h5, if_pos c69] | rw [if_neg h1, if_neg h2, if_neg h3, h5, h6, if_neg c69, if_pos c87] | rw [if_neg h1, if_neg h2, if_neg h3, h5, h6, if_neg c69, if_neg c87], rfl⟩
                      · refine gg_bipush (v := 63) d_Sig_sixBitsOf_90 (by decide) ?_
                        refine gg_goto 96 d_Sig_sixBitsOf_92 (by decide) ?_
                        exact gg_ireturn d_Sig_sixBitsOf_96 rfl rfl ⟨by unfold sx_i; first | rw [if_pos h1] | rw [if_neg h1, if_pos h2] | rw [if_neg h1, if_neg h2, if_pos h3] | rw [if_neg h1, if_neg h2, if_neg h3, h5, if_pos c69] | rw [if_neg h1, if_neg h2, if_neg h3, h5, h6, if_neg c69, if_pos c87] | rw [if_neg h1, if_neg h2, if_neg h3, h5, h6, if_neg c69, if_neg c87], rfl⟩
                · refine gg_bipush (v := 62) d_Sig_sixBitsOf_72 (by decide) ?_
                  exact gg_ireturn d_Sig_sixBitsOf_74 rfl rfl ⟨by unfold sx_i; first | rw [if_pos h1] | rw [if_neg h1, if_pos h2] | rw [if_neg h1, if_neg h2, if_pos h3] | rw [if_neg h1, if_neg h2, if_neg h3, h5, if_pos c69] | rw [if_neg h1, if_neg h2, if_neg h3, h5, h6, if_neg c69, if_pos c87] | rw [if_neg h1, if_neg h2, if_neg h3, h5, h6, if_neg c69, if_neg c87], rfl⟩
            · have h3 : 48 ≤ x ∧ x ≤ 57 := ⟨Int32.not_lt.mp c40, Int32.not_lt.mp c46⟩
              refine gg_iload_n 0 d_Sig_sixBitsOf_49 rfl rfl ?_
              refine gg_bipush (v := 48) d_Sig_sixBitsOf_50 (by decide) ?_
              refine gg_isub d_Sig_sixBitsOf_52 ?_
              refine gg_bipush (v := 52) d_Sig_sixBitsOf_53 (by decide) ?_
              refine gg_iadd d_Sig_sixBitsOf_55 ?_
              exact gg_ireturn d_Sig_sixBitsOf_56 rfl rfl ⟨by unfold sx_i; first | rw [if_pos h1] | rw [if_neg h1, if_pos h2] | rw [if_neg h1, if_neg h2, if_pos h3] | rw [if_neg h1, if_neg h2, if_neg h3, h5, if_pos c69] | rw [if_neg h1, if_neg h2, if_neg h3, h5, h6, if_neg c69, if_pos c87] | rw [if_neg h1, if_neg h2, if_neg h3, h5, h6, if_neg c69, if_neg c87], rfl⟩
        · have h2 : 97 ≤ x ∧ x ≤ 122 := ⟨Int32.not_lt.mp c20, Int32.not_lt.mp c26⟩
          refine gg_iload_n 0 d_Sig_sixBitsOf_29 rfl rfl ?_
          refine gg_bipush (v := 97) d_Sig_sixBitsOf_30 (by decide) ?_
          refine gg_isub d_Sig_sixBitsOf_32 ?_
          refine gg_bipush (v := 26) d_Sig_sixBitsOf_33 (by decide) ?_
          refine gg_iadd d_Sig_sixBitsOf_35 ?_
          exact gg_ireturn d_Sig_sixBitsOf_36 rfl rfl ⟨by unfold sx_i; first | rw [if_pos h1] | rw [if_neg h1, if_pos h2] | rw [if_neg h1, if_neg h2, if_pos h3] | rw [if_neg h1, if_neg h2, if_neg h3, h5, if_pos c69] | rw [if_neg h1, if_neg h2, if_neg h3, h5, h6, if_neg c69, if_pos c87] | rw [if_neg h1, if_neg h2, if_neg h3, h5, h6, if_neg c69, if_neg c87], rfl⟩
    · have h1 : 65 ≤ x ∧ x ≤ 90 := ⟨Int32.not_lt.mp c3, Int32.not_lt.mp c9⟩
      refine gg_iload_n 0 d_Sig_sixBitsOf_12 rfl rfl ?_
      refine gg_bipush (v := 65) d_Sig_sixBitsOf_13 (by decide) ?_
      refine gg_isub d_Sig_sixBitsOf_15 ?_
      exact gg_ireturn d_Sig_sixBitsOf_16 rfl rfl ⟨by unfold sx_i; first | rw [if_pos h1] | rw [if_neg h1, if_pos h2] | rw [if_neg h1, if_neg h2, if_pos h3] | rw [if_neg h1, if_neg h2, if_neg h3, h5, if_pos c69] | rw [if_neg h1, if_neg h2, if_neg h3, h5, h6, if_neg c69, if_pos c87] | rw [if_neg h1, if_neg h2, if_neg h3, h5, h6, if_neg c69, if_neg c87], rfl⟩
set_option maxHeartbeats 4000000 in
set_option maxRecDepth 100000 in
theorem c_Mdl_which {l : Launch} {D : va_G} {cA : ClassId} {d : Nat} {h : List gg_C} {s : Int32} {z : Bool} {x : Int32} (hz : s = 0 ↔ z = true) (hd : 1 ≤ d) : gg_K l D cA d y_Mdl_which b_Mdl_which 3 (some .int) [.int x, .int s] h (gg_is (some (.int (nI (wh_i x z 64 0)))) h) := by
  have loop : ∀ k : Nat, ∀ v, 64 - v = k → v ≤ 64 → gg_G l D cA d R_Mdl b_Mdl_which 3 (some .int) (gg_is (some (.int (nI (wh_i x z k v)))) h) 2 [some (.int x), some (.int s), some (.int (nI v))] [] (h) := by
    intro k
    induction k with
    | zero =>
      intro v hk hv
      refine gg_iload_n 2 d_Mdl_which_2 rfl rfl ?_
      refine gg_bipush (v := nI 64) d_Mdl_which_3 (by decide) ?_
      refine gg_icmp_ge 23 d_Mdl_which_5 (by decide) (fun c5 => ?_) (fun c5 => ?_)
      · refine gg_iload_n 2 d_Mdl_which_23 rfl rfl ?_
        exact gg_ireturn d_Mdl_which_24 rfl rfl ⟨rfl, rfl⟩
      · exact absurd (nI_le (by omega) (by omega)) c5
    | succ k ih =>
      intro v hk hv
      refine gg_iload_n 2 d_Mdl_which_2 rfl rfl ?_
      refine gg_bipush (v := nI 64) d_Mdl_which_3 (by decide) ?_
      refine gg_icmp_ge 23 d_Mdl_which_5 (by decide) (fun c5 => ?_) (fun c5 => ?_)
      · exact absurd c5 (nI_ge (by omega) (by omega))
      · refine gg_iload_n 2 d_Mdl_which_8 rfl rfl ?_
        refine gg_iload_n 1 d_Mdl_which_9 rfl rfl ?_
        refine gg_cs1 m_Mdl_42 d_Mdl_which_10 (c_Mdl_sign (d := 0) hz) rfl (by omega) rfl (Nat.le_of_ble_eq_true rfl) ?_
        refine gg_iload_n 0 d_Mdl_which_13 rfl rfl ?_
        refine gg_icmp_eq 23 d_Mdl_which_14 (by decide) (fun c14 => ?_) (fun c14 => ?_)
        · rw [wh_is c14]
          refine gg_iload_n 2 d_Mdl_which_23 rfl rfl ?_
          exact gg_ireturn d_Mdl_which_24 rfl rfl ⟨rfl, rfl⟩
        · rw [wh_ne c14]
          refine gg_iinc (1) d_Mdl_which_17 rfl (by decide) (by decide) rfl ?_
          dsimp only [List.set]
          refine gg_goto 2 d_Mdl_which_20 (by decide) ?_
          rw [nI_1]
          exact ih (v + 1) (by omega) (by omega)
  refine gg_K.start (L := [some (.int x), some (.int s), none]) rfl (plainFor_of_name (by decide)) rfl (Nat.le_of_ble_eq_true rfl) ?_
  refine gg_iconst (v := 0) d_Mdl_which_0 (by decide) ?_
  refine gg_istore_n 2 d_Mdl_which_1 rfl (by decide) rfl ?_
  dsimp only [List.set]
  exact loop 64 0 rfl (by decide)
