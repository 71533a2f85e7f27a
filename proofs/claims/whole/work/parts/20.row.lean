/-! CourierDesk$Row: its object at place r, its array at place a, of N, n of them in use, with the values f -/
def gg_row (h : List gg_C) (r a N n : Nat) (f : Nat → Int32) : Prop := h[r]? = some (.inr (1, [.ref a, .int (nI n)])) ∧ h[a]? = some (.inl (N, f)) ∧ n ≤ N ∧ N ≤ 600
theorem gg_row.ne {h : List gg_C} {r a N n : Nat} {f : Nat → Int32} (hr : gg_row h r a N n f) : a ≠ r := by
  intro e
  obtain ⟨h1, h2, -⟩ := hr
  rw [e, h1] at h2
  simp at h2
theorem gg_row.arr {h : List gg_C} {r a N n : Nat} {f : Nat → Int32} (g : Nat → Int32) (hr : gg_row h r a N n f) : gg_row (h.set a (.inl (N, g))) r a N n g :=
  ⟨by rw [List.getElem?_set_ne hr.ne]; exact hr.1, by rw [List.getElem?_set_self (List.getElem?_eq_some_iff.mp hr.2.1).1], hr.2.2.1, hr.2.2.2⟩
theorem gg_row.len {h : List gg_C} {r a N n : Nat} {f : Nat → Int32} (m : Nat) (hm : m ≤ N) (hr : gg_row h r a N n f) : gg_row (h.set r (.inr (1, [.ref a, .int (nI m)]))) r a N m f :=
  ⟨by rw [List.getElem?_set_self (List.getElem?_eq_some_iff.mp hr.1).1], by rw [List.getElem?_set_ne hr.ne.symm]; exact hr.2.1, hm, hr.2.2.2⟩
theorem gg_id {h : List gg_C} {a : Nat} {c : gg_C} (hk : h[a]? = some c) : h.set a c = h := by
  apply List.ext_getElem?
  intro i
  by_cases hi : a = i
  · subst hi
    rw [List.getElem?_set_self (List.getElem?_eq_some_iff.mp hk).1, hk]
  · rw [List.getElem?_set_ne hi]
theorem sp_pred {m : Nat} (h : 0 < m) : nI m - 1 = nI (m - 1) := by
  obtain ⟨k, rfl⟩ : ∃ k, m = k + 1 := ⟨m - 1, by omega⟩
  exact nI_pred k
theorem sp_z_self (f : Nat → Int32) (n : Nat) : sp_z f n n = f := by
  funext k
  unfold sp_z
  rw [if_neg (by omega)]
theorem sp_z_step {f : Nat → Int32} {n i : Nat} (h : n ≤ i) : upd (sp_z f n i) i 0 = sp_z f n (i + 1) := by
  funext k
  unfold upd sp_z
  by_cases h1 : k = i
  · rw [if_pos h1, if_pos (by omega)]
  · rw [if_neg h1]
    by_cases h2 : n ≤ k ∧ k < i
    · rw [if_pos h2, if_pos (by omega)]
    · rw [if_neg h2, if_neg (by omega)]
theorem sp_z_end {f : Nat → Int32} {n w i : Nat} (h1 : w ≤ i) (h2 : i ≤ n ∨ i ≤ w) : sp_z f n i = sp_z f n w := by
  funext k
  unfold sp_z
  by_cases h3 : n ≤ k ∧ k < i
  · rw [if_pos h3, if_pos (by omega)]
  · rw [if_neg h3, if_neg (by omega)]
theorem sp_fl_0 (f : Nat → Int32) (v : Int32) : sp_fl f 0 v = f := by
  funext k
  unfold sp_fl
  rw [if_neg (by omega)]
theorem sp_fl_step (f : Nat → Int32) (v : Int32) (i : Nat) : upd (sp_fl f i v) i v = sp_fl f (i + 1) v := by
  funext k
  unfold upd sp_fl
  by_cases h1 : k = i
  · rw [if_pos h1, if_pos (by omega)]
  · rw [if_neg h1]
    by_cases h2 : k < i
    · rw [if_pos h2, if_pos (by omega)]
    · rw [if_neg h2, if_neg (by omega)]
theorem sp_addm1 (x : Int32) : x + (-1) = x - 1 := by rw [Int32.sub_eq_add_neg]
theorem sp_ff_ne {f : Nat → Int32} {v : Int32} {k i : Nat} (h : ¬ f i = v) : sp_ff f v (k + 1) i = sp_ff f v k (i + 1) := if_neg h
theorem sp_ff_is {f : Nat → Int32} {v : Int32} {k i : Nat} (h : f i = v) : sp_ff f v (k + 1) i = nI i := if_pos h
theorem sp_lf_ne {f : Nat → Int32} {v : Int32} {k : Nat} (h : ¬ f k = v) : sp_lf f v (k + 1) = sp_lf f v k := if_neg h
theorem sp_lf_is {f : Nat → Int32} {v : Int32} {k : Nat} (h : f k = v) : sp_lf f v (k + 1) = nI k := if_pos h
set_option maxHeartbeats 4000000 in
set_option maxRecDepth 100000 in
theorem c_Row_length {l : Launch} {D : va_G} {cA : ClassId} {d : Nat} {h : List gg_C} {r a N n : Nat} {f : Nat → Int32} (hr : gg_row h r a N n f) : gg_K l D cA d y_Row_length b_Row_length 1 (some .int) [.ref r] h (gg_is (some (.int (nI n))) h) := by
  refine gg_K.start (L := [some (.ref r)]) rfl (plainFor_of_name (by decide)) rfl (Nat.le_of_ble_eq_true rfl) ?_
  refine gg_aload_n 0 d_Row_length_0 rfl rfl ?_
  refine gg_get f_Row_13 d_Row_length_1 hr.1 rfl ?_
  exact gg_ireturn d_Row_length_4 rfl rfl ⟨rfl, rfl⟩
set_option maxHeartbeats 4000000 in
set_option maxRecDepth 100000 in
theorem c_Row_has {l : Launch} {D : va_G} {cA : ClassId} {d : Nat} {h : List gg_C} {r a N n : Nat} {f : Nat → Int32} {x : Int32} (hr : gg_row h r a N n f) : gg_K l D cA d y_Row_has b_Row_has 2 (some .boolean) [.ref r, .int x] h (gg_is (some (.int (sp_b (sp_in x n)))) h) := by
  have hN := hr.2.2
  have hn : n < 2 ^ 31 := by omega
  refine gg_K.start (L := [some (.ref r), some (.int x)]) rfl (plainFor_of_name (by decide)) rfl (Nat.le_of_ble_eq_true rfl) ?_
  refine gg_iload_n 1 d_Row_has_0 rfl rfl ?_
  refine gg_if_lt 16 d_Row_has_1 (by decide) (fun c1 => ?_) (fun c1 => ?_)
  · rw [sp_lt0] at c1
    refine gg_iconst (v := 0) d_Row_has_16 (by decide) ?_
    exact gg_ireturn d_Row_has_17 rfl (by decide) ⟨by first | rw [sp_bt (by omega)] | rw [sp_bf (by omega)], rfl⟩
  · rw [sp_lt0] at c1
    refine gg_iload_n 1 d_Row_has_4 rfl rfl ?_
    refine gg_aload_n 0 d_Row_has_5 rfl rfl ?_
    refine gg_get f_Row_13 d_Row_has_6 hr.1 rfl ?_
    refine gg_icmp_ge 16 d_Row_has_9 (by decide) (fun c9 => ?_) (fun c9 => ?_)
    · rw [sp_len hn] at c9
      refine gg_iconst (v := 0) d_Row_has_16 (by decide) ?_
      exact gg_ireturn d_Row_has_17 rfl (by decide) ⟨by first | rw [sp_bt (by omega)] | rw [sp_bf (by omega)], rfl⟩
    · rw [sp_len hn] at c9
      refine gg_iconst (v := 1) d_Row_has_12 (by decide) ?_
      refine gg_goto 17 d_Row_has_13 (by decide) ?_
      exact gg_ireturn d_Row_has_17 rfl (by decide) ⟨by first | rw [sp_bt (by omega)] | rw [sp_bf (by omega)], rfl⟩
set_option maxHeartbeats 4000000 in
set_option maxRecDepth 100000 in
theorem c_Row_hasRoomFor {l : Launch} {D : va_G} {cA : ClassId} {d : Nat} {h : List gg_C} {r a N n : Nat} {f : Nat → Int32} {x : Int32} (hr : gg_row h r a N n f) : gg_K l D cA d y_Row_hasRoomFor b_Row_hasRoomFor 2 (some .boolean) [.ref r, .int x] h (gg_is (some (.int (sp_b (x.toInt ≤ (N : Int) - n)))) h) := by
  have hN := hr.2.2
  have hn : N - n < 2 ^ 31 := by omega
  refine gg_K.start (L := [some (.ref r), some (.int x)]) rfl (plainFor_of_name (by decide)) rfl (Nat.le_of_ble_eq_true rfl) ?_
  refine gg_iload_n 1 d_Row_hasRoomFor_0 rfl rfl ?_
  refine gg_aload_n 0 d_Row_hasRoomFor_1 rfl rfl ?_
  refine gg_get f_Row_7 d_Row_hasRoomFor_2 hr.1 rfl ?_
  refine gg_alen d_Row_hasRoomFor_5 hr.2.1 ?_
  refine gg_aload_n 0 d_Row_hasRoomFor_6 rfl rfl ?_
  refine gg_get f_Row_13 d_Row_hasRoomFor_7 hr.1 rfl ?_
  refine gg_isub d_Row_hasRoomFor_10 ?_
  rw [pk_sub hr.2.2.1]
  refine gg_icmp_gt 18 d_Row_hasRoomFor_11 (by decide) (fun c11 => ?_) (fun c11 => ?_)
  · rw [sp_nlt hn] at c11
    refine gg_iconst (v := 0) d_Row_hasRoomFor_18 (by decide) ?_
    exact gg_ireturn d_Row_hasRoomFor_19 rfl (by decide) ⟨by first | rw [sp_bt (by omega)] | rw [sp_bf (by omega)], rfl⟩
  · rw [sp_nlt hn] at c11
    refine gg_iconst (v := 1) d_Row_hasRoomFor_14 (by decide) ?_
    refine gg_goto 19 d_Row_hasRoomFor_15 (by decide) ?_
    exact gg_ireturn d_Row_hasRoomFor_19 rfl (by decide) ⟨by first | rw [sp_bt (by omega)] | rw [sp_bf (by omega)], rfl⟩
set_option maxHeartbeats 4000000 in
set_option maxRecDepth 100000 in
theorem c_Row_at {l : Launch} {D : va_G} {cA : ClassId} {d : Nat} {h : List gg_C} {r a N n : Nat} {f : Nat → Int32} {i : Nat} (hr : gg_row h r a N n f) (hi : i < N) : gg_K l D cA d y_Row_at b_Row_at 2 (some .int) [.ref r, .int (nI i)] h (gg_is (some (.int (f i))) h) := by
  have hN := hr.2.2
  refine gg_K.start (L := [some (.ref r), some (.int (nI i))]) rfl (plainFor_of_name (by decide)) rfl (Nat.le_of_ble_eq_true rfl) ?_
  refine gg_aload_n 0 d_Row_at_0 rfl rfl ?_
  refine gg_get f_Row_7 d_Row_at_1 hr.1 rfl ?_
  refine gg_iload_n 1 d_Row_at_4 rfl rfl ?_
  refine gg_iald d_Row_at_5 hr.2.1 hi (by omega) ?_
  exact gg_ireturn d_Row_at_6 rfl rfl ⟨rfl, rfl⟩
set_option maxHeartbeats 4000000 in
set_option maxRecDepth 100000 in
theorem c_Row_put {l : Launch} {D : va_G} {cA : ClassId} {d : Nat} {h : List gg_C} {r a N n : Nat} {f : Nat → Int32} {i : Nat} {x : Int32} (hr : gg_row h r a N n f) (hi : i < N) : gg_K l D cA d y_Row_put b_Row_put 3 none [.ref r, .int (nI i), .int x] h (gg_is none (h.set a (.inl (N, upd f i x)))) := by
  have hN := hr.2.2
  refine gg_K.start (L := [some (.ref r), some (.int (nI i)), some (.int x)]) rfl (plainFor_of_name (by decide)) rfl (Nat.le_of_ble_eq_true rfl) ?_
  refine gg_aload_n 0 d_Row_put_0 rfl rfl ?_
  refine gg_get f_Row_7 d_Row_put_1 hr.1 rfl ?_
  refine gg_iload_n 1 d_Row_put_4 rfl rfl ?_
  refine gg_iload_n 2 d_Row_put_5 rfl rfl ?_
  refine gg_iast d_Row_put_6 hr.2.1 hi (by omega) ?_
  exact gg_return d_Row_put_7 rfl ⟨rfl, rfl⟩
set_option maxHeartbeats 4000000 in
set_option maxRecDepth 100000 in
theorem c_Row_clear {l : Launch} {D : va_G} {cA : ClassId} {d : Nat} {h : List gg_C} {r a N n : Nat} {f : Nat → Int32} (hr : gg_row h r a N n f) : gg_K l D cA d y_Row_clear b_Row_clear 1 none [.ref r] h (gg_is none (h.set r (.inr (1, [.ref a, .int (nI 0)])))) := by
  refine gg_K.start (L := [some (.ref r)]) rfl (plainFor_of_name (by decide)) rfl (Nat.le_of_ble_eq_true rfl) ?_
  refine gg_aload_n 0 d_Row_clear_0 rfl rfl ?_
  refine gg_iconst (v := 0) d_Row_clear_1 (by decide) ?_
  refine gg_puti u_Row_13 d_Row_clear_2 hr.1 (Nat.le_of_ble_eq_true rfl) ?_
  dsimp only [List.set]
  exact gg_return d_Row_clear_5 rfl ⟨rfl, rfl⟩
set_option maxHeartbeats 4000000 in
set_option maxRecDepth 100000 in
theorem c_Row_add {l : Launch} {D : va_G} {cA : ClassId} {d : Nat} {h : List gg_C} {r a N n : Nat} {f : Nat → Int32} {x : Int32} (hr : gg_row h r a N n f) (hi : n < N) : gg_K l D cA d y_Row_add b_Row_add 2 none [.ref r, .int x] h (gg_is none ((h.set a (.inl (N, upd f n x))).set r (.inr (1, [.ref a, .int (nI (n + 1))])))) := by
  have hN := hr.2.2
  have hq := hr.arr (upd f n x)
  refine gg_K.start (L := [some (.ref r), some (.int x)]) rfl (plainFor_of_name (by decide)) rfl (Nat.le_of_ble_eq_true rfl) ?_
  refine gg_aload_n 0 d_Row_add_0 rfl rfl ?_
  refine gg_get f_Row_7 d_Row_add_1 hr.1 rfl ?_
  refine gg_aload_n 0 d_Row_add_4 rfl rfl ?_
  refine gg_get f_Row_13 d_Row_add_5 hr.1 rfl ?_
  refine gg_iload_n 1 d_Row_add_8 rfl rfl ?_
  refine gg_iast d_Row_add_9 hr.2.1 hi (by omega) ?_
  refine gg_aload_n 0 d_Row_add_10 rfl rfl ?_
  refine gg_dup d_Row_add_11 rfl ?_
  refine gg_get f_Row_13 d_Row_add_12 hq.1 rfl ?_
  refine gg_iconst (v := 1) d_Row_add_15 (by decide) ?_
  refine gg_iadd d_Row_add_16 ?_
  rw [nI_1]
  refine gg_puti u_Row_13 d_Row_add_17 hq.1 (Nat.le_of_ble_eq_true rfl) ?_
  dsimp only [List.set]
  exact gg_return d_Row_add_20 rfl ⟨rfl, rfl⟩
set_option maxHeartbeats 4000000 in
set_option maxRecDepth 100000 in
theorem c_Row_addPart {l : Launch} {D : va_G} {cA : ClassId} {d : Nat} {h : List gg_C} {r a N n : Nat} {f : Nat → Int32} {r2 a2 N2 n2 i j : Nat} {g : Nat → Int32} (hr : gg_row h r a N n f) (hr2 : gg_row h r2 a2 N2 n2 g) (hij : i ≤ j) (hj : j ≤ N2) (hi : n + (j - i) ≤ N) (hd : 1 ≤ d) : gg_K l D cA d y_Row_addPart b_Row_addPart 4 none [.ref r, .ref r2, .int (nI i), .int (nI j)] h (gg_is none ((h.set a (.inl (N, va_cpy g f i n (j - i)))).set r (.inr (1, [.ref a, .int (nI (n + (j - i)))])))) := by
  have hN := hr.2.2
  have hN2 := hr2.2.2
  have hq := hr.arr (va_cpy g f i n (j - i))
  refine gg_K.start (L := [some (.ref r), some (.ref r2), some (.int (nI i)), some (.int (nI j))]) rfl (plainFor_of_name (by decide)) rfl (Nat.le_of_ble_eq_true rfl) ?_
  refine gg_aload_n 1 d_Row_addPart_0 rfl rfl ?_
  refine gg_get f_Row_7 d_Row_addPart_1 hr2.1 rfl ?_
  refine gg_iload_n 2 d_Row_addPart_4 rfl rfl ?_
  refine gg_aload_n 0 d_Row_addPart_5 rfl rfl ?_
  refine gg_get f_Row_7 d_Row_addPart_6 hr.1 rfl ?_
  refine gg_aload_n 0 d_Row_addPart_9 rfl rfl ?_
  refine gg_get f_Row_13 d_Row_addPart_10 hr.1 rfl ?_
  refine gg_iload_n 3 d_Row_addPart_13 rfl rfl ?_
  refine gg_iload_n 2 d_Row_addPart_14 rfl rfl ?_
  refine gg_isub d_Row_addPart_15 ?_
  rw [pk_sub hij]
  refine gg_copy k_182 k_184 k_183 k_7 d_Row_addPart_16 hr2.2.1 hr.2.1 (by omega) (by omega) (by omega) (by omega) hd ?_
  refine gg_aload_n 0 d_Row_addPart_19 rfl rfl ?_
  refine gg_dup d_Row_addPart_20 rfl ?_
  refine gg_get f_Row_13 d_Row_addPart_21 hq.1 rfl ?_
  refine gg_iload_n 3 d_Row_addPart_24 rfl rfl ?_
  refine gg_iload_n 2 d_Row_addPart_25 rfl rfl ?_
  refine gg_isub d_Row_addPart_26 ?_
  refine gg_iadd d_Row_addPart_27 ?_
  rw [pk_sub hij, nI_add]
  refine gg_puti u_Row_13 d_Row_addPart_28 hq.1 (Nat.le_of_ble_eq_true rfl) ?_
  dsimp only [List.set]
  exact gg_return d_Row_addPart_31 rfl ⟨rfl, rfl⟩
set_option maxHeartbeats 4000000 in
set_option maxRecDepth 100000 in
theorem c_Row_addAt {l : Launch} {D : va_G} {cA : ClassId} {d : Nat} {h : List gg_C} {r a N n : Nat} {f : Nat → Int32} {i : Nat} {x : Int32} (hr : gg_row h r a N n f) (hi : i ≤ n) (hn : n < N) (hd : 1 ≤ d) : gg_K l D cA d y_Row_addAt b_Row_addAt 3 none [.ref r, .int (nI i), .int x] h (gg_is none ((h.set a (.inl (N, upd (va_cpy f f i (i + 1) (n - i)) i x))).set r (.inr (1, [.ref a, .int (nI (n + 1))])))) := by
  have hN := hr.2.2
  have hq := hr.arr (va_cpy f f i (i + 1) (n - i))
  have hq2 := hq.arr (upd (va_cpy f f i (i + 1) (n - i)) i x)
  rw [List.set_set] at hq2
  refine gg_K.start (L := [some (.ref r), some (.int (nI i)), some (.int x)]) rfl (plainFor_of_name (by decide)) rfl (Nat.le_of_ble_eq_true rfl) ?_
  refine gg_aload_n 0 d_Row_addAt_0 rfl rfl ?_
  refine gg_get f_Row_7 d_Row_addAt_1 hr.1 rfl ?_
  refine gg_iload_n 1 d_Row_addAt_4 rfl rfl ?_
  refine gg_aload_n 0 d_Row_addAt_5 rfl rfl ?_
  refine gg_get f_Row_7 d_Row_addAt_6 hr.1 rfl ?_
  refine gg_iload_n 1 d_Row_addAt_9 rfl rfl ?_
  refine gg_iconst (v := 1) d_Row_addAt_10 (by decide) ?_
  refine gg_iadd d_Row_addAt_11 ?_
  refine gg_aload_n 0 d_Row_addAt_12 rfl rfl ?_
  refine gg_get f_Row_13 d_Row_addAt_13 hr.1 rfl ?_
  refine gg_iload_n 1 d_Row_addAt_16 rfl rfl ?_
  refine gg_isub d_Row_addAt_17 ?_
  rw [nI_1, pk_sub hi]
  refine gg_copy k_182 k_184 k_183 k_7 d_Row_addAt_18 hr.2.1 hr.2.1 (by omega) (by omega) (by omega) (by omega) hd ?_
  refine gg_aload_n 0 d_Row_addAt_21 rfl rfl ?_
  refine gg_get f_Row_7 d_Row_addAt_22 hq.1 rfl ?_
  refine gg_iload_n 1 d_Row_addAt_25 rfl rfl ?_
  refine gg_iload_n 2 d_Row_addAt_26 rfl rfl ?_
  refine gg_iast d_Row_addAt_27 hq.2.1 (by omega) (by omega) ?_
  rw [List.set_set]
  refine gg_aload_n 0 d_Row_addAt_28 rfl rfl ?_
  refine gg_dup d_Row_addAt_29 rfl ?_
  refine gg_get f_Row_13 d_Row_addAt_30 hq2.1 rfl ?_
  refine gg_iconst (v := 1) d_Row_addAt_33 (by decide) ?_
  refine gg_iadd d_Row_addAt_34 ?_
  rw [nI_1]
  refine gg_puti u_Row_13 d_Row_addAt_35 hq2.1 (Nat.le_of_ble_eq_true rfl) ?_
  dsimp only [List.set]
  exact gg_return d_Row_addAt_38 rfl ⟨rfl, rfl⟩
set_option maxHeartbeats 4000000 in
set_option maxRecDepth 100000 in
theorem c_Row_dropAt {l : Launch} {D : va_G} {cA : ClassId} {d : Nat} {h : List gg_C} {r a N n : Nat} {f : Nat → Int32} {i : Nat} (hr : gg_row h r a N n f) (hi : i < n) (hd : 1 ≤ d) : gg_K l D cA d y_Row_dropAt b_Row_dropAt 2 none [.ref r, .int (nI i)] h (gg_is none ((h.set a (.inl (N, va_cpy f f (i + 1) i (n - i - 1)))).set r (.inr (1, [.ref a, .int (nI (n - 1))])))) := by
  have hN := hr.2.2
  have hq := hr.arr (va_cpy f f (i + 1) i (n - i - 1))
  refine gg_K.start (L := [some (.ref r), some (.int (nI i))]) rfl (plainFor_of_name (by decide)) rfl (Nat.le_of_ble_eq_true rfl) ?_
  refine gg_aload_n 0 d_Row_dropAt_0 rfl rfl ?_
  refine gg_get f_Row_7 d_Row_dropAt_1 hr.1 rfl ?_
  refine gg_iload_n 1 d_Row_dropAt_4 rfl rfl ?_
  refine gg_iconst (v := 1) d_Row_dropAt_5 (by decide) ?_
  refine gg_iadd d_Row_dropAt_6 ?_
  refine gg_aload_n 0 d_Row_dropAt_7 rfl rfl ?_
  refine gg_get f_Row_7 d_Row_dropAt_8 hr.1 rfl ?_
  refine gg_iload_n 1 d_Row_dropAt_11 rfl rfl ?_
  refine gg_aload_n 0 d_Row_dropAt_12 rfl rfl ?_
  refine gg_get f_Row_13 d_Row_dropAt_13 hr.1 rfl ?_
  refine gg_iload_n 1 d_Row_dropAt_16 rfl rfl ?_
  refine gg_isub d_Row_dropAt_17 ?_
  refine gg_iconst (v := 1) d_Row_dropAt_18 (by decide) ?_
  refine gg_isub d_Row_dropAt_19 ?_
  rw [nI_1, pk_sub (by omega), sp_pred (by omega)]
  refine gg_copy k_182 k_184 k_183 k_7 d_Row_dropAt_20 hr.2.1 hr.2.1 (by omega) (by omega) (by omega) (by omega) hd ?_
  refine gg_aload_n 0 d_Row_dropAt_23 rfl rfl ?_
  refine gg_dup d_Row_dropAt_24 rfl ?_
  refine gg_get f_Row_13 d_Row_dropAt_25 hq.1 rfl ?_
  refine gg_iconst (v := 1) d_Row_dropAt_28 (by decide) ?_
  refine gg_isub d_Row_dropAt_29 ?_
  rw [sp_pred (by omega)]
  refine gg_puti u_Row_13 d_Row_dropAt_30 hq.1 (Nat.le_of_ble_eq_true rfl) ?_
  dsimp only [List.set]
  exact gg_return d_Row_dropAt_33 rfl ⟨rfl, rfl⟩
set_option maxHeartbeats 4000000 in
set_option maxRecDepth 100000 in
theorem c_Row_resize {l : Launch} {D : va_G} {cA : ClassId} {d : Nat} {h : List gg_C} {r a N n : Nat} {f : Nat → Int32} {w : Nat} (hr : gg_row h r a N n f) (hw : w ≤ N) : gg_K l D cA d y_Row_resize b_Row_resize 3 none [.ref r, .int (nI w)] h (gg_is none ((h.set a (.inl (N, sp_z f n w))).set r (.inr (1, [.ref a, .int (nI w)])))) := by
  have hN := hr.2.2
  have loop : ∀ k : Nat, ∀ i, w - i = k → n ≤ i → (i ≤ n ∨ i ≤ w) → gg_G l D cA d R_Row b_Row_resize 3 none (gg_is none ((h.set a (.inl (N, sp_z f n w))).set r (.inr (1, [.ref a, .int (nI w)])))) 5 [some (.ref r), some (.int (nI w)), some (.int (nI i))] [] (h.set a (.inl (N, sp_z f n i))) := by
    intro k
    induction k with
    | zero =>
      intro i hk hi hm
      have hq := hr.arr (sp_z f n i)
      refine gg_iload_n 2 d_Row_resize_5 rfl rfl ?_
      refine gg_iload_n 1 d_Row_resize_6 rfl rfl ?_
      refine gg_icmp_ge 23 d_Row_resize_7 (by decide) (fun c7 => ?_) (fun c7 => ?_)
      · refine gg_aload_n 0 d_Row_resize_23 rfl rfl ?_
        refine gg_iload_n 1 d_Row_resize_24 rfl rfl ?_
        rw [sp_z_end (show w ≤ i by omega) hm]
        have hq := hr.arr (sp_z f n w)
        refine gg_puti u_Row_13 d_Row_resize_25 hq.1 (Nat.le_of_ble_eq_true rfl) ?_
        dsimp only [List.set]
        exact gg_return d_Row_resize_28 rfl ⟨rfl, rfl⟩
      · exact absurd (nI_le (by omega) (by omega)) c7
    | succ k ih =>
      intro i hk hi hm
      have hq := hr.arr (sp_z f n i)
      refine gg_iload_n 2 d_Row_resize_5 rfl rfl ?_
      refine gg_iload_n 1 d_Row_resize_6 rfl rfl ?_
      refine gg_icmp_ge 23 d_Row_resize_7 (by decide) (fun c7 => ?_) (fun c7 => ?_)
      · exact absurd c7 (nI_ge (by omega) (by omega))
      · refine gg_aload_n 0 d_Row_resize_10 rfl rfl ?_
        refine gg_get f_Row_7 d_Row_resize_11 hq.1 rfl ?_
        refine gg_iload_n 2 d_Row_resize_14 rfl rfl ?_
        refine gg_iconst (v := 0) d_Row_resize_15 (by decide) ?_
        refine gg_iast d_Row_resize_16 hq.2.1 (by omega) (by omega) ?_
        rw [List.set_set, sp_z_step hi]
        refine gg_iinc (1) d_Row_resize_17 rfl (by decide) (by decide) rfl ?_
        dsimp only [List.set]
        refine gg_goto 5 d_Row_resize_20 (by decide) ?_
        rw [nI_1]
        exact ih (i + 1) (by omega) (by omega) (by omega)
  refine gg_K.start (L := [some (.ref r), some (.int (nI w)), none]) rfl (plainFor_of_name (by decide)) rfl (Nat.le_of_ble_eq_true rfl) ?_
  refine gg_aload_n 0 d_Row_resize_0 rfl rfl ?_
  refine gg_get f_Row_13 d_Row_resize_1 hr.1 rfl ?_
  refine gg_istore_n 2 d_Row_resize_4 rfl (by decide) rfl ?_
  dsimp only [List.set]
  have e0 := loop (w - n) n rfl (Nat.le_refl n) (Or.inl (Nat.le_refl n))
  rw [sp_z_self, gg_id hr.2.1] at e0
  exact e0
set_option maxHeartbeats 4000000 in
set_option maxRecDepth 100000 in
theorem c_Row_exchange {l : Launch} {D : va_G} {cA : ClassId} {d : Nat} {h : List gg_C} {r a N n : Nat} {f : Nat → Int32} {i j : Nat} (hr : gg_row h r a N n f) (hi : i < N) (hj : j < N) : gg_K l D cA d y_Row_exchange b_Row_exchange 4 none [.ref r, .int (nI i), .int (nI j)] h (gg_is none (h.set a (.inl (N, upd (upd f i (f j)) j (f i))))) := by
  have hN := hr.2.2
  have hq := hr.arr (upd f i (f j))
  refine gg_K.start (L := [some (.ref r), some (.int (nI i)), some (.int (nI j)), none]) rfl (plainFor_of_name (by decide)) rfl (Nat.le_of_ble_eq_true rfl) ?_
  refine gg_aload_n 0 d_Row_exchange_0 rfl rfl ?_
  refine gg_get f_Row_7 d_Row_exchange_1 hr.1 rfl ?_
  refine gg_iload_n 1 d_Row_exchange_4 rfl rfl ?_
  refine gg_iald d_Row_exchange_5 hr.2.1 hi (by omega) ?_
  refine gg_istore_n 3 d_Row_exchange_6 rfl (by decide) rfl ?_
  dsimp only [List.set]
  refine gg_aload_n 0 d_Row_exchange_7 rfl rfl ?_
  refine gg_get f_Row_7 d_Row_exchange_8 hr.1 rfl ?_
  refine gg_iload_n 1 d_Row_exchange_11 rfl rfl ?_
  refine gg_aload_n 0 d_Row_exchange_12 rfl rfl ?_
  refine gg_get f_Row_7 d_Row_exchange_13 hr.1 rfl ?_
  refine gg_iload_n 2 d_Row_exchange_16 rfl rfl ?_
  refine gg_iald d_Row_exchange_17 hr.2.1 hj (by omega) ?_
  refine gg_iast d_Row_exchange_18 hr.2.1 hi (by omega) ?_
  refine gg_aload_n 0 d_Row_exchange_19 rfl rfl ?_
  refine gg_get f_Row_7 d_Row_exchange_20 hq.1 rfl ?_
  refine gg_iload_n 2 d_Row_exchange_23 rfl rfl ?_
  refine gg_iload_n 3 d_Row_exchange_24 rfl rfl ?_
  refine gg_iast d_Row_exchange_25 hq.2.1 hj (by omega) ?_
  rw [List.set_set]
  exact gg_return d_Row_exchange_26 rfl ⟨rfl, rfl⟩
set_option maxHeartbeats 4000000 in
set_option maxRecDepth 100000 in
theorem c_Row_firstFrom {l : Launch} {D : va_G} {cA : ClassId} {d : Nat} {h : List gg_C} {r a N n : Nat} {f : Nat → Int32} {i0 : Nat} {v : Int32} (hr : gg_row h r a N n f) (hi0 : i0 ≤ n) : gg_K l D cA d y_Row_firstFrom b_Row_firstFrom 4 (some .int) [.ref r, .int (nI i0), .int v] h (gg_is (some (.int (sp_ff f v (n - i0) i0))) h) := by
  have hN := hr.2.2
  have loop : ∀ k : Nat, ∀ i, n - i = k → i ≤ n → gg_G l D cA d R_Row b_Row_firstFrom 4 (some .int) (gg_is (some (.int (sp_ff f v k i))) h) 2 [some (.ref r), some (.int (nI i0)), some (.int v), some (.int (nI i))] [] (h) := by
    intro k
    induction k with
    | zero =>
      intro i hk hi
      refine gg_iload_n 3 d_Row_firstFrom_2 rfl rfl ?_
      refine gg_aload_n 0 d_Row_firstFrom_3 rfl rfl ?_
      refine gg_get f_Row_13 d_Row_firstFrom_4 hr.1 rfl ?_
      refine gg_icmp_ge 28 d_Row_firstFrom_7 (by decide) (fun c7 => ?_) (fun c7 => ?_)
      · refine gg_iconst (v := (-1)) d_Row_firstFrom_28 (by decide) ?_
        exact gg_ireturn d_Row_firstFrom_29 rfl rfl ⟨rfl, rfl⟩
      · exact absurd (nI_le (by omega) (by omega)) c7
    | succ k ih =>
      intro i hk hi
      refine gg_iload_n 3 d_Row_firstFrom_2 rfl rfl ?_
      refine gg_aload_n 0 d_Row_firstFrom_3 rfl rfl ?_
      refine gg_get f_Row_13 d_Row_firstFrom_4 hr.1 rfl ?_
      refine gg_icmp_ge 28 d_Row_firstFrom_7 (by decide) (fun c7 => ?_) (fun c7 => ?_)
      · exact absurd c7 (nI_ge (by omega) (by omega))
      · refine gg_aload_n 0 d_Row_firstFrom_10 rfl rfl ?_
        refine gg_get f_Row_7 d_Row_firstFrom_11 hr.1 rfl ?_
        refine gg_iload_n 3 d_Row_firstFrom_14 rfl rfl ?_
        refine gg_iald d_Row_firstFrom_15 hr.2.1 (by omega) (by omega) ?_
        refine gg_iload_n 2 d_Row_firstFrom_16 rfl rfl ?_
        refine gg_icmp_ne 22 d_Row_firstFrom_17 (by decide) (fun c17 => ?_) (fun c17 => ?_)
        · rw [sp_ff_ne c17]
          refine gg_iinc (1) d_Row_firstFrom_22 rfl (by decide) (by decide) rfl ?_
          dsimp only [List.set]
          refine gg_goto 2 d_Row_firstFrom_25 (by decide) ?_
          rw [nI_1]
          exact ih (i + 1) (by omega) (by omega)
        · rw [sp_ff_is c17]
          refine gg_iload_n 3 d_Row_firstFrom_20 rfl rfl ?_
          exact gg_ireturn d_Row_firstFrom_21 rfl rfl ⟨rfl, rfl⟩
  refine gg_K.start (L := [some (.ref r), some (.int (nI i0)), some (.int v), none]) rfl (plainFor_of_name (by decide)) rfl (Nat.le_of_ble_eq_true rfl) ?_
  refine gg_iload_n 1 d_Row_firstFrom_0 rfl rfl ?_
  refine gg_istore_n 3 d_Row_firstFrom_1 rfl (by decide) rfl ?_
  dsimp only [List.set]
  exact loop (n - i0) i0 rfl hi0
set_option maxHeartbeats 4000000 in
set_option maxRecDepth 100000 in
theorem c_Row_lastUpTo {l : Launch} {D : va_G} {cA : ClassId} {d : Nat} {h : List gg_C} {r a N n : Nat} {f : Nat → Int32} {i0 : Nat} {v : Int32} (hr : gg_row h r a N n f) (hi0 : i0 ≤ N) : gg_K l D cA d y_Row_lastUpTo b_Row_lastUpTo 4 (some .int) [.ref r, .int (nI i0 - 1), .int v] h (gg_is (some (.int (sp_lf f v i0))) h) := by
  have hN := hr.2.2
  have loop : ∀ k : Nat, k ≤ i0 → gg_G l D cA d R_Row b_Row_lastUpTo 4 (some .int) (gg_is (some (.int (sp_lf f v k))) h) 2 [some (.ref r), some (.int (nI i0 - 1)), some (.int v), some (.int (nI k - 1))] [] (h) := by
    intro k
    induction k with
    | zero =>
      intro hk
      refine gg_iload_n 3 d_Row_lastUpTo_2 rfl rfl ?_
      refine gg_if_lt 24 d_Row_lastUpTo_3 (by decide) (fun c3 => ?_) (fun c3 => ?_)
      · refine gg_iconst (v := (-1)) d_Row_lastUpTo_24 (by decide) ?_
        exact gg_ireturn d_Row_lastUpTo_25 rfl rfl ⟨rfl, rfl⟩
      · exact absurd (by decide) c3
    | succ k ih =>
      intro hk
      rw [nI_pred]
      refine gg_iload_n 3 d_Row_lastUpTo_2 rfl rfl ?_
      refine gg_if_lt 24 d_Row_lastUpTo_3 (by decide) (fun c3 => ?_) (fun c3 => ?_)
      · exact absurd c3 (nI_pos (by omega))
      · refine gg_aload_n 0 d_Row_lastUpTo_6 rfl rfl ?_
        refine gg_get f_Row_7 d_Row_lastUpTo_7 hr.1 rfl ?_
        refine gg_iload_n 3 d_Row_lastUpTo_10 rfl rfl ?_
        refine gg_iald d_Row_lastUpTo_11 hr.2.1 (by omega) (by omega) ?_
        refine gg_iload_n 2 d_Row_lastUpTo_12 rfl rfl ?_
        refine gg_icmp_ne 18 d_Row_lastUpTo_13 (by decide) (fun c13 => ?_) (fun c13 => ?_)
        · rw [sp_lf_ne c13]
          refine gg_iinc (-1) d_Row_lastUpTo_18 rfl (by decide) (by decide) rfl ?_
          dsimp only [List.set]
          refine gg_goto 2 d_Row_lastUpTo_21 (by decide) ?_
          rw [sp_addm1]
          exact ih (by omega)
        · rw [sp_lf_is c13]
          refine gg_iload_n 3 d_Row_lastUpTo_16 rfl rfl ?_
          exact gg_ireturn d_Row_lastUpTo_17 rfl rfl ⟨rfl, rfl⟩
  refine gg_K.start (L := [some (.ref r), some (.int (nI i0 - 1)), some (.int v), none]) rfl (plainFor_of_name (by decide)) rfl (Nat.le_of_ble_eq_true rfl) ?_
  refine gg_iload_n 1 d_Row_lastUpTo_0 rfl rfl ?_
  refine gg_istore_n 3 d_Row_lastUpTo_1 rfl (by decide) rfl ?_
  dsimp only [List.set]
  exact loop i0 (Nat.le_refl i0)
set_option maxHeartbeats 4000000 in
set_option maxRecDepth 100000 in
theorem c_Row_howOften {l : Launch} {D : va_G} {cA : ClassId} {d : Nat} {h : List gg_C} {r a N n : Nat} {f : Nat → Int32} {v : Int32} (hr : gg_row h r a N n f) : gg_K l D cA d y_Row_howOften b_Row_howOften 4 (some .int) [.ref r, .int v] h (gg_is (some (.int (nI (sp_ct f v n)))) h) := by
  have hN := hr.2.2
  have loop : ∀ k : Nat, ∀ i, n - i = k → i ≤ n → gg_G l D cA d R_Row b_Row_howOften 4 (some .int) (gg_is (some (.int (nI (sp_ct f v n)))) h) 4 [some (.ref r), some (.int v), some (.int (nI (sp_ct f v i))), some (.int (nI i))] [] (h) := by
    intro k
    induction k with
    | zero =>
      intro i hk hi
      refine gg_iload_n 3 d_Row_howOften_4 rfl rfl ?_
      refine gg_aload_n 0 d_Row_howOften_5 rfl rfl ?_
      refine gg_get f_Row_13 d_Row_howOften_6 hr.1 rfl ?_
      refine gg_icmp_ge 31 d_Row_howOften_9 (by decide) (fun c9 => ?_) (fun c9 => ?_)
      · refine gg_iload_n 2 d_Row_howOften_31 rfl rfl ?_
        exact gg_ireturn d_Row_howOften_32 rfl rfl ⟨by rw [show i = n by omega], rfl⟩
      · exact absurd (nI_le (by omega) (by omega)) c9
    | succ k ih =>
      intro i hk hi
      refine gg_iload_n 3 d_Row_howOften_4 rfl rfl ?_
      refine gg_aload_n 0 d_Row_howOften_5 rfl rfl ?_
      refine gg_get f_Row_13 d_Row_howOften_6 hr.1 rfl ?_
      refine gg_icmp_ge 31 d_Row_howOften_9 (by decide) (fun c9 => ?_) (fun c9 => ?_)
      · exact absurd c9 (nI_ge (by omega) (by omega))
      · refine gg_aload_n 0 d_Row_howOften_12 rfl rfl ?_
        refine gg_get f_Row_7 d_Row_howOften_13 hr.1 rfl ?_
        refine gg_iload_n 3 d_Row_howOften_16 rfl rfl ?_
        refine gg_iald d_Row_howOften_17 hr.2.1 (by omega) (by omega) ?_
        refine gg_iload_n 1 d_Row_howOften_18 rfl rfl ?_
        refine gg_icmp_ne 25 d_Row_howOften_19 (by decide) (fun c19 => ?_) (fun c19 => ?_)
        · have hc : sp_ct f v (i + 1) = sp_ct f v i := if_neg c19
          refine gg_iinc (1) d_Row_howOften_25 rfl (by decide) (by decide) rfl ?_
          dsimp only [List.set]
          refine gg_goto 4 d_Row_howOften_28 (by decide) ?_
          simp only [nI_1]
          rw [← hc]
          exact ih (i + 1) (by omega) (by omega)
        · have hc : sp_ct f v (i + 1) = sp_ct f v i + 1 := if_pos c19
          refine gg_iinc (1) d_Row_howOften_22 rfl (by decide) (by decide) rfl ?_
          dsimp only [List.set]
          refine gg_iinc (1) d_Row_howOften_25 rfl (by decide) (by decide) rfl ?_
          dsimp only [List.set]
          refine gg_goto 4 d_Row_howOften_28 (by decide) ?_
          simp only [nI_1]
          rw [← hc]
          exact ih (i + 1) (by omega) (by omega)
  refine gg_K.start (L := [some (.ref r), some (.int v), none, none]) rfl (plainFor_of_name (by decide)) rfl (Nat.le_of_ble_eq_true rfl) ?_
  refine gg_iconst (v := 0) d_Row_howOften_0 (by decide) ?_
  refine gg_istore_n 2 d_Row_howOften_1 rfl (by decide) rfl ?_
  dsimp only [List.set]
  refine gg_iconst (v := 0) d_Row_howOften_2 (by decide) ?_
  refine gg_istore_n 3 d_Row_howOften_3 rfl (by decide) rfl ?_
  dsimp only [List.set]
  exact loop n 0 rfl (Nat.zero_le n)
set_option maxHeartbeats 4000000 in
set_option maxRecDepth 100000 in
theorem c_Row_standsAt {l : Launch} {D : va_G} {cA : ClassId} {d : Nat} {h : List gg_C} {r a N n : Nat} {f : Nat → Int32} {r2 a2 N2 n2 i0 : Nat} {g : Nat → Int32} (hr : gg_row h r a N n f) (hr2 : gg_row h r2 a2 N2 n2 g) (hi0 : i0 + n2 ≤ N) : gg_K l D cA d y_Row_standsAt b_Row_standsAt 4 (some .boolean) [.ref r, .int (nI i0), .ref r2] h (gg_is (some (.int (sp_b (sp_st f g n2 i0)))) h) := by
  have hN := hr.2.2
  have hN2 := hr2.2.2
  have loop : ∀ k : Nat, ∀ i, n2 - i = k → i ≤ n2 → (∀ j, j < i → f (i0 + j) = g j) → gg_G l D cA d R_Row b_Row_standsAt 4 (some .boolean) (gg_is (some (.int (sp_b (sp_st f g n2 i0)))) h) 2 [some (.ref r), some (.int (nI i0)), some (.ref r2), some (.int (nI i))] [] (h) := by
    intro k
    induction k with
    | zero =>
      intro i hk hi hj
      refine gg_iload_n 3 d_Row_standsAt_2 rfl rfl ?_
      refine gg_aload_n 2 d_Row_standsAt_3 rfl rfl ?_
      refine gg_get f_Row_13 d_Row_standsAt_4 hr2.1 rfl ?_
      refine gg_icmp_ge 35 d_Row_standsAt_7 (by decide) (fun c7 => ?_) (fun c7 => ?_)
      · rw [sp_bt (show sp_st f g n2 i0 from fun j q => hj j (by omega))]
        refine gg_iconst (v := 1) d_Row_standsAt_35 (by decide) ?_
        exact gg_ireturn d_Row_standsAt_36 rfl (by decide) ⟨rfl, rfl⟩
      · exact absurd (nI_le (by omega) (by omega)) c7
    | succ k ih =>
      intro i hk hi hj
      refine gg_iload_n 3 d_Row_standsAt_2 rfl rfl ?_
      refine gg_aload_n 2 d_Row_standsAt_3 rfl rfl ?_
      refine gg_get f_Row_13 d_Row_standsAt_4 hr2.1 rfl ?_
      refine gg_icmp_ge 35 d_Row_standsAt_7 (by decide) (fun c7 => ?_) (fun c7 => ?_)
      · exact absurd c7 (nI_ge (by omega) (by omega))
      · refine gg_aload_n 0 d_Row_standsAt_10 rfl rfl ?_
        refine gg_get f_Row_7 d_Row_standsAt_11 hr.1 rfl ?_
        refine gg_iload_n 1 d_Row_standsAt_14 rfl rfl ?_
        refine gg_iload_n 3 d_Row_standsAt_15 rfl rfl ?_
        refine gg_iadd d_Row_standsAt_16 ?_
        rw [nI_add]
        refine gg_iald d_Row_standsAt_17 hr.2.1 (by omega) (by omega) ?_
        refine gg_aload_n 2 d_Row_standsAt_18 rfl rfl ?_
        refine gg_get f_Row_7 d_Row_standsAt_19 hr2.1 rfl ?_
        refine gg_iload_n 3 d_Row_standsAt_22 rfl rfl ?_
        refine gg_iald d_Row_standsAt_23 hr2.2.1 (by omega) (by omega) ?_
        refine gg_icmp_eq 29 d_Row_standsAt_24 (by decide) (fun c24 => ?_) (fun c24 => ?_)
        · refine gg_iinc (1) d_Row_standsAt_29 rfl (by decide) (by decide) rfl ?_
          dsimp only [List.set]
          refine gg_goto 2 d_Row_standsAt_32 (by decide) ?_
          rw [nI_1]
          exact ih (i + 1) (by omega) (by omega) (lt_s hj c24)
        · rw [sp_bf (show ¬ sp_st f g n2 i0 from fun q => c24 (q i (by omega)))]
          refine gg_iconst (v := 0) d_Row_standsAt_27 (by decide) ?_
          exact gg_ireturn d_Row_standsAt_28 rfl (by decide) ⟨rfl, rfl⟩
  refine gg_K.start (L := [some (.ref r), some (.int (nI i0)), some (.ref r2), none]) rfl (plainFor_of_name (by decide)) rfl (Nat.le_of_ble_eq_true rfl) ?_
  refine gg_iconst (v := 0) d_Row_standsAt_0 (by decide) ?_
  refine gg_istore_n 3 d_Row_standsAt_1 rfl (by decide) rfl ?_
  dsimp only [List.set]
  exact loop n2 0 rfl (Nat.zero_le n2) lt_0
