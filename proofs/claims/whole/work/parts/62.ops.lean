theorem iv_h.mk {tN oN rN pN bN eN mW : Nat} {tF oF rF pF bF eF zT zO zX zB zL zR zP zQ : Nat → Int32} {lo : Int64} (h1 : tN ≤ 400) (h2 : sp_eq tN tF zT) (h3 : ck_o tF tN) (h4 : oN ≤ 536) (h5 : sp_eq oN oF zO) (h6 : rN ≤ 600) (h7 : sp_eq rN rF zR) (h8 : pN ≤ 600) (h9 : sp_eq pN pF zP) (hw : iv_w bN bF eN eF mW zX zB zL) : iv_h (hp tN tF oN oF rN rF pN pF bN bF eN eF lo tN oN mW rN pN zT zO zX zB zL zR zP zQ lo) :=
  ⟨_, _, _, _, _, _, _, _, _, _, _, _, _, _, _, _, _, _, _, _, _, _, _, _, _, _, _, rfl, rfl, h1, h2, h3, rfl, h4, h5, rfl, h6, h7, rfl, h8, h9, rfl, hw⟩
theorem iv_lit {o : Int32} (k : Nat) (hk : k < 2 ^ 31) (h : o.toInt = (k : Int)) : o = nI k := Int32.toInt_inj.mp (by rw [h, nI_toInt hk])
theorem iv_z0 (s : Int32) : s = 0 ↔ decide (s = 0) = true := by simp
set_option maxRecDepth 100000 in
theorem op_feed {l : Launch} {D : va_G} {cA : ClassId} {h : List gg_C} {x1 x2 x3 x4 x5 : Int32} (hv : iv_h h) : iv_I l D cA y_Dsk_feed b_Dsk_feed 6 (some .int) [.ref 0, .int x1, .int x2, .int x3, .int x4, .int x5] y_Mdl_feed b_Mdl_feed 6 (some .int) [.ref 14, .int x1, .int x2, .int x3, .int x4, .int x5] h := by
  obtain ⟨tN, tF, oN, oF, rN, rF, pN, pF, bN, bF, eN, eF, lo, mT, mO, mW, mR, mP, zT, zO, zX, zB, zL, zR, zP, zQ, lm, rfl, I⟩ := hv
  obtain ⟨rfl, hT, qT, oT, rfl, hO, qO, rfl, hR, qR, rfl, hP, qP, rfl, hw⟩ := I
  by_cases ht : tN + 20 ≤ 400
  · exact iv_I.mk (c_Dsk_feed (d := 4) ht (by omega)) ⟨_, rfl⟩ (c_Mdl_feed (d := 4) ht (by omega)) (iv_h.mk (by omega) (iv_fd (iv_fd (iv_fd (iv_fd (iv_fd qT _) _) _) _) _) (iv_fdo (iv_fdo (iv_fdo (iv_fdo (iv_fdo oT _) _) _) _) _) hO qO hR qR hP qP hw)
  · exact iv_I.mk (c_Dsk_feed_full (d := 4) ht hT (by omega)) ⟨_, rfl⟩ (c_Mdl_feed_full (d := 4) ht hT) (iv_h.mk hT qT oT hO qO hR qR hP qP hw)
set_option maxRecDepth 100000 in
theorem op_end {l : Launch} {D : va_G} {cA : ClassId} {h : List gg_C} {x : Int32} (hv : iv_h h) : iv_I l D cA y_Dsk_end b_Dsk_end 2 (some .int) [.ref 0, .int x] y_Mdl_end b_Mdl_end 2 (some .int) [.ref 14, .int x] h := by
  obtain ⟨tN, tF, oN, oF, rN, rF, pN, pF, bN, bF, eN, eF, lo, mT, mO, mW, mR, mP, zT, zO, zX, zB, zL, zR, zP, zQ, lm, rfl, I⟩ := hv
  obtain ⟨rfl, hT, qT, oT, rfl, hO, qO, rfl, hR, qR, rfl, hP, qP, rfl, hw⟩ := I
  by_cases hx : 0 ≤ x.toInt ∧ x.toInt ≤ (tN : Int)
  · obtain ⟨j, hj, rfl⟩ := sp_in_nI (n := tN + 1) ⟨hx.1, by omega⟩ (by omega)
    exact iv_I.mk (c_Dsk_end (d := 4) (by omega) hT (by omega)) ⟨_, rfl⟩ (c_Mdl_end (d := 4) (by omega) hT) (iv_h.mk (by omega) (fun k hk => qT k (by omega)) (fun k hk => oT k (by omega)) hO qO hR qR hP qP hw)
  · exact iv_I.mk (c_Dsk_end_bad (d := 4) hx hT (by omega)) ⟨_, rfl⟩ (c_Mdl_end_bad (d := 4) hx hT) (iv_h.mk hT qT oT hO qO hR qR hP qP hw)
set_option maxRecDepth 100000 in
theorem op_write {l : Launch} {D : va_G} {cA : ClassId} {h : List gg_C} {s t : Int32} (hv : iv_h h) : iv_I l D cA y_Dsk_write b_Dsk_write 4 (some .int) [.ref 0, .int s, .int t] y_Mdl_write b_Mdl_write 6 (some .int) [.ref 14, .int s, .int t] h := by
  obtain ⟨tN, tF, oN, oF, rN, rF, pN, pF, bN, bF, eN, eF, lo, mT, mO, mW, mR, mP, zT, zO, zX, zB, zL, zR, zP, zQ, lm, rfl, I⟩ := hv
  obtain ⟨rfl, hT, qT, oT, rfl, hO, qO, rfl, hR, qR, rfl, hP, qP, rfl, hw⟩ := I
  have hM5 : wr_M tN t ≤ 536 := by
    have hK : wr_K tN ≤ 534 := by unfold wr_K; omega
    unfold wr_M
    split <;> omega
  exact iv_I.mk (c_Dsk_write (d := 4) (iv_z0 s) hT hO oT (by omega)) ⟨_, rfl⟩ (c_Mdl_write (d := 4) (iv_z0 s) hT (iv_cko qT oT) (by omega)) (iv_h.mk hT qT oT hM5 (iv_wrF qT _ _) hR qR hP qP hw)
set_option maxRecDepth 100000 in
theorem op_read {l : Launch} {D : va_G} {cA : ClassId} {h : List gg_C} {s : Int32} (hv : iv_h h) : iv_I l D cA y_Dsk_read b_Dsk_read 3 (some .int) [.ref 0, .int s] y_Mdl_read b_Mdl_read 9 (some .int) [.ref 14, .int s] h := by
  obtain ⟨tN, tF, oN, oF, rN, rF, pN, pF, bN, bF, eN, eF, lo, mT, mO, mW, mR, mP, zT, zO, zX, zB, zL, zR, zP, zQ, lm, rfl, I⟩ := hv
  obtain ⟨rfl, hT, qT, oT, rfl, hO, qO, rfl, hR, qR, rfl, hP, qP, rfl, hw⟩ := I
  have hql := (rd_l_le tF (decide (s = 0)) tN 0).2
  have hq := (iv_rdl qT (decide (s = 0)) tN 0 (by omega)).symm
  by_cases hok : rd_ok tF tN (rd_l tF (decide (s = 0)) tN 0)
  · have hqo : sp_eq (rd_l tF (decide (s = 0)) tN 0 - (rd_l tF (decide (s = 0)) tN 0 + 3) / 4) (rd_F oF (rd_w tF (decide (s = 0))) (rd_l tF (decide (s = 0)) tN 0 - (rd_l tF (decide (s = 0)) tN 0 + 3) / 4)) (rd_F zO (rd_w zT (decide (s = 0))) (rd_l tF (decide (s = 0)) tN 0 - (rd_l tF (decide (s = 0)) tN 0 + 3) / 4)) := fun k hk => by
      unfold rd_F
      rw [if_pos hk, if_pos hk, iv_rdh (n := rd_l tF (decide (s = 0)) tN 0) (fun j hj => iv_rdw qT _ j (by omega)) 8 (by omega)]
    exact iv_I.mk (c_Dsk_read (d := 4) (iv_z0 s) hT hO oT rfl hok (by omega)) ⟨_, rfl⟩ (c_Mdl_read (d := 4) (iv_z0 s) hT (iv_cko qT oT) hq (iv_rok qT hok) (by omega)) (iv_h.mk hT qT oT (by omega) hqo hR qR hP qP hw)
  · exact iv_I.mk (c_Dsk_read_bad (d := 4) (iv_z0 s) hT hO oT rfl hok (by omega)) ⟨_, rfl⟩ (c_Mdl_read_bad (d := 4) (iv_z0 s) hT (iv_cko qT oT) hq (fun y => hok (iv_rok (iv_sy qT) y)) (by omega)) (iv_h.mk hT qT oT hO qO hR qR hP qP hw)
set_option maxRecDepth 100000 in
theorem op_check {l : Launch} {D : va_G} {cA : ClassId} {h : List gg_C} {x y : Int32} (hv : iv_h h) : iv_L l D cA y_Dsk_check b_Dsk_check 6 (some .long) [.ref 0, .int x, .int y] y_Mdl_check b_Mdl_check 8 (some .long) [.ref 14, .int x, .int y] h := by
  obtain ⟨tN, tF, oN, oF, rN, rF, pN, pF, bN, bF, eN, eF, lo, mT, mO, mW, mR, mP, zT, zO, zX, zB, zL, zR, zP, zQ, lm, rfl, I⟩ := hv
  obtain ⟨rfl, hT, qT, oT, rfl, hO, qO, rfl, hR, qR, rfl, hP, qP, rfl, hw⟩ := I
  by_cases hx : 0 ≤ x.toInt ∧ x.toInt ≤ y.toInt ∧ y.toInt ≤ (tN : Int)
  · obtain ⟨i, hi, rfl⟩ := sp_in_nI (x := x) (n := tN + 1) ⟨hx.1, by omega⟩ (by omega)
    obtain ⟨j, hj, rfl⟩ := sp_in_nI (x := y) (n := tN + 1) ⟨by omega, by omega⟩ (by omega)
    have hij := hx.2.1
    rw [nI_toInt (by omega), nI_toInt (by omega)] at hij
    exact iv_L.mk (c_Dsk_check (d := 4) (by omega) (by omega) hT oT (by omega)) ⟨_, rfl⟩ (iv_ans (by rw [iv_cka (n := tN) (fun q hq => iv_ckb qT q hq) (j - i) i 4294967295 (by omega)]) (c_Mdl_check (d := 4) (by omega) (by omega) hT (iv_cko qT oT))) (iv_h.mk hT qT oT hO qO hR qR hP qP hw)
  · exact iv_L.mk (c_Dsk_check_bad (d := 4) hx hT (by omega)) ⟨_, rfl⟩ (c_Mdl_check_bad (d := 4) hx hT) (iv_h.mk hT qT oT hO qO hR qR hP qP hw)
set_option maxRecDepth 100000 in
theorem op_words {l : Launch} {D : va_G} {cA : ClassId} {h : List gg_C} {a b c t : Int32} (hv : iv_h h) : iv_I l D cA y_Dsk_words b_Dsk_words 5 (some .int) [.ref 0, .int a, .int b, .int c, .int t] y_Mdl_words b_Mdl_words 8 (some .int) [.ref 14, .int a, .int b, .int c, .int t] h := by
  obtain ⟨tN, tF, oN, oF, rN, rF, pN, pF, bN, bF, eN, eF, lo, mT, mO, mW, mR, mP, zT, zO, zX, zB, zL, zR, zP, zQ, lm, rfl, I⟩ := hv
  obtain ⟨rfl, hT, qT, oT, rfl, hO, qO, rfl, hR, qR, rfl, hP, qP, rfl, hw⟩ := I
  obtain ⟨hw1, hw2, hw3, hw4⟩ := id hw
  by_cases hx : (0 ≤ a.toInt ∧ a.toInt ≤ 127) ∧ (0 ≤ b.toInt ∧ b.toInt ≤ 127) ∧ (0 ≤ c.toInt ∧ c.toInt ≤ 127)
  · refine ⟨_, c_Dsk_words (d := 4) hx.1 hx.2.1 hx.2.2 hT hw2 hw3 (by omega), fun r h1 hq => ?_⟩
    obtain ⟨b1, f1, e1, g1, rfl, rfl, hRl⟩ := hq
    have hE := iv_wd qT a b c t tN (Nat.le_refl _)
    rw [hE] at hRl
    obtain ⟨Wf, bgf, lnf, gf, hS⟩ : ∃ Wf bgf lnf gf, wd_close tN (wd zT a b c t tN) = (Wf, bgf, lnf, gf) := ⟨_, _, _, _, rfl⟩
    rw [hS] at hRl
    have hpre := hRl.pre
    obtain ⟨k1, k2, k3, k4, k5, k6, k7⟩ := hRl
    dsimp only at k1 k2 k3 k4 k5 k6 k7
    subst k1
    refine ⟨nI e1, _, rfl, ⟨_, rfl⟩, c_Mdl_words (d := 4) hx.1 hx.2.1 hx.2.2 hS hT (by omega), iv_h.mk hT qT oT hO qO hR qR hP qP ⟨rfl, by omega, by omega, bgf, lnf, fun j hj => ?_⟩⟩
    obtain ⟨m1, m2, m3, m4⟩ := k7 j hj
    have hmono := wd_st_mono lnf (e1 - (j + 1)) (j + 1)
    rw [show j + 1 + (e1 - (j + 1)) = e1 by omega] at hmono
    refine ⟨if_pos hj, if_pos hj, m1, by omega, by omega, fun i hi => ?_⟩
    rw [m4 i hi, qT _ (by omega)]
    unfold mo_cp
    rw [if_pos (by omega)]
  · exact iv_I.mk (c_Dsk_words_bad (d := 4) hx (by omega)) ⟨_, rfl⟩ (c_Mdl_words_bad (d := 4) hx (by omega)) (iv_h.mk hT qT oT hO qO hR qR hP qP hw)
set_option maxRecDepth 100000 in
theorem op_word {l : Launch} {D : va_G} {cA : ClassId} {h : List gg_C} {x : Int32} (hv : iv_h h) : iv_I l D cA y_Dsk_word b_Dsk_word 2 (some .int) [.ref 0, .int x] y_Mdl_word2 b_Mdl_word2 3 (some .int) [.ref 14, .int x] h := by
  obtain ⟨tN, tF, oN, oF, rN, rF, pN, pF, bN, bF, eN, eF, lo, mT, mO, mW, mR, mP, zT, zO, zX, zB, zL, zR, zP, zQ, lm, rfl, I⟩ := hv
  obtain ⟨rfl, hT, qT, oT, rfl, hO, qO, rfl, hR, qR, rfl, hP, qP, rfl, hw⟩ := I
  obtain ⟨hw1, hw2, hw3, bg, ln, hw4⟩ := id hw
  subst hw1
  by_cases hx : sp_in x eN
  · obtain ⟨k, hk, rfl⟩ := sp_in_nI hx (by omega)
    obtain ⟨m1, m2, m3, m4, m5, m6⟩ := hw4 k hk
    have hs : nI (wd_st ln k) = if k = 0 then 0 else eF (k - 1) := by
      by_cases h0 : k = 0
      · rw [if_pos h0, h0]
        exact nI_0
      · rw [if_neg h0, (hw4 (k - 1) (by omega)).2.2.1, show k - 1 + 1 = k by omega]
    have hst : wd_st ln (k + 1) = wd_st ln k + ln k := rfl
    have hqo : sp_eq (0 + (wd_st ln (k + 1) - wd_st ln k)) (va_cpy bF oF (wd_st ln k) 0 (wd_st ln (k + 1) - wd_st ln k)) (wd_cp zO zX (bg k) (ln k)) := fun j hj => by
      unfold va_cpy wd_cp
      rw [if_pos (by omega), if_pos (by omega), Nat.sub_zero, m6 j (by omega)]
    have e0 : 0 + (wd_st ln (k + 1) - wd_st ln k) = ln k := by omega
    refine ⟨_, c_Dsk_word (d := 4) hs m3 hk hw3 (by omega) m4 hw2 hO (by omega), fun r h1 hq => ?_⟩
    obtain ⟨rfl, rfl⟩ := hq
    rw [e0] at hqo ⊢
    exact ⟨_, _, rfl, ⟨_, rfl⟩, c_Mdl_word2 (d := 4) hk m2 m1 hw3 m5, iv_h.mk hT qT oT (by omega) hqo hR qR hP qP hw⟩
  · exact iv_I.mk (c_Dsk_word_bad (d := 4) hx hw3 (by omega)) ⟨_, rfl⟩ (c_Mdl_word2_bad (d := 4) hx hw3) (iv_h.mk hT qT oT hO qO hR qR hP qP hw)
set_option maxRecDepth 100000 in
theorem op_octet {l : Launch} {D : va_G} {cA : ClassId} {h : List gg_C} {x : Int32} (hv : iv_h h) : iv_I l D cA y_Dsk_octet b_Dsk_octet 2 (some .int) [.ref 0, .int x] y_Mdl_octet b_Mdl_octet 2 (some .int) [.ref 14, .int x] h := by
  obtain ⟨tN, tF, oN, oF, rN, rF, pN, pF, bN, bF, eN, eF, lo, mT, mO, mW, mR, mP, zT, zO, zX, zB, zL, zR, zP, zQ, lm, rfl, I⟩ := hv
  obtain ⟨rfl, hT, qT, oT, rfl, hO, qO, rfl, hR, qR, rfl, hP, qP, rfl, hw⟩ := I
  by_cases hm : x = -1
  · subst hm
    exact iv_I.mk (c_Dsk_octet_all (d := 4) hO (by omega)) ⟨_, rfl⟩ (c_Mdl_octet_all (d := 4)) (iv_h.mk hT qT oT hO qO hR qR hP qP hw)
  · by_cases hx : sp_in x oN
    · obtain ⟨j, hj, rfl⟩ := sp_in_nI hx (by omega)
      exact iv_I.mk (c_Dsk_octet (d := 4) hj hO (by omega)) ⟨_, rfl⟩ (iv_ans (by rw [qO j hj]) (c_Mdl_octet (d := 4) hj hO)) (iv_h.mk hT qT oT hO qO hR qR hP qP hw)
    · exact iv_I.mk (c_Dsk_octet_bad (d := 4) hm hx hO (by omega)) ⟨_, rfl⟩ (c_Mdl_octet_bad (d := 4) hm hx hO) (iv_h.mk hT qT oT hO qO hR qR hP qP hw)
set_option maxRecDepth 100000 in
theorem op_seed {l : Launch} {D : va_G} {cA : ClassId} {h : List gg_C} {v : Int64} (hv : iv_h h) : iv_L l D cA y_Dsk_seed b_Dsk_seed 5 (some .long) [.ref 0, .long v] y_Mdl_seed b_Mdl_seed 5 (some .long) [.ref 14, .long v] h := by
  obtain ⟨tN, tF, oN, oF, rN, rF, pN, pF, bN, bF, eN, eF, lo, mT, mO, mW, mR, mP, zT, zO, zX, zB, zL, zR, zP, zQ, lm, rfl, I⟩ := hv
  obtain ⟨rfl, hT, qT, oT, rfl, hO, qO, rfl, hR, qR, rfl, hP, qP, rfl, hw⟩ := I
  exact iv_L.mk (c_Dsk_seed (d := 4)) ⟨_, rfl⟩ (c_Mdl_seed (d := 4)) (iv_h.mk hT qT oT hO qO hR qR hP qP hw)
set_option maxRecDepth 100000 in
theorem op_draw {l : Launch} {D : va_G} {cA : ClassId} {h : List gg_C}  (hv : iv_h h) : iv_L l D cA y_Dsk_draw b_Dsk_draw 3 (some .long) [.ref 0] y_Mdl_draw b_Mdl_draw 3 (some .long) [.ref 14] h := by
  obtain ⟨tN, tF, oN, oF, rN, rF, pN, pF, bN, bF, eN, eF, lo, mT, mO, mW, mR, mP, zT, zO, zX, zB, zL, zR, zP, zQ, lm, rfl, I⟩ := hv
  obtain ⟨rfl, hT, qT, oT, rfl, hO, qO, rfl, hR, qR, rfl, hP, qP, rfl, hw⟩ := I
  exact iv_L.mk (c_Dsk_draw (d := 4)) ⟨_, rfl⟩ (c_Mdl_draw (d := 4)) (iv_h.mk hT qT oT hO qO hR qR hP qP hw)
set_option maxRecDepth 100000 in
theorem op_push {l : Launch} {D : va_G} {cA : ClassId} {h : List gg_C} {x : Int32} (hv : iv_h h) : iv_I l D cA y_Dsk_push b_Dsk_push 2 (some .int) [.ref 0, .int x] y_Mdl_push b_Mdl_push 2 (some .int) [.ref 14, .int x] h := by
  obtain ⟨tN, tF, oN, oF, rN, rF, pN, pF, bN, bF, eN, eF, lo, mT, mO, mW, mR, mP, zT, zO, zX, zB, zL, zR, zP, zQ, lm, rfl, I⟩ := hv
  obtain ⟨rfl, hT, qT, oT, rfl, hO, qO, rfl, hR, qR, rfl, hP, qP, rfl, hw⟩ := I
  by_cases h0 : pN = 600
  · exact iv_I.mk (c_Dsk_push_full (d := 4) h0 (by omega)) ⟨_, rfl⟩ (c_Mdl_push_full (d := 4) h0) (iv_h.mk hT qT oT hO qO hR qR hP qP hw)
  · exact iv_I.mk (c_Dsk_push (d := 4) (by omega) (by omega)) ⟨_, rfl⟩ (c_Mdl_push (d := 4) (by omega)) (iv_h.mk hT qT oT hO qO hR qR (by omega) (iv_push qP x) hw)
set_option maxRecDepth 100000 in
theorem op_pop {l : Launch} {D : va_G} {cA : ClassId} {h : List gg_C} {s : Int32} (hv : iv_h h) : iv_L l D cA y_Dsk_pop b_Dsk_pop 4 (some .long) [.ref 0, .int s] y_Mdl_pop b_Mdl_pop 2 (some .long) [.ref 14, .int s] h := by
  obtain ⟨tN, tF, oN, oF, rN, rF, pN, pF, bN, bF, eN, eF, lo, mT, mO, mW, mR, mP, zT, zO, zX, zB, zL, zR, zP, zQ, lm, rfl, I⟩ := hv
  obtain ⟨rfl, hT, qT, oT, rfl, hO, qO, rfl, hR, qR, rfl, hP, qP, rfl, hw⟩ := I
  by_cases h0 : pN = 0
  · exact iv_L.mk (c_Dsk_pop_none (d := 4) h0 (by omega)) ⟨_, rfl⟩ (c_Mdl_pop_none (d := 4) h0) (iv_h.mk hT qT oT hO qO hR qR hP qP hw)
  · have e := qP (pN - 1) (by omega)
    by_cases hs : s = 0
    · exact iv_L.mk (c_Dsk_pop (d := 4) (by omega) hP hs (by omega)) ⟨_, rfl⟩ (iv_ans (by rw [e]) (c_Mdl_pop (d := 4) (by omega) hP hs)) (iv_h.mk hT qT oT hO qO hR qR (by omega) (fun k hk => qP k (by omega)) hw)
    · exact iv_L.mk (c_Dsk_pop_stays (d := 4) (by omega) hP hs (by omega)) ⟨_, rfl⟩ (iv_ans (by rw [e]) (c_Mdl_pop_stays (d := 4) (by omega) hP hs)) (iv_h.mk hT qT oT hO qO hR qR hP qP hw)
set_option maxRecDepth 100000 in
theorem op_search {l : Launch} {D : va_G} {cA : ClassId} {h : List gg_C} {v : Int32} (hv : iv_h h) : iv_I l D cA y_Dsk_search b_Dsk_search 3 (some .int) [.ref 0, .int v] y_Mdl_search b_Mdl_search 4 (some .int) [.ref 14, .int v] h := by
  obtain ⟨tN, tF, oN, oF, rN, rF, pN, pF, bN, bF, eN, eF, lo, mT, mO, mW, mR, mP, zT, zO, zX, zB, zL, zR, zP, zQ, lm, rfl, I⟩ := hv
  obtain ⟨rfl, hT, qT, oT, rfl, hO, qO, rfl, hR, qR, rfl, hP, qP, rfl, hw⟩ := I
  exact iv_I.mk (c_Dsk_search (d := 4) hP (by omega)) ⟨_, rfl⟩ (iv_ans (by rw [mo_se_lf _ _ _ _ (by omega), sp_lf_eq qP v pN (Nat.le_refl _)]) (c_Mdl_search (d := 4) hP)) (iv_h.mk hT qT oT hO qO hR qR hP qP hw)
set_option maxRecDepth 100000 in
theorem op_insert {l : Launch} {D : va_G} {cA : ClassId} {h : List gg_C} {y x : Int32} (hv : iv_h h) : iv_I l D cA y_Dsk_insert b_Dsk_insert 3 (some .int) [.ref 0, .int y, .int x] y_Mdl_insert b_Mdl_insert 4 (some .int) [.ref 14, .int y, .int x] h := by
  obtain ⟨tN, tF, oN, oF, rN, rF, pN, pF, bN, bF, eN, eF, lo, mT, mO, mW, mR, mP, zT, zO, zX, zB, zL, zR, zP, zQ, lm, rfl, I⟩ := hv
  obtain ⟨rfl, hT, qT, oT, rfl, hO, qO, rfl, hR, qR, rfl, hP, qP, rfl, hw⟩ := I
  by_cases hx : 0 ≤ y.toInt ∧ y.toInt ≤ (rN : Int)
  · obtain ⟨i, hi, rfl⟩ := sp_in_nI (n := rN + 1) ⟨hx.1, by omega⟩ (by omega)
    by_cases h0 : rN = 600
    · exact iv_I.mk (c_Dsk_insert_full (d := 4) (by omega) h0 (by omega)) ⟨_, rfl⟩ (c_Mdl_insert_full (d := 4) (by omega) h0) (iv_h.mk hT qT oT hO qO hR qR hP qP hw)
    · exact iv_I.mk (c_Dsk_insert (d := 4) (by omega) (by omega) (by omega)) ⟨_, rfl⟩ (c_Mdl_insert (d := 4) (by omega) (by omega)) (iv_h.mk hT qT oT hO qO (by omega) (iv_ins qR (by omega) x) hP qP hw)
  · exact iv_I.mk (c_Dsk_insert_bad (d := 4) hx hR (by omega)) ⟨_, rfl⟩ (c_Mdl_insert_bad (d := 4) hx hR) (iv_h.mk hT qT oT hO qO hR qR hP qP hw)
set_option maxRecDepth 100000 in
theorem op_remove {l : Launch} {D : va_G} {cA : ClassId} {h : List gg_C} {y : Int32} (hv : iv_h h) : iv_L l D cA y_Dsk_remove b_Dsk_remove 3 (some .long) [.ref 0, .int y] y_Mdl_remove b_Mdl_remove 4 (some .long) [.ref 14, .int y] h := by
  obtain ⟨tN, tF, oN, oF, rN, rF, pN, pF, bN, bF, eN, eF, lo, mT, mO, mW, mR, mP, zT, zO, zX, zB, zL, zR, zP, zQ, lm, rfl, I⟩ := hv
  obtain ⟨rfl, hT, qT, oT, rfl, hO, qO, rfl, hR, qR, rfl, hP, qP, rfl, hw⟩ := I
  by_cases hx : sp_in y rN
  · obtain ⟨j, hj, rfl⟩ := sp_in_nI hx (by omega)
    exact iv_L.mk (c_Dsk_remove (d := 4) hj hR (by omega)) ⟨_, rfl⟩ (iv_ans (by rw [qR j hj]) (c_Mdl_remove (d := 4) hj hR (by omega))) (iv_h.mk hT qT oT hO qO (by omega) (iv_del qR hj) hP qP hw)
  · exact iv_L.mk (c_Dsk_remove_bad (d := 4) hx hR (by omega)) ⟨_, rfl⟩ (c_Mdl_remove_bad (d := 4) hx hR (by omega)) (iv_h.mk hT qT oT hO qO hR qR hP qP hw)
set_option maxRecDepth 100000 in
theorem op_set {l : Launch} {D : va_G} {cA : ClassId} {h : List gg_C} {y x : Int32} (hv : iv_h h) : iv_L l D cA y_Dsk_set b_Dsk_set 4 (some .long) [.ref 0, .int y, .int x] y_Mdl_set b_Mdl_set 4 (some .long) [.ref 14, .int y, .int x] h := by
  obtain ⟨tN, tF, oN, oF, rN, rF, pN, pF, bN, bF, eN, eF, lo, mT, mO, mW, mR, mP, zT, zO, zX, zB, zL, zR, zP, zQ, lm, rfl, I⟩ := hv
  obtain ⟨rfl, hT, qT, oT, rfl, hO, qO, rfl, hR, qR, rfl, hP, qP, rfl, hw⟩ := I
  by_cases hx : sp_in y rN
  · obtain ⟨j, hj, rfl⟩ := sp_in_nI hx (by omega)
    exact iv_L.mk (c_Dsk_set (d := 4) hj hR (by omega)) ⟨_, rfl⟩ (iv_ans (by rw [qR j hj]) (c_Mdl_set (d := 4) hj hR (by omega))) (iv_h.mk hT qT oT hO qO hR (iv_upd qR j x) hP qP hw)
  · exact iv_L.mk (c_Dsk_set_bad (d := 4) hx hR (by omega)) ⟨_, rfl⟩ (c_Mdl_set_bad (d := 4) hx hR (by omega)) (iv_h.mk hT qT oT hO qO hR qR hP qP hw)
set_option maxRecDepth 100000 in
theorem op_get {l : Launch} {D : va_G} {cA : ClassId} {h : List gg_C} {y : Int32} (hv : iv_h h) : iv_L l D cA y_Dsk_get b_Dsk_get 2 (some .long) [.ref 0, .int y] y_Mdl_get b_Mdl_get 2 (some .long) [.ref 14, .int y] h := by
  obtain ⟨tN, tF, oN, oF, rN, rF, pN, pF, bN, bF, eN, eF, lo, mT, mO, mW, mR, mP, zT, zO, zX, zB, zL, zR, zP, zQ, lm, rfl, I⟩ := hv
  obtain ⟨rfl, hT, qT, oT, rfl, hO, qO, rfl, hR, qR, rfl, hP, qP, rfl, hw⟩ := I
  by_cases hx : sp_in y rN
  · obtain ⟨j, hj, rfl⟩ := sp_in_nI hx (by omega)
    exact iv_L.mk (c_Dsk_get (d := 4) hj hR (by omega)) ⟨_, rfl⟩ (iv_ans (by rw [qR j hj]) (c_Mdl_get (d := 4) hj hR (by omega))) (iv_h.mk hT qT oT hO qO hR qR hP qP hw)
  · exact iv_L.mk (c_Dsk_get_bad (d := 4) hx hR (by omega)) ⟨_, rfl⟩ (c_Mdl_get_bad (d := 4) hx hR (by omega)) (iv_h.mk hT qT oT hO qO hR qR hP qP hw)
set_option maxRecDepth 100000 in
theorem op_find {l : Launch} {D : va_G} {cA : ClassId} {h : List gg_C} {v y s : Int32} (hv : iv_h h) : iv_I l D cA y_Dsk_find b_Dsk_find 5 (some .int) [.ref 0, .int v, .int y, .int s] y_Mdl_find b_Mdl_find 6 (some .int) [.ref 14, .int v, .int y, .int s] h := by
  obtain ⟨tN, tF, oN, oF, rN, rF, pN, pF, bN, bF, eN, eF, lo, mT, mO, mW, mR, mP, zT, zO, zX, zB, zL, zR, zP, zQ, lm, rfl, I⟩ := hv
  obtain ⟨rfl, hT, qT, oT, rfl, hO, qO, rfl, hR, qR, rfl, hP, qP, rfl, hw⟩ := I
  by_cases hx : sp_in y rN
  · obtain ⟨j, hj, rfl⟩ := sp_in_nI hx (by omega)
    by_cases hs : s = 0
    · have e : mo_ff zR v j rN = sp_ff rF v (rN - j) j := by
        have := mo_ff_sp zR v j (rN - j) (by omega)
        rw [show j + (rN - j) = rN by omega] at this
        rw [this, sp_ff_eq qR v (rN - j) j (by omega)]
      exact iv_I.mk (c_Dsk_find_first (d := 4) hs hj hR (by omega)) ⟨_, rfl⟩ (iv_ans (by rw [e]) (c_Mdl_find_first (d := 4) hs hj hR (by omega))) (iv_h.mk hT qT oT hO qO hR qR hP qP hw)
    · have e : mo_fl zR v j rN = sp_lf rF v (j + 1) := by
        have := mo_fl_lf zR v j (rN - (j + 1))
        rw [show j + 1 + (rN - (j + 1)) = rN by omega] at this
        rw [this, sp_lf_eq qR v (j + 1) (by omega)]
      exact iv_I.mk (c_Dsk_find_last (d := 4) hs hj hR (by omega)) ⟨_, rfl⟩ (iv_ans (by rw [e]) (c_Mdl_find_last (d := 4) hs hj hR (by omega))) (iv_h.mk hT qT oT hO qO hR qR hP qP hw)
  · exact iv_I.mk (c_Dsk_find_bad (d := 4) hx hR (by omega)) ⟨_, rfl⟩ (c_Mdl_find_bad (d := 4) hx hR (by omega)) (iv_h.mk hT qT oT hO qO hR qR hP qP hw)
set_option maxRecDepth 100000 in
theorem op_size {l : Launch} {D : va_G} {cA : ClassId} {h : List gg_C} {y : Int32} (hv : iv_h h) : iv_I l D cA y_Dsk_size b_Dsk_size 2 (some .int) [.ref 0, .int y] y_Mdl_size b_Mdl_size 2 (some .int) [.ref 14, .int y] h := by
  obtain ⟨tN, tF, oN, oF, rN, rF, pN, pF, bN, bF, eN, eF, lo, mT, mO, mW, mR, mP, zT, zO, zX, zB, zL, zR, zP, zQ, lm, rfl, I⟩ := hv
  obtain ⟨rfl, hT, qT, oT, rfl, hO, qO, rfl, hR, qR, rfl, hP, qP, rfl, hw⟩ := I
  by_cases hx : 0 ≤ y.toInt ∧ y.toInt ≤ 600
  · obtain ⟨n, hn, rfl⟩ := sp_in_nI (n := 601) ⟨hx.1, by omega⟩ (by omega)
    exact iv_I.mk (c_Dsk_size (d := 4) (by omega) hR (by omega)) ⟨_, rfl⟩ (c_Mdl_size (d := 4) (by omega) hR) (iv_h.mk hT qT oT hO qO (by omega) (iv_z qR) hP qP hw)
  · exact iv_I.mk (c_Dsk_size_bad (d := 4) hx hR (by omega)) ⟨_, rfl⟩ (c_Mdl_size_bad (d := 4) hx hR) (iv_h.mk hT qT oT hO qO hR qR hP qP hw)
set_option maxRecDepth 100000 in
theorem op_turn {l : Launch} {D : va_G} {cA : ClassId} {h : List gg_C} {y x : Int32} (hv : iv_h h) : iv_I l D cA y_Dsk_turn b_Dsk_turn 3 (some .int) [.ref 0, .int y, .int x] y_Mdl_turn b_Mdl_turn 4 (some .int) [.ref 14, .int y, .int x] h := by
  obtain ⟨tN, tF, oN, oF, rN, rF, pN, pF, bN, bF, eN, eF, lo, mT, mO, mW, mR, mP, zT, zO, zX, zB, zL, zR, zP, zQ, lm, rfl, I⟩ := hv
  obtain ⟨rfl, hT, qT, oT, rfl, hO, qO, rfl, hR, qR, rfl, hP, qP, rfl, hw⟩ := I
  rcases (show (y.toInt < 0 ∨ 3 < y.toInt) ∨ y.toInt = 0 ∨ y.toInt = 1 ∨ y.toInt = 2 ∨ y.toInt = 3 by omega) with hx | hx | hx | hx | hx
  · exact iv_I.mk (c_Dsk_turn_bad (d := 4) hx) ⟨_, rfl⟩ (c_Mdl_turn_bad (d := 4) hx) (iv_h.mk hT qT oT hO qO hR qR hP qP hw)
  · obtain rfl : y = 0 := Int32.toInt_inj.mp (by rw [hx]; decide)
    exact iv_I.mk (c_Dsk_turn0 (d := 4) hR (by omega)) ⟨_, rfl⟩ (c_Mdl_turn0 (d := 4) hR) (iv_h.mk hT qT oT hO qO hR (iv_rev qR) hP qP hw)
  · obtain rfl : y = 1 := Int32.toInt_inj.mp (by rw [hx]; decide)
    by_cases h0 : rN = 0
    · exact iv_I.mk (c_Dsk_turn1_none (d := 4) h0 (by omega)) ⟨_, rfl⟩ (c_Mdl_turn1 (d := 4) hR (by omega)) (iv_h.mk hT qT oT hO qO hR (fun k hk => absurd hk (by omega)) hP qP hw)
    · exact iv_I.mk (c_Dsk_turn1 (d := 4) (by omega) hR (by omega)) ⟨_, rfl⟩ (c_Mdl_turn1 (d := 4) hR (by omega)) (iv_h.mk hT qT oT hO qO hR (iv_rot qR (by omega) x) hP qP hw)
  · obtain rfl : y = 2 := Int32.toInt_inj.mp (by rw [hx]; decide)
    exact iv_I.mk (c_Dsk_turn2 (d := 4) hR (by omega)) ⟨_, rfl⟩ (c_Mdl_turn2 (d := 4) hR) (iv_h.mk hT qT oT hO qO hR (fun k hk => by unfold sp_fl; rw [if_pos hk, if_pos hk]) hP qP hw)
  · obtain rfl : y = 3 := Int32.toInt_inj.mp (by rw [hx]; decide)
    by_cases h1 : pN + rN ≤ 600
    · exact iv_I.mk (c_Dsk_turn3 (d := 4) h1 (by omega)) ⟨_, rfl⟩ (c_Mdl_turn3 (d := 4) (by omega)) (iv_h.mk hT qT oT hO qO (by omega) (iv_cpy (k := 0) qR qP) hP qP hw)
    · exact iv_I.mk (c_Dsk_turn3_full (d := 4) h1 hR hP (by omega)) ⟨_, rfl⟩ (c_Mdl_turn3_full (d := 4) (by omega) hR hP) (iv_h.mk hT qT oT hO qO hR qR hP qP hw)
set_option maxRecDepth 100000 in
theorem op_swap {l : Launch} {D : va_G} {cA : ClassId} {h : List gg_C} {x y : Int32} (hv : iv_h h) : iv_I l D cA y_Dsk_swap b_Dsk_swap 3 (some .int) [.ref 0, .int x, .int y] y_Mdl_swap b_Mdl_swap 4 (some .int) [.ref 14, .int x, .int y] h := by
  obtain ⟨tN, tF, oN, oF, rN, rF, pN, pF, bN, bF, eN, eF, lo, mT, mO, mW, mR, mP, zT, zO, zX, zB, zL, zR, zP, zQ, lm, rfl, I⟩ := hv
  obtain ⟨rfl, hT, qT, oT, rfl, hO, qO, rfl, hR, qR, rfl, hP, qP, rfl, hw⟩ := I
  by_cases hx : sp_in x rN ∧ sp_in y rN
  · obtain ⟨i, hi, rfl⟩ := sp_in_nI hx.1 (by omega)
    obtain ⟨j, hj, rfl⟩ := sp_in_nI hx.2 (by omega)
    exact iv_I.mk (c_Dsk_swap (d := 4) hi hj hR (by omega)) ⟨_, rfl⟩ (c_Mdl_swap (d := 4) hi hj hR (by omega)) (iv_h.mk hT qT oT hO qO hR (by rw [qR i hi, qR j hj]; exact iv_upd (iv_upd qR i _) j _) hP qP hw)
  · exact iv_I.mk (c_Dsk_swap_bad (d := 4) hx hR (by omega)) ⟨_, rfl⟩ (c_Mdl_swap_bad (d := 4) hx hR (by omega)) (iv_h.mk hT qT oT hO qO hR qR hP qP hw)
set_option maxRecDepth 100000 in
theorem op_tell {l : Launch} {D : va_G} {cA : ClassId} {h : List gg_C} {y x : Int32} (hv : iv_h h) : iv_L l D cA y_Dsk_tell b_Dsk_tell 3 (some .long) [.ref 0, .int y, .int x] y_Mdl_tell b_Mdl_tell 5 (some .long) [.ref 14, .int y, .int x] h := by
  obtain ⟨tN, tF, oN, oF, rN, rF, pN, pF, bN, bF, eN, eF, lo, mT, mO, mW, mR, mP, zT, zO, zX, zB, zL, zR, zP, zQ, lm, rfl, I⟩ := hv
  obtain ⟨rfl, hT, qT, oT, rfl, hO, qO, rfl, hR, qR, rfl, hP, qP, rfl, hw⟩ := I
  rcases (show (y.toInt < 0 ∨ 5 < y.toInt) ∨ y.toInt = 0 ∨ y.toInt = 1 ∨ y.toInt = 2 ∨ y.toInt = 3 ∨ y.toInt = 4 ∨ y.toInt = 5 by omega) with hx | hx | hx | hx | hx | hx | hx
  · exact iv_L.mk (c_Dsk_tell_bad (d := 4) hx) ⟨_, rfl⟩ (c_Mdl_tell_bad (d := 4) hx) (iv_h.mk hT qT oT hO qO hR qR hP qP hw)
  · obtain rfl : y = 0 := Int32.toInt_inj.mp (by rw [hx]; decide)
    by_cases h0 : rN = 0
    · exact iv_L.mk (c_Dsk_tell0_none (d := 4) h0 (by omega)) ⟨_, rfl⟩ (c_Mdl_tell0_none (d := 4) h0) (iv_h.mk hT qT oT hO qO hR qR hP qP hw)
    · exact iv_L.mk (c_Dsk_tell0 (d := 4) (by omega) hR (by omega)) ⟨_, rfl⟩ (iv_ans (by rw [mo_mx_sp, show rN - 1 + 1 = rN by omega, sp_mx_eq qR rN (Nat.le_refl _)]) (c_Mdl_tell0 (d := 4) (by omega) hR)) (iv_h.mk hT qT oT hO qO hR qR hP qP hw)
  · obtain rfl : y = 1 := Int32.toInt_inj.mp (by rw [hx]; decide)
    by_cases h0 : rN = 0
    · exact iv_L.mk (c_Dsk_tell1_none (d := 4) h0 (by omega)) ⟨_, rfl⟩ (c_Mdl_tell1_none (d := 4) h0) (iv_h.mk hT qT oT hO qO hR qR hP qP hw)
    · exact iv_L.mk (c_Dsk_tell1 (d := 4) (by omega) hR (by omega)) ⟨_, rfl⟩ (iv_ans (by rw [mo_mn_sp, show rN - 1 + 1 = rN by omega, sp_mn_eq qR rN (Nat.le_refl _)]) (c_Mdl_tell1 (d := 4) (by omega) hR)) (iv_h.mk hT qT oT hO qO hR qR hP qP hw)
  · obtain rfl : y = 2 := Int32.toInt_inj.mp (by rw [hx]; decide)
    exact iv_L.mk (c_Dsk_tell2 (d := 4) hR (by omega)) ⟨_, rfl⟩ (iv_ans (by rw [sp_ct_eq qR x rN (Nat.le_refl _)]) (c_Mdl_tell2 (d := 4) hR (by omega))) (iv_h.mk hT qT oT hO qO hR qR hP qP hw)
  · obtain rfl : y = 3 := Int32.toInt_inj.mp (by rw [hx]; decide)
    exact iv_L.mk (c_Dsk_tell3 (d := 4) hR hP (by omega)) ⟨_, rfl⟩ (iv_ans (by rw [iv_sh qR qP (by omega) pN 0 (by omega)]) (c_Mdl_tell3 (d := 4) hR hP (by omega))) (iv_h.mk hT qT oT hO qO hR qR hP qP hw)
  · obtain rfl : y = 4 := Int32.toInt_inj.mp (by rw [hx]; decide)
    by_cases h1 : pN ≤ rN + 1
    · exact iv_L.mk (c_Dsk_tell4 (d := 4) hR hP (by omega)) ⟨_, rfl⟩ (iv_ans (by rw [mo_fp_sp _ _ _ _ (by omega), iv_fp qR qP (rN + 1 - pN) 0 (by omega)]) (c_Mdl_tell4 (d := 4) hR hP (by omega))) (iv_h.mk hT qT oT hO qO hR qR hP qP hw)
    · exact iv_L.mk (c_Dsk_tell4 (d := 4) hR hP (by omega)) ⟨_, rfl⟩ (iv_ans (by rw [show rN + 1 - pN = 0 by omega]; rfl) (c_Mdl_tell4 (d := 4) hR hP (by omega))) (iv_h.mk hT qT oT hO qO hR qR hP qP hw)
  · obtain rfl : y = 5 := Int32.toInt_inj.mp (by rw [hx]; decide)
    by_cases h1 : pN ≤ rN + 1
    · exact iv_L.mk (c_Dsk_tell5 (d := 4) hR hP (by omega)) ⟨_, rfl⟩ (iv_ans (by rw [iv_lp qR qP (rN + 1 - pN) (by omega)]) (c_Mdl_tell5 (d := 4) hR hP (by omega))) (iv_h.mk hT qT oT hO qO hR qR hP qP hw)
    · exact iv_L.mk (c_Dsk_tell5 (d := 4) hR hP (by omega)) ⟨_, rfl⟩ (iv_ans (by rw [show rN + 1 - pN = 0 by omega]; rfl) (c_Mdl_tell5 (d := 4) hR hP (by omega))) (iv_h.mk hT qT oT hO qO hR qR hP qP hw)
set_option maxRecDepth 100000 in
theorem op_replace {l : Launch} {D : va_G} {cA : ClassId} {h : List gg_C} {v w : Int32} (hv : iv_h h) : iv_I l D cA y_Dsk_replace b_Dsk_replace 5 (some .int) [.ref 0, .int v, .int w] y_Mdl_replace b_Mdl_replace 5 (some .int) [.ref 14, .int v, .int w] h := by
  obtain ⟨tN, tF, oN, oF, rN, rF, pN, pF, bN, bF, eN, eF, lo, mT, mO, mW, mR, mP, zT, zO, zX, zB, zL, zR, zP, zQ, lm, rfl, I⟩ := hv
  obtain ⟨rfl, hT, qT, oT, rfl, hO, qO, rfl, hR, qR, rfl, hP, qP, rfl, hw⟩ := I
  exact iv_I.mk (c_Dsk_replace (d := 4) hR (by omega)) ⟨_, rfl⟩ (iv_ans (by rw [sp_ct_eq qR v rN (Nat.le_refl _)]) (c_Mdl_replace (d := 4) hR (by omega))) (iv_h.mk hT qT oT hO qO hR (iv_rp qR v w) hP qP hw)
set_option maxRecDepth 100000 in
theorem op_seek {l : Launch} {D : va_G} {cA : ClassId} {h : List gg_C} {v : Int32} (hv : iv_h h) : iv_I l D cA y_Dsk_seek b_Dsk_seek 4 (some .int) [.ref 0, .int v] y_Mdl_seek b_Mdl_seek 4 (some .int) [.ref 14, .int v] h := by
  obtain ⟨tN, tF, oN, oF, rN, rF, pN, pF, bN, bF, eN, eF, lo, mT, mO, mW, mR, mP, zT, zO, zX, zB, zL, zR, zP, zQ, lm, rfl, I⟩ := hv
  obtain ⟨rfl, hT, qT, oT, rfl, hO, qO, rfl, hR, qR, rfl, hP, qP, rfl, hw⟩ := I
  by_cases hu : sp_up rF rN
  · have hu2 := iv_up qR hu
    have e : mo_bl zR v rN = sp_nb rF v rN 0 := by rw [iv_nb qR v rN 0 (by omega), ← mo_bl_nb hu2 rN 0 (by omega) rfl]
    have hle := sp_nb_le rF v rN 0
    have e2 : (if sp_nb rF v rN 0 < rN ∧ zR (sp_nb rF v rN 0) = v then nI (sp_nb rF v rN 0) else -1 - nI (sp_nb rF v rN 0)) = if sp_nb rF v rN 0 < rN ∧ rF (sp_nb rF v rN 0) = v then nI (sp_nb rF v rN 0) else -1 - nI (sp_nb rF v rN 0) := by
      by_cases q : sp_nb rF v rN 0 < rN
      · rw [qR _ q]
      · rw [if_neg (fun y => q y.1), if_neg (fun y => q y.1)]
    exact iv_I.mk (c_Dsk_seek (d := 4) hu rfl hR (by omega)) ⟨_, rfl⟩ (iv_ans (by rw [e2]) (c_Mdl_seek (d := 4) hu2 e (by omega) hR)) (iv_h.mk hT qT oT hO qO hR qR hP qP hw)
  · exact iv_I.mk (c_Dsk_seek_bad (d := 4) hu hR (by omega)) ⟨_, rfl⟩ (c_Mdl_seek_bad (d := 4) (fun y => hu (iv_up (iv_sy qR) y)) hR) (iv_h.mk hT qT oT hO qO hR qR hP qP hw)
set_option maxRecDepth 100000 in
theorem op_count {l : Launch} {D : va_G} {cA : ClassId} {h : List gg_C} {y : Int32} (hv : iv_h h) : iv_I l D cA y_Dsk_count b_Dsk_count 2 (some .int) [.ref 0, .int y] y_Mdl_count b_Mdl_count 2 (some .int) [.ref 14, .int y] h := by
  obtain ⟨tN, tF, oN, oF, rN, rF, pN, pF, bN, bF, eN, eF, lo, mT, mO, mW, mR, mP, zT, zO, zX, zB, zL, zR, zP, zQ, lm, rfl, I⟩ := hv
  obtain ⟨rfl, hT, qT, oT, rfl, hO, qO, rfl, hR, qR, rfl, hP, qP, rfl, hw⟩ := I
  have hwe := hw.1
  rcases (show (y.toInt < 0 ∨ 3 < y.toInt) ∨ y.toInt = 0 ∨ y.toInt = 1 ∨ y.toInt = 2 ∨ y.toInt = 3 by omega) with hx | hx | hx | hx | hx
  · exact iv_I.mk (c_Dsk_count_bad (d := 4) hx) ⟨_, rfl⟩ (c_Mdl_count_bad (d := 4) hx) (iv_h.mk hT qT oT hO qO hR qR hP qP hw)
  · obtain rfl : y = 0 := Int32.toInt_inj.mp (by rw [hx]; decide)
    exact iv_I.mk (c_Dsk_count0 (d := 4) hR (by omega)) ⟨_, rfl⟩ (c_Mdl_count0 (d := 4)) (iv_h.mk hT qT oT hO qO hR qR hP qP hw)
  · obtain rfl : y = 1 := Int32.toInt_inj.mp (by rw [hx]; decide)
    exact iv_I.mk (c_Dsk_count1 (d := 4) hP (by omega)) ⟨_, rfl⟩ (c_Mdl_count1 (d := 4)) (iv_h.mk hT qT oT hO qO hR qR hP qP hw)
  · obtain rfl : y = 2 := Int32.toInt_inj.mp (by rw [hx]; decide)
    exact iv_I.mk (c_Dsk_count2 (d := 4) hT (by omega)) ⟨_, rfl⟩ (c_Mdl_count2 (d := 4)) (iv_h.mk hT qT oT hO qO hR qR hP qP hw)
  · obtain rfl : y = 3 := Int32.toInt_inj.mp (by rw [hx]; decide)
    exact iv_I.mk (c_Dsk_count3 (d := 4) hw.2.2.1 (by omega)) ⟨_, rfl⟩ (iv_ans (by rw [hwe]) (c_Mdl_count3 (d := 4))) (iv_h.mk hT qT oT hO qO hR qR hP qP hw)
