/-- the words, kept in two ways -/
def iv_w (bN : Nat) (bF : Nat → Int32) (eN : Nat) (eF : Nat → Int32) (mW : Nat) (zX zB zL : Nat → Int32) : Prop :=
  eN = mW ∧ bN ≤ 400 ∧ eN ≤ 400 ∧ ∃ bg ln : Nat → Nat, ∀ j, j < eN → zB j = nI (bg j) ∧ zL j = nI (ln j) ∧ eF j = nI (wd_st ln (j + 1)) ∧ wd_st ln (j + 1) ≤ 400 ∧ bg j + ln j ≤ 400 ∧ ∀ i, i < ln j → bF (wd_st ln j + i) = zX (bg j + i)
def iv (tN : Nat) (tF : Nat → Int32) (oN : Nat) (oF : Nat → Int32) (rN : Nat) (rF : Nat → Int32) (pN : Nat) (pF : Nat → Int32) (bN : Nat) (bF : Nat → Int32) (eN : Nat) (eF : Nat → Int32) (lo : Int64) (mT mO mW mR mP : Nat) (zT zO zX zB zL zR zP zQ : Nat → Int32) (lm : Int64) : Prop :=
  tN = mT ∧ tN ≤ 400 ∧ sp_eq tN tF zT ∧ ck_o tF tN ∧ oN = mO ∧ oN ≤ 536 ∧ sp_eq oN oF zO ∧ rN = mR ∧ rN ≤ 600 ∧ sp_eq rN rF zR ∧ pN = mP ∧ pN ≤ 600 ∧ sp_eq pN pF zP ∧ lo = lm ∧ iv_w bN bF eN eF mW zX zB zL
def iv_h (h : List gg_C) : Prop := ∃ tN tF oN oF rN rF pN pF bN bF eN eF lo mT mO mW mR mP zT zO zX zB zL zR zP zQ lm, h = hp tN tF oN oF rN rF pN pF bN bF eN eF lo mT mO mW mR mP zT zO zX zB zL zR zP zQ lm ∧ iv tN tF oN oF rN rF pN pF bN bF eN eF lo mT mO mW mR mP zT zO zX zB zL zR zP zQ lm
/-- a call on both: an int, a long; the same answer, and what ties them is kept -/
def iv_I (l : Launch) (D : va_G) (cA : ClassId) (yD : MethodName) (bD : ByteArray) (nD : Nat) (rD : Option FieldType) (aD : List Value) (yM : MethodName) (bM : ByteArray) (nM : Nat) (rM : Option FieldType) (aM : List Value) (h : List gg_C) : Prop :=
  ∃ Post, gg_K l D cA 4 yD bD nD rD aD h Post ∧ ∀ r h1, Post r h1 → ∃ (x : Int32) (h2 : List gg_C), r = some (.int x) ∧ (∃ fs, h1[14]? = some (.inr (3, fs))) ∧ gg_K l D cA 4 yM bM nM rM aM h1 (gg_is (some (.int x)) h2) ∧ iv_h h2
def iv_L (l : Launch) (D : va_G) (cA : ClassId) (yD : MethodName) (bD : ByteArray) (nD : Nat) (rD : Option FieldType) (aD : List Value) (yM : MethodName) (bM : ByteArray) (nM : Nat) (rM : Option FieldType) (aM : List Value) (h : List gg_C) : Prop :=
  ∃ Post, gg_K l D cA 4 yD bD nD rD aD h Post ∧ ∀ r h1, Post r h1 → ∃ (x : Int64) (h2 : List gg_C), r = some (.long x) ∧ (∃ fs, h1[14]? = some (.inr (3, fs))) ∧ gg_K l D cA 4 yM bM nM rM aM h1 (gg_is (some (.long x)) h2) ∧ iv_h h2
theorem iv_I.mk {l : Launch} {D : va_G} {cA : ClassId} {yD yM : MethodName} {bD bM : ByteArray} {nD nM : Nat} {rD rM : Option FieldType} {aD aM : List Value} {h h1 h2 : List gg_C} {x : Int32} (hD : gg_K l D cA 4 yD bD nD rD aD h (gg_is (some (.int x)) h1)) (h14 : ∃ fs, h1[14]? = some (.inr (3, fs))) (hM : gg_K l D cA 4 yM bM nM rM aM h1 (gg_is (some (.int x)) h2)) (hi : iv_h h2) : iv_I l D cA yD bD nD rD aD yM bM nM rM aM h :=
  ⟨_, hD, fun r h3 q => by obtain ⟨rfl, rfl⟩ := q; exact ⟨x, h2, rfl, h14, hM, hi⟩⟩
theorem iv_L.mk {l : Launch} {D : va_G} {cA : ClassId} {yD yM : MethodName} {bD bM : ByteArray} {nD nM : Nat} {rD rM : Option FieldType} {aD aM : List Value} {h h1 h2 : List gg_C} {x : Int64} (hD : gg_K l D cA 4 yD bD nD rD aD h (gg_is (some (.long x)) h1)) (h14 : ∃ fs, h1[14]? = some (.inr (3, fs))) (hM : gg_K l D cA 4 yM bM nM rM aM h1 (gg_is (some (.long x)) h2)) (hi : iv_h h2) : iv_L l D cA yD bD nD rD aD yM bM nM rM aM h :=
  ⟨_, hD, fun r h3 q => by obtain ⟨rfl, rfl⟩ := q; exact ⟨x, h2, rfl, h14, hM, hi⟩⟩
theorem iv_ans {l : Launch} {D : va_G} {cA : ClassId} {d : Nat} {y : MethodName} {cc : ByteArray} {nL : Nat} {rt : Option FieldType} {av : List Value} {h h' : List gg_C} {v v' : Value} (e : v = v') (hK : gg_K l D cA d y cc nL rt av h (gg_is (some v) h')) : gg_K l D cA d y cc nL rt av h (gg_is (some v') h') := e ▸ hK
theorem iv_ofi {P : Prop} [Decidable P] {x : Int32} (h : ¬ P) (hx : x = if P then 0 else 1) : ¬ x = 0 := by rw [hx, if_neg h]; decide
/-! agreement is kept -/
theorem iv_upd {n : Nat} {f g : Nat → Int32} (h : sp_eq n f g) (k : Nat) (x : Int32) : sp_eq n (upd f k x) (upd g k x) := fun j hj => by
  unfold upd
  rw [h j hj]
theorem iv_push {n : Nat} {f g : Nat → Int32} (h : sp_eq n f g) (x : Int32) : sp_eq (n + 1) (upd f n x) (upd g n x) := fun j hj => by
  unfold upd
  by_cases q : j = n
  · rw [if_pos q, if_pos q]
  · rw [if_neg q, if_neg q, h j (by omega)]
theorem iv_fd {n : Nat} {f g : Nat → Int32} (h : sp_eq n f g) (x : Int32) : sp_eq (n + 4) (sp_fd f n x) (sp_fd g n x) := fun j hj => by
  unfold sp_fd
  by_cases q : n ≤ j ∧ j < n + 4
  · rw [if_pos q, if_pos q]
  · rw [if_neg q, if_neg q, h j (by omega)]
theorem iv_oct {f : Nat → Int32} {j b : Nat} (hb : b < 256) (h : f j = nI b) : f j = nI (ck_b f j) ∧ ck_b f j < 256 := by
  have e : ck_b f j = b := by
    unfold ck_b
    rw [h, nI_clamp (by omega)]
  rw [e]
  exact ⟨h, hb⟩
theorem iv_fdo {n : Nat} {f : Nat → Int32} (h : ck_o f n) (x : Int32) : ck_o (sp_fd f n x) (n + 4) := fun j hj => by
  by_cases q : n ≤ j ∧ j < n + 4
  · refine iv_oct (b := (x >>> (sp_s (j - n) &&& 31)).toBitVec.toNat % 2 ^ 8) (Nat.mod_lt _ (by decide)) ?_
    unfold sp_fd
    rw [if_pos q]
    exact pk_and _ 8 (by decide)
  · obtain ⟨h1, h2⟩ := h j (by omega)
    refine iv_oct h2 ?_
    unfold sp_fd
    rw [if_neg q]
    exact h1
theorem iv_ckb {n : Nat} {f g : Nat → Int32} (h : sp_eq n f g) (j : Nat) (hj : j < n) : ck_b f j = ck_b g j := by
  unfold ck_b
  rw [h j hj]
theorem iv_cko {n : Nat} {f g : Nat → Int32} (h : sp_eq n f g) (ho : ck_o f n) : ck_o g n := fun j hj => by
  obtain ⟨h1, h2⟩ := ho j hj
  exact iv_oct h2 (by rw [← h j hj]; exact h1)
theorem iv_cka {n : Nat} {s t : Nat → Nat} (h : ∀ j, j < n → s j = t j) : ∀ k i v, i + k ≤ n → ck_a s k i v = ck_a t k i v
  | 0, _, _, _ => rfl
  | k + 1, i, v, hk => by
    show ck_a s k (i + 1) (ck_r 8 (v ^^^ s i)) = ck_a t k (i + 1) (ck_r 8 (v ^^^ t i))
    rw [h i (by omega), iv_cka h k (i + 1) _ (by omega)]
theorem iv_wrt {n : Nat} {f g : Nat → Int32} (h : sp_eq n f g) (p : Nat) : wr_t f n p = wr_t g n p := by
  unfold wr_t wr_b
  by_cases q : p / 8 < n
  · rw [if_pos q, if_pos q, iv_ckb h _ q]
  · rw [if_neg q, if_neg q]
theorem iv_wrh {n : Nat} {f g : Nat → Int32} (h : sp_eq n f g) (p : Nat) : ∀ k, wr_h f n p k = wr_h g n p k
  | 0 => rfl
  | k + 1 => by
    show 2 * wr_h f n p k + wr_t f n (p + k) = 2 * wr_h g n p k + wr_t g n (p + k)
    rw [iv_wrh h p k, iv_wrt h]
theorem iv_wrF {n : Nat} {f g u v : Nat → Int32} (h : sp_eq n f g) (z : Bool) (t : Int32) : sp_eq (wr_M n t) (wr_F u f n z t) (wr_F v g n z t) := fun j hj => by
  have hK : wr_K n ≤ wr_M n t := by
    unfold wr_M
    split <;> omega
  unfold wr_F wr_p wr_o
  by_cases q : wr_K n ≤ j ∧ j < wr_K n + (wr_M n t - wr_K n)
  · rw [if_pos q, if_pos q]
  · rw [if_neg q, if_neg q, if_pos (by omega), if_pos (by omega), iv_wrh h]
theorem iv_rdw {n : Nat} {f g : Nat → Int32} (h : sp_eq n f g) (z : Bool) (j : Nat) (hj : j < n) : rd_w f z j = rd_w g z j := by
  unfold rd_w
  rw [h j hj]
theorem iv_rdl {n : Nat} {f g : Nat → Int32} (h : sp_eq n f g) (z : Bool) : ∀ k i, i + k ≤ n → rd_l f z k i = rd_l g z k i
  | 0, _, _ => rfl
  | k + 1, i, hk => by
    show (if rd_w f z i = 64 then i else rd_l f z k (i + 1)) = if rd_w g z i = 64 then i else rd_l g z k (i + 1)
    rw [iv_rdw h z i (by omega), iv_rdl h z k (i + 1) (by omega)]
theorem iv_rok {n q : Nat} {f g : Nat → Int32} (h : sp_eq n f g) (ho : rd_ok f n q) : rd_ok g n q := ⟨ho.1, ho.2.1, fun k h1 h2 => by rw [← h k h1]; exact ho.2.2 k h1 h2⟩
theorem iv_rdh {n p : Nat} {s t : Nat → Nat} (h : ∀ j, j < n → s j = t j) : ∀ k, p + k ≤ 6 * n → rd_h s p k = rd_h t p k
  | 0, _ => rfl
  | k + 1, hk => by
    show 2 * rd_h s p k + s ((p + k) / 6) / 2 ^ (5 - (p + k) % 6) % 2 = 2 * rd_h t p k + t ((p + k) / 6) / 2 ^ (5 - (p + k) % 6) % 2
    rw [iv_rdh h k (by omega), h ((p + k) / 6) (by omega)]
theorem iv_wd {n : Nat} {f g : Nat → Int32} (h : sp_eq n f g) (a b c t : Int32) : ∀ p, p ≤ n → wd f a b c t p = wd g a b c t p
  | 0, _ => rfl
  | p + 1, hp1 => by
    have ih := iv_wd h a b c t p (by omega)
    have e := h p (by omega)
    by_cases q : wd_cu f a b c p
    · have q2 : wd_cu g a b c p := by unfold wd_cu; rw [← e]; exact q
      by_cases ht : t = 0
      · rw [wd_cut q ht, wd_cut q2 ht, ih]
      · rw [wd_kept q ht, wd_kept q2 ht, ih]
    · have q2 : ¬ wd_cu g a b c p := by unfold wd_cu; rw [← e]; exact q
      rw [wd_no q, wd_no q2, ih]
theorem iv_cpy {n m k : Nat} {f g s t : Nat → Int32} (h : sp_eq n f g) (hs : sp_eq m s t) : sp_eq (n + m) (va_cpy s f 0 n m) (mo_ap g n t m) := fun j hj => by
  unfold va_cpy mo_ap
  by_cases q : n ≤ j ∧ j < n + m
  · rw [if_pos q, if_pos q, Nat.zero_add, hs (j - n) (by omega)]
  · rw [if_neg q, if_neg q, h j (by omega)]
theorem iv_ins {n i : Nat} {f g : Nat → Int32} (h : sp_eq n f g) (hi : i ≤ n) (x : Int32) : sp_eq (n + 1) (upd (va_cpy f f i (i + 1) (n - i)) i x) (upd (mo_in g n i) i x) := fun j hj => by
  unfold upd va_cpy mo_in
  by_cases q : j = i
  · rw [if_pos q, if_pos q]
  · rw [if_neg q, if_neg q]
    by_cases q2 : i + 1 ≤ j ∧ j < i + 1 + (n - i)
    · rw [if_pos q2, if_pos (by omega), h _ (by omega)]
      congr 1
      omega
    · rw [if_neg q2, if_neg (by omega), h j (by omega)]
theorem iv_del {n i : Nat} {f g : Nat → Int32} (h : sp_eq n f g) (hi : i < n) : sp_eq (n - 1) (va_cpy f f (i + 1) i (n - i - 1)) (mo_dl g i (n - 1)) := fun j hj => by
  unfold va_cpy mo_dl
  by_cases q : i ≤ j ∧ j < n - 1
  · rw [if_pos (by omega), if_pos q, h _ (by omega)]
    congr 1
    omega
  · rw [if_neg (by omega), if_neg q, h j (by omega)]
theorem iv_z {n m : Nat} {f g : Nat → Int32} (h : sp_eq n f g) : sp_eq m (sp_z f n m) (sp_z g n m) := fun j hj => by
  unfold sp_z
  by_cases q : n ≤ j ∧ j < m
  · rw [if_pos q, if_pos q]
  · rw [if_neg q, if_neg q, h j (by omega)]
theorem iv_rp {n : Nat} {f g : Nat → Int32} (h : sp_eq n f g) (v w : Int32) : sp_eq n (sp_rp f n v w) (sp_rp g n v w) := fun j hj => by
  unfold sp_rp
  rw [h j hj]
theorem iv_rev {n : Nat} {f g : Nat → Int32} (h : sp_eq n f g) : sp_eq n (sp_rv f 0 n) (mo_rv g n n) := fun j hj => by
  unfold sp_rv mo_rv
  rw [if_pos (by omega), if_pos (by omega), h _ (by omega)]
  congr 1
  omega
theorem iv_rot {n : Nat} {f g : Nat → Int32} (h : sp_eq n f g) (h0 : 0 < n) (x : Int32) : sp_eq n (sp_rv (sp_rv (sp_rv f 0 n) 0 (sp_fm x n)) (sp_fm x n) n) (mo_ro g x n n) := fun j hj => by
  have hp0 := sp_fm_lt x h0
  have hiv : mo_iv x n j = if sp_fm x n ≤ j then j - sp_fm x n else j + n - sp_fm x n := by
    unfold mo_iv sp_fm
    have g1 := Int.emod_nonneg x.toInt (show (n : Int) ≠ 0 by omega)
    have g2 := Int.emod_lt_of_pos x.toInt (show (0 : Int) < n by omega)
    have g3 := Int.mul_ediv_add_emod x.toInt (n : Int)
    split
    · have e : ((j : Int) - x.toInt) % (n : Int) = (j : Int) - x.toInt % (n : Int) := by
        have e2 : (j : Int) - x.toInt = ((j : Int) - x.toInt % (n : Int)) + (n : Int) * (-(x.toInt / (n : Int))) := by rw [Int.mul_neg]; omega
        rw [e2, Int.add_mul_emod_self_left, Int.emod_eq_of_lt (by omega) (by omega)]
      rw [e]
      omega
    · have e : ((j : Int) - x.toInt) % (n : Int) = (j : Int) + n - x.toInt % (n : Int) := by
        have e2 : (j : Int) - x.toInt = ((j : Int) + n - x.toInt % (n : Int)) + (n : Int) * (-(x.toInt / (n : Int)) - 1) := by rw [Int.mul_sub, Int.mul_neg]; omega
        rw [e2, Int.add_mul_emod_self_left, Int.emod_eq_of_lt (by omega) (by omega)]
      rw [e]
      omega
  unfold mo_ro
  rw [hiv]
  unfold sp_rv
  by_cases q : sp_fm x n ≤ j
  · rw [if_pos q, if_pos (by omega), if_neg (by omega), if_pos (by omega), if_pos (by omega), h _ (by omega)]
    congr 1
    omega
  · rw [if_neg q, if_neg (by omega), if_pos (by omega), if_pos (by omega), if_pos (by omega), h _ (by omega)]
    congr 1
    omega
theorem iv_st {n m s : Nat} {f g u v : Nat → Int32} (h : sp_eq n f g) (hu : sp_eq m u v) (hs : s + m ≤ n) : sp_st f u m s ↔ sp_st g v m s :=
  ⟨fun q j hj => by rw [← h (s + j) (by omega), ← hu j hj]; exact q j hj, fun q j hj => by rw [h (s + j) (by omega), hu j hj]; exact q j hj⟩
theorem iv_fp {n m : Nat} {f g u v : Nat → Int32} (h : sp_eq n f g) (hu : sp_eq m u v) : ∀ k s, s + k + m ≤ n + 1 → sp_fp f u m k s = sp_fp g v m k s
  | 0, _, _ => rfl
  | k + 1, s, hk => by
    have ih := iv_fp h hu k (s + 1) (by omega)
    have hs := iv_st h hu (show s + m ≤ n by omega)
    by_cases q : sp_st f u m s
    · rw [sp_fp_is q, sp_fp_is (hs.mp q)]
    · rw [sp_fp_ne q, sp_fp_ne (fun z => q (hs.mpr z)), ih]
theorem iv_lp {n m : Nat} {f g u v : Nat → Int32} (h : sp_eq n f g) (hu : sp_eq m u v) : ∀ k, k + m ≤ n + 1 → sp_lp f u m k = sp_lp g v m k
  | 0, _ => rfl
  | k + 1, hk => by
    have ih := iv_lp h hu k (by omega)
    have hs := iv_st h hu (show k + m ≤ n by omega)
    by_cases q : sp_st f u m k
    · rw [sp_lp_is q, sp_lp_is (hs.mp q)]
    · rw [sp_lp_ne q, sp_lp_ne (fun z => q (hs.mpr z)), ih]
theorem iv_sh {n m : Nat} {f g u v : Nat → Int32} (h : sp_eq n f g) (hu : sp_eq m u v) (hn : n < 2 ^ 31) : ∀ k j, j + k ≤ m → (if sp_sh f n u k j = 0 then (1 : Int64) else 0) = mo_an g n v k j
  | 0, _, _ => rfl
  | k + 1, j, hk => by
    have ih := iv_sh h hu hn k (j + 1) (by omega)
    have e : sp_ct f (u j) n = sp_ct g (v j) n := by rw [hu j (by omega)]; exact sp_ct_eq h _ n (Nat.le_refl n)
    by_cases q : sp_ff f (u j) n 0 = -1
    · rw [sp_sh_e q, ih, mo_an_e (by rw [← e]; exact (sp_ff_ct f (u j) n hn).mp q)]
    · rw [sp_sh_n q, mo_an_n (by rw [← e]; exact fun y => q ((sp_ff_ct f (u j) n hn).mpr y))]
      rfl
theorem iv_up {n : Nat} {f g : Nat → Int32} (h : sp_eq n f g) (hu : sp_up f n) : sp_up g n := fun k hk => by
  rw [← h k (by omega), ← h (k + 1) (by omega)]
  exact hu k hk
theorem iv_sy {n : Nat} {f g : Nat → Int32} (h : sp_eq n f g) : sp_eq n g f := fun k hk => (h k hk).symm
theorem iv_nb {n : Nat} {f g : Nat → Int32} (h : sp_eq n f g) (v : Int32) : ∀ k i, i + k ≤ n → sp_nb f v k i = sp_nb g v k i
  | 0, _, _ => rfl
  | k + 1, i, hk => by
    unfold sp_nb
    rw [h i (by omega), iv_nb h v k (i + 1) (by omega)]
