/-! THE CLAIM OUT OF ONE WALK OF THE LAW'S BODY. Your part is whole_start (and what it stands on); all else here is the same for every law, but numbers. -/
def R_law : String := "CourierDeskLaw"
def lw_P (b : Addr) (xs : List Int32) (args : Array Value) (s : State) : Prop := args = #[.ref b] ∧ s.IntsAt b xs ∧ xs.length ≤ 3072 ∧ (Jvm.Cond.and given_1 narrow_1).before args s = true
def lw_Q (_ : Array Value) (s : State) (o : Outcome) (t : State) : Prop := o = .returned (some (.int 1)) ∧ Framed s o t [] 600000 7302250
def lw_Z (below : List Frame) (a : Array Value) (s : State) : State → Prop := fun t => ∃ o, t.status = .running ∧ Ended t below o ∧ lw_Q a s o t
/-- the law's own end, with 1 on the stack, nothing written that was there before, its room as the claim has it -/
theorem lw_ret {p : Program} {l : Launch} {e : Env} {s : State} {m : MethodId} {below : List Frame} {meth : Method} {c : Code} {b : Nat} (hx : p.tables.exec = Jvm.exec) (hb : c.code = code) (hr : meth.sig.returnType = ret) (hlocks : meth.locks = false) {pc : Nat} {H : Heap} {ls : Array Slot} (hdg : decode code pc = .ok (.ireturn, 1)) : W p l e room_1 s m #[Value.ref b] below meth c H [] 600000 7302250 (lw_Z below #[Value.ref b] s) (F0 m pc ls [.int 1]) := by
  intro T hT X
  obtain ⟨fs, hret, hrun, hended, hW, hframe⟩ := X.leave (v := some (.int 1)) (hlocks := hlocks) (fun h => by rw [hr] at h; cases h)
  have hmeth' : T.vm.method? m = some meth := X.method'
  refine ⟨T.setFrames fs, ?_, .returned (some (.int 1)), hrun, hended, rfl, ⟨_, rfl⟩, hW, hframe⟩
  jvm_step X.here [X.here.top, hx, hb, hdg, hmeth', hr, ret, narrow_b1]
  (try refine ⟨rfl, ?_⟩); (try refine ⟨rfl, ?_⟩)
  first | (intro acts; rw [hret _ acts rfl rfl rfl]) | rw [hret _ _ rfl rfl rfl]
  exact Steps.refl _
/-- what holds at the law's entry: the machine, the code, the tables' words (any of lw_tbl by 'hts w (by decide +kernel)'), the script of L ints xs at the cell b, what the Statement gives of the start (any of its parts by flat_of_before) -/
def lw_At (p : Program) (s : State) (m : MethodId) (meth : Method) (c : Code) (b L : Nat) (xs : Nat → Int32) : Prop :=
  p.tables.exec = Jvm.exec ∧ c.code = code ∧ meth.sig.returnType = ret ∧ c.maxLocals = 4 ∧ s.vm.findClass R_law = some m.cls ∧ (∀ w ∈ lw_tbl, w.before #[Value.ref b] s = true) ∧ va_X b L xs s s.heap ∧ b < s.heap.size ∧ meth.locks = false ∧ (Jvm.Cond.and given_1 narrow_1).before #[Value.ref b] s = true
def gl_v (n : Nat) : Value → Bool
  | .ref a => decide (a < n) || decide (a = 99)
  | _ => true
def gl_L (n : Nat) (L : List (Option Value)) : Bool := L.all (fun o => match o with | none => true | some v => gl_v n v)
theorem gl_v_eq {n : Nat} {E E' : Nat → Nat} (hE : ∀ i, i < n ∨ i = 99 → E' i = E i) {v : Value} (hv : gl_v n v = true) : gg_V E' v = gg_V E v := by
  cases v <;> first | rfl | (simp only [gl_v, Bool.or_eq_true, decide_eq_true_eq] at hv; simp only [gg_V, hE _ hv])
theorem gl_st_eq {n : Nat} {E E' : Nat → Nat} (hE : ∀ i, i < n ∨ i = 99 → E' i = E i) {st : List Value} (hv : st.all (gl_v n) = true) : st.map (gg_V E') = st.map (gg_V E) := by
  apply List.map_congr_left
  intro v h
  exact gl_v_eq hE (List.all_eq_true.mp hv v h)
theorem gl_L_eq {n nL : Nat} {ls : Array Slot} {E E' : Nat → Nat} (hE : ∀ i, i < n ∨ i = 99 → E' i = E i) {L : List (Option Value)} (hv : gl_L n L = true) (hl : gg_L ls nL E L) : gg_L ls nL E' L := by
  refine ⟨hl.1, hl.2.1, fun i v hi => ?_⟩
  have h2 := List.all_eq_true.mp hv (some v) (List.mem_of_getElem? hi)
  rw [gl_v_eq hE h2]
  exact hl.2.2 i v hi
/-- the law's walk: the script is place 99 -/
def gl_G (l : Launch) (D : va_G) (cA : ClassId) (b Ln : Nat) (xs : Nat → Int32) (cells slots pc : Nat) (L : List (Option Value)) (st : List Value) (h : List gg_C) : Prop :=
  ∀ (p : Program) (e : Env) (s : State) (m : MethodId) (below : List Frame) (meth : Method) (c : Code) (H : Heap) (locs : List Loc) (E : Nat → Nat) (ls : Array Slot),
    lw_At p s m meth c b Ln xs → va_K D classes [(cA, .int)] s → E 99 = b → va_P D classes (gg_w cA E h) H → va_D (fun q => s.heap.size ≤ q) (gg_w cA E h) → va_S (fun q => s.heap.size ≤ q) s.heap H locs → gg_L ls 4 E L →
    W p l e room_1 s m #[Value.ref b] below meth c H locs cells slots (lw_Z below #[Value.ref b] s) (F0 m pc ls (st.map (gg_V E)))
theorem gl_hts {p : Program} {s : State} {m : MethodId} {meth : Method} {c : Code} {b Ln : Nat} {xs : Nat → Int32} (C0 : lw_At p s m meth c b Ln xs) : ∀ w ∈ lw_good, w.before #[Value.ref b] s = true := fun w hw => C0.2.2.2.2.2.1 w (List.mem_filter.mp hw).1
section GL
variable {l : Launch} {D : va_G} {cA : ClassId} {b Ln : Nat} {xs : Nat → Int32} {cells slots pc : Nat} {L : List (Option Value)} {st : List Value} {h : List gg_C}
theorem gl_iconst {n : Int} {v : Int32} (hd : decode code pc = .ok (.iconst n, 1)) (hv : Int32.ofInt n = v) (k : gl_G l D cA b Ln xs cells slots (pc + 1) L (.int v :: st) h) : gl_G l D cA b Ln xs cells slots pc L (st) h := by
  intro p e s m below meth c H locs E ls C0 hK hE hP hD hS hl
  exact lv_iconst C0.1 C0.2.1 hd hv (k p e s m below meth c H locs E ls C0 hK hE hP hD hS hl)
theorem gl_bipush {n : Int} {v : Int32} (hd : decode code pc = .ok (.bipush n, 2)) (hv : (Int8.ofInt n).toInt32 = v) (k : gl_G l D cA b Ln xs cells slots (pc + 2) L (.int v :: st) h) : gl_G l D cA b Ln xs cells slots pc L (st) h := by
  intro p e s m below meth c H locs E ls C0 hK hE hP hD hS hl
  exact lv_bipush C0.1 C0.2.1 hd hv (k p e s m below meth c H locs E ls C0 hK hE hP hD hS hl)
theorem gl_iload_n {i : Fin 4} (j : Nat) {x : Int32} (hd : decode code pc = .ok (.iload_n i, 1)) (hj : (i : Nat) = j) (hx : L[j]? = some (some (.int x))) (k : gl_G l D cA b Ln xs cells slots (pc + 1) L (.int x :: st) h) : gl_G l D cA b Ln xs cells slots pc L (st) h := by
  intro p e s m below meth c H locs E ls C0 hK hE hP hD hS hl
  exact lv_iload_n C0.1 C0.2.1 hd hj (hl.2.2 _ _ hx) (k p e s m below meth c H locs E ls C0 hK hE hP hD hS hl)
theorem gl_aload_n {i : Fin 4} (j : Nat) {x : Nat} (hd : decode code pc = .ok (.aload_n i, 1)) (hj : (i : Nat) = j) (hx : L[j]? = some (some (.ref x))) (k : gl_G l D cA b Ln xs cells slots (pc + 1) L (.ref x :: st) h) : gl_G l D cA b Ln xs cells slots pc L (st) h := by
  intro p e s m below meth c H locs E ls C0 hK hE hP hD hS hl
  exact lv_aload_n C0.1 C0.2.1 hd hj (hl.2.2 _ _ hx) (k p e s m below meth c H locs E ls C0 hK hE hP hD hS hl)
theorem gl_dup {v : Value} (hd : decode code pc = .ok (.dup, 1)) (hc : v.category = 1) (k : gl_G l D cA b Ln xs cells slots (pc + 1) L (v :: v :: st) h) : gl_G l D cA b Ln xs cells slots pc L (v :: st) h := by
  intro p e s m below meth c H locs E ls C0 hK hE hP hD hS hl
  exact lv_dup C0.1 C0.2.1 hd ((gg_V_cat E v).trans hc) (k p e s m below meth c H locs E ls C0 hK hE hP hD hS hl)
theorem gl_iadd {x y : Int32} (hd : decode code pc = .ok (.iadd, 1)) (k : gl_G l D cA b Ln xs cells slots (pc + 1) L (.int (x + y) :: st) h) : gl_G l D cA b Ln xs cells slots pc L (.int y :: .int x :: st) h := by
  intro p e s m below meth c H locs E ls C0 hK hE hP hD hS hl
  exact lv_iadd C0.1 C0.2.1 hd (k p e s m below meth c H locs E ls C0 hK hE hP hD hS hl)
theorem gl_isub {x y : Int32} (hd : decode code pc = .ok (.isub, 1)) (k : gl_G l D cA b Ln xs cells slots (pc + 1) L (.int (x - y) :: st) h) : gl_G l D cA b Ln xs cells slots pc L (.int y :: .int x :: st) h := by
  intro p e s m below meth c H locs E ls C0 hK hE hP hD hS hl
  exact lv_isub C0.1 C0.2.1 hd (k p e s m below meth c H locs E ls C0 hK hE hP hD hS hl)
theorem gl_iand {x y : Int32} (hd : decode code pc = .ok (.iand, 1)) (k : gl_G l D cA b Ln xs cells slots (pc + 1) L (.int (x &&& y) :: st) h) : gl_G l D cA b Ln xs cells slots pc L (.int y :: .int x :: st) h := by
  intro p e s m below meth c H locs E ls C0 hK hE hP hD hS hl
  exact lv_iand C0.1 C0.2.1 hd (k p e s m below meth c H locs E ls C0 hK hE hP hD hS hl)
theorem gl_land {x y : Int64} (hd : decode code pc = .ok (.land, 1)) (k : gl_G l D cA b Ln xs cells slots (pc + 1) L (.long (x &&& y) :: st) h) : gl_G l D cA b Ln xs cells slots pc L (.long y :: .long x :: st) h := by
  intro p e s m below meth c H locs E ls C0 hK hE hP hD hS hl
  exact lv_land C0.1 C0.2.1 hd (k p e s m below meth c H locs E ls C0 hK hE hP hD hS hl)
theorem gl_lor {x y : Int64} (hd : decode code pc = .ok (.lor, 1)) (k : gl_G l D cA b Ln xs cells slots (pc + 1) L (.long (x ||| y) :: st) h) : gl_G l D cA b Ln xs cells slots pc L (.long y :: .long x :: st) h := by
  intro p e s m below meth c H locs E ls C0 hK hE hP hD hS hl
  exact lv_lor C0.1 C0.2.1 hd (k p e s m below meth c H locs E ls C0 hK hE hP hD hS hl)
theorem gl_lshl {x v : Int64} {y : Int32} (hd : decode code pc = .ok (.lshl, 1)) (hv : x <<< (y.toInt64 &&& 63) = v) (k : gl_G l D cA b Ln xs cells slots (pc + 1) L (.long v :: st) h) : gl_G l D cA b Ln xs cells slots pc L (.int y :: .long x :: st) h := by
  intro p e s m below meth c H locs E ls C0 hK hE hP hD hS hl
  exact lv_lshl C0.1 C0.2.1 hd hv (k p e s m below meth c H locs E ls C0 hK hE hP hD hS hl)
theorem gl_i2l {x : Int32} {v : Int64} (hd : decode code pc = .ok (.i2l, 1)) (hv : x.toInt64 = v) (k : gl_G l D cA b Ln xs cells slots (pc + 1) L (.long v :: st) h) : gl_G l D cA b Ln xs cells slots pc L (.int x :: st) h := by
  intro p e s m below meth c H locs E ls C0 hK hE hP hD hS hl
  exact lv_i2l C0.1 C0.2.1 hd hv (k p e s m below meth c H locs E ls C0 hK hE hP hD hS hl)
theorem gl_lcmp {x y : Int64} (hd : decode code pc = .ok (.lcmp, 1)) (k : gl_G l D cA b Ln xs cells slots (pc + 1) L (.int (lg_cmp x y) :: st) h) : gl_G l D cA b Ln xs cells slots pc L (.long y :: .long x :: st) h := by
  intro p e s m below meth c H locs E ls C0 hK hE hP hD hS hl
  exact W.lcmp C0.1 C0.2.1 hd (k p e s m below meth c H locs E ls C0 hK hE hP hD hS hl)
theorem gl_ldc2 {index : Nat} {v : Int64} (hk : Cond.constantLong R_law index v ∈ lw_good) (hd : decode code pc = .ok (.ldc2_w index, 3)) (k : gl_G l D cA b Ln xs cells slots (pc + 3) L (.long v :: st) h) : gl_G l D cA b Ln xs cells slots pc L (st) h := by
  intro p e s m below meth c H locs E ls C0 hK hE hP hD hS hl
  exact lv_ldc2 C0.1 C0.2.1 C0.2.2.2.2.1 (gl_hts C0 _ hk) hd (k p e s m below meth c H locs E ls C0 hK hE hP hD hS hl)
theorem gl_istore_n {i : Fin 4} (j : Nat) {x : Int32} (hd : decode code pc = .ok (.istore_n i, 1)) (hj : (i : Nat) = j) (hi : j < 4) (hok : gg_ok L j = true) (k : gl_G l D cA b Ln xs cells slots (pc + 1) (L.set j (some (.int x))) st h) : gl_G l D cA b Ln xs cells slots pc L (.int x :: st) h := by
  intro p e s m below meth c H locs E ls C0 hK hE hP hD hS hl
  exact lv_istore_n C0.1 C0.2.1 hd hj hl.has hi rfl (fun ls' h' => k p e s m below meth c H locs E ls' C0 hK hE hP hD hS (gg_L.put1 (v := .int x) hok h'))
theorem gl_astore_n {i : Fin 4} (j : Nat) {x : Nat} (hd : decode code pc = .ok (.astore_n i, 1)) (hj : (i : Nat) = j) (hi : j < 4) (hok : gg_ok L j = true) (k : gl_G l D cA b Ln xs cells slots (pc + 1) (L.set j (some (.ref x))) st h) : gl_G l D cA b Ln xs cells slots pc L (.ref x :: st) h := by
  intro p e s m below meth c H locs E ls C0 hK hE hP hD hS hl
  exact lv_astore_n C0.1 C0.2.1 hd hj hl.has hi rfl (fun ls' h' => k p e s m below meth c H locs E ls' C0 hK hE hP hD hS (gg_L.put1 (v := .ref x) hok h'))
theorem gl_iinc {i : Nat} {n : Int} {x : Int32} (w : Int32) (hd : decode code pc = .ok (.iinc i n, 3)) (hx : L[i]? = some (some (.int x))) (hw : Int32.ofInt n = w) (hi : i < 4) (hok : gg_ok L i = true) (k : gl_G l D cA b Ln xs cells slots (pc + 3) (L.set i (some (.int (x + w)))) st h) : gl_G l D cA b Ln xs cells slots pc L st h := by
  intro p e s m below meth c H locs E ls C0 hK hE hP hD hS hl
  obtain ⟨j, hj⟩ := List.getElem?_of_mem (gg_ps_mem.mpr ⟨_, hx, rfl⟩ : (i, gg_V E (.int x)) ∈ gg_ps E L)
  exact lv_iinc C0.1 C0.2.1 hd hl.has hj (by rw [hw]) hi rfl (fun ls' h' => k p e s m below meth c H locs E ls' C0 hK hE hP hD hS (gg_L.put1 (v := .int (x + w)) hok h'))
theorem gl_goto {off : Int} (tgt : Nat) (hd : decode code pc = .ok (.goto off, 3)) (ht : (pc : Int) + off = (tgt : Int)) (k : gl_G l D cA b Ln xs cells slots tgt L st h) : gl_G l D cA b Ln xs cells slots pc L st h := by
  intro p e s m below meth c H locs E ls C0 hK hE hP hD hS hl
  exact lv_goto C0.1 C0.2.1 hd ht (k p e s m below meth c H locs E ls C0 hK hE hP hD hS hl)
theorem gl_if_eq {x : Int32} {off : Int} (tgt : Nat) (hd : decode code pc = .ok (.ifCond .eq off, 3)) (ht : (pc : Int) + off = (tgt : Int)) (kt : x = 0 → gl_G l D cA b Ln xs cells slots tgt L st h) (kf : ¬ x = 0 → gl_G l D cA b Ln xs cells slots (pc + 3) L st h) : gl_G l D cA b Ln xs cells slots pc L (.int x :: st) h := by
  intro p e s m below meth c H locs E ls C0 hK hE hP hD hS hl
  exact lv_if_eq C0.1 C0.2.1 hd ht (fun q => kt q p e s m below meth c H locs E ls C0 hK hE hP hD hS hl) (fun q => kf q p e s m below meth c H locs E ls C0 hK hE hP hD hS hl)
theorem gl_icmp_eq {x y : Int32} {off : Int} (tgt : Nat) (hd : decode code pc = .ok (.if_icmp .eq off, 3)) (ht : (pc : Int) + off = (tgt : Int)) (kt : x = y → gl_G l D cA b Ln xs cells slots tgt L st h) (kf : ¬ x = y → gl_G l D cA b Ln xs cells slots (pc + 3) L st h) : gl_G l D cA b Ln xs cells slots pc L (.int y :: .int x :: st) h := by
  intro p e s m below meth c H locs E ls C0 hK hE hP hD hS hl
  exact lv_icmp_eq C0.1 C0.2.1 hd ht (fun q => kt q p e s m below meth c H locs E ls C0 hK hE hP hD hS hl) (fun q => kf q p e s m below meth c H locs E ls C0 hK hE hP hD hS hl)
theorem gl_icmp_gt {x y : Int32} {off : Int} (tgt : Nat) (hd : decode code pc = .ok (.if_icmp .gt off, 3)) (ht : (pc : Int) + off = (tgt : Int)) (kt : y < x → gl_G l D cA b Ln xs cells slots tgt L st h) (kf : ¬ y < x → gl_G l D cA b Ln xs cells slots (pc + 3) L st h) : gl_G l D cA b Ln xs cells slots pc L (.int y :: .int x :: st) h := by
  intro p e s m below meth c H locs E ls C0 hK hE hP hD hS hl
  exact lv_icmp_gt C0.1 C0.2.1 hd ht (fun q => kt q p e s m below meth c H locs E ls C0 hK hE hP hD hS hl) (fun q => kf q p e s m below meth c H locs E ls C0 hK hE hP hD hS hl)
theorem gl_tableOut {dflt lo hi : Int} {offs : Array Int} {len : Nat} {x : Int32} (tgt : Nat) (hd : decode code pc = .ok (.tableswitch dflt lo hi offs, len)) (hx : x.toInt < lo ∨ hi < x.toInt) (ht : (pc : Int) + dflt = (tgt : Int)) (k : gl_G l D cA b Ln xs cells slots tgt L st h) : gl_G l D cA b Ln xs cells slots pc L (.int x :: st) h := by
  intro p e s m below meth c H locs E ls C0 hK hE hP hD hS hl
  exact lv_tableOut C0.1 C0.2.1 hd hx ht (k p e s m below meth c H locs E ls C0 hK hE hP hD hS hl)
theorem gl_tableIn {dflt lo hi : Int} {offs : Array Int} {len : Nat} {x : Int32} {off : Int} (tgt : Nat) (hd : decode code pc = .ok (.tableswitch dflt lo hi offs, len)) (h1 : ¬ x.toInt < lo) (h2 : ¬ hi < x.toInt) (ho : offs[(x.toInt - lo).toNat]? = some off) (ht : (pc : Int) + off = (tgt : Int)) (k : gl_G l D cA b Ln xs cells slots tgt L st h) : gl_G l D cA b Ln xs cells slots pc L (.int x :: st) h := by
  intro p e s m below meth c H locs E ls C0 hK hE hP hD hS hl
  exact lv_tableIn C0.1 C0.2.1 hd h1 h2 ho ht (k p e s m below meth c H locs E ls C0 hK hE hP hD hS hl)
theorem gl_sld {i : Nat} (hd : decode code pc = .ok (.iaload, 1)) (hi : i < Ln) (hL : Ln < 2 ^ 31) (k : gl_G l D cA b Ln xs cells slots (pc + 1) L (.int (xs i) :: st) h) : gl_G l D cA b Ln xs cells slots pc L (.int (nI i) :: .ref 99 :: st) h := by
  intro p e s m below meth c H locs E ls C0 hK hE hP hD hS hl
  have kk := k p e s m below meth c H locs E ls C0 hK hE hP hD hS hl
  show W p l e room_1 s m #[Value.ref b] below meth c H locs cells slots (lw_Z below #[Value.ref b] s) (F0 m pc ls (.int (nI i) :: .ref (E 99) :: st.map (gg_V E)))
  rw [hE]
  refine va_sld C0.1 C0.2.1 C0.2.2.2.2.2.2.1 C0.2.2.2.2.2.2.2.1 (Nat.not_le.mpr C0.2.2.2.2.2.2.2.1) hS (vp_in_nI hi hL) hd ?_
  rw [nI_clamp (by omega)]
  exact kk
theorem gl_slen (hd : decode code pc = .ok (.arraylength, 1)) (k : gl_G l D cA b Ln xs cells slots (pc + 1) L (.int (nI Ln) :: st) h) : gl_G l D cA b Ln xs cells slots pc L (.ref 99 :: st) h := by
  intro p e s m below meth c H locs E ls C0 hK hE hP hD hS hl
  have kk := k p e s m below meth c H locs E ls C0 hK hE hP hD hS hl
  show W p l e room_1 s m #[Value.ref b] below meth c H locs cells slots (lw_Z below #[Value.ref b] s) (F0 m pc ls (.ref (E 99) :: st.map (gg_V E)))
  rw [hE]
  exact va_slen C0.1 C0.2.1 C0.2.2.2.2.2.2.1 C0.2.2.2.2.2.2.2.1 (Nat.not_le.mpr C0.2.2.2.2.2.2.2.1) hS hd kk
/-- the end -/
theorem gl_ret (hd : decode code pc = .ok (.ireturn, 1)) (h1 : cells ≤ 600000) (h2 : slots ≤ 7302250) : gl_G l D cA b Ln xs cells slots pc L [.int 1] h := by
  intro p e s m below meth c H locs E ls C0 hK hE hP hD hS hl
  exact va_forget hS.2.2 (W.widen h1 h2 (lw_ret C0.1 C0.2.1 C0.2.2.1 C0.2.2.2.2.2.2.2.2.1 hd))
/-- script[i + c] -/
theorem gl_sc {q i0 : Nat} (cn : Nat) {ci : Int} (hL3 : L[3]? = some (some (.int (nI q)))) (hL0 : L[0]? = some (some (.ref 99))) (d0 : decode code pc = .ok (.aload_n 0, 1)) (d1 : decode code (pc + 1) = .ok (.iload_n 3, 1)) (d2 : decode code (pc + 2) = .ok (.iconst ci, 1)) (hc : Int32.ofInt ci = nI cn) (d3 : decode code (pc + 3) = .ok (.iadd, 1)) (d4 : decode code (pc + 4) = .ok (.iaload, 1)) (hi : q + cn < Ln) (hL : Ln < 2 ^ 31) (k : gl_G l D cA b Ln xs cells slots (pc + 5) L (.int (xs (q + cn)) :: st) h) : gl_G l D cA b Ln xs cells slots pc L st h := by
  refine gl_aload_n 0 d0 rfl hL0 ?_
  refine gl_iload_n 3 d1 rfl hL3 ?_
  refine gl_iconst d2 hc ?_
  refine gl_iadd d3 ?_
  rw [nI_add]
  exact gl_sld d4 hi hL k
/-- .. != 0 -/
theorem gl_bool {x : Int32} (d0 : decode code pc = .ok (.ifCond .eq 7, 3)) (d1 : decode code (pc + 3) = .ok (.iconst 1, 1)) (d2 : decode code (pc + 4) = .ok (.goto 4, 3)) (d3 : decode code (pc + 7) = .ok (.iconst 0, 1)) (k : gl_G l D cA b Ln xs cells slots (pc + 8) L (.int (if x = 0 then 0 else 1) :: st) h) : gl_G l D cA b Ln xs cells slots pc L (.int x :: st) h := by
  refine gl_if_eq (pc + 7) d0 (by omega) (fun q => ?_) (fun q => ?_)
  · rw [if_pos q] at k
    exact gl_iconst d3 (by decide) k
  · rw [if_neg q] at k
    refine gl_iconst d1 (v := 1) (by decide) ?_
    exact gl_goto (pc + 8) d2 (by omega) k
theorem gl_call {index n r0 ci nL' : Nat} {y : MethodName} {cc' : ByteArray} {rt' : Option FieldType} {As rest fs : List Value} {q : vw_C} {Post' : Option Value → List gg_C → Prop} (hM : gg_MV R_law index y cc' nL' rt' n) (hd : decode code pc = .ok (.invokevirtual index, 3)) (hC : gg_K l D cA 4 y cc' nL' rt' (.ref r0 :: As) h Post') (ho : h[r0]? = some (.inr (ci, fs))) (hc : classes[ci]? = some q) (hq : q.1 = y.cls) (hn : As.length = n) (hst : st = As.reverse ++ .ref r0 :: rest) (hrest : (rest.map fun v => v.category).sum ≤ 8) (h1 : cells ≤ 600000) (h2 : slots ≤ 7302250)
    (kk : ∀ (r : Option Value) (h' : List gg_C), Post' r h' → gl_G l D cA b Ln xs cells slots (pc + 3) L (r.toList ++ rest) h') : gl_G l D cA b Ln xs cells slots pc L st h := by
  intro p e s m below meth c H locs E ls C0 hK hE hP hD hS hl
  obtain ⟨m1, m2, m3, m4, m5, m6, m7⟩ := hM
  have hts := gl_hts C0
  subst hst
  have hA : ∀ q, s.heap.size ≤ q → (fun q => s.heap.size ≤ q) q := fun _ z => z
  have hF := gg_free hD hS hA
  have hcb : CallB room_1 s #[Value.ref b] R_law index y cc' nL' rt' (Cond.code y cc' nL' rt' :: lw_good) (gg_rm 4) 0 0 n := callB_of n hts (lw_goodIn (fun _ z => z) m1) rfl rfl rfl (hts _ m3) (hts _ m2) m4 ⟨by decide, by show 8 + (nL' + 11) + 120 ≤ 230; omega⟩
  have hrun := va_runV (H := H) (locs := locs) (cells := cells) (slots := slots) (meth := meth) (below := below) (p := p) (e := e) (g := F0 m pc ls (List.map (gg_V E) (As.reverse ++ .ref r0 :: rest))) (rest := rest.map (gg_V E)) (As := As.map (gg_V E)) (b := E r0) (C := y.cls) ⟨C0.1, C0.2.1, C0.2.2.2.1, C0.2.2.2.2.1, hts⟩ (hC E H.size) ⟨hcb, hts _ m6, hts _ m7⟩ ⟨gg_P.blind, by rw [← hq]; exact va_recv hK hP hc (gg_w_at ho), fun U hU hW => ⟨rfl, by rw [hU], by rw [hU]; exact hP, va_K.moved hW.alike hK, hD.weaken (fun _ _ _ _ => trivial)⟩⟩ rfl (by rw [List.length_map]; exact hn) hl.1 (by show List.map (gg_V E) _ = _; simp [gg_V]) (lv_room (by rw [gg_cats]; exact hrest)) hd ⟨h1, h2⟩
  intro T hT X
  obtain ⟨v, st₀, t, T', L', h0, X', hL, e1, e2, ⟨⟨r, h', hv, hp1, hP1, hK1, hD1⟩, hz, hk⟩, stp⟩ := hrun T hT X
  cases hv
  rw [h0] at hz hk
  have hS1 : va_S (fun q => s.heap.size ≤ q) s.heap T'.heap (locs ++ L') :=
    ⟨Nat.le_trans hS.1 (by rw [e1]; exact hz), fun q g1 g2 => by rw [e1, hk q (Nat.lt_of_lt_of_le g1 hS.1) (fun z => g2 (hF q z))]; exact hS.2.1 q g1 g2, fun q hq => by
      rcases List.mem_append.mp hq with z | z
      · exact hS.2.2 q z
      · exact hF _ (hL q z)⟩
  have := kk r h' hp1 p e s m below meth c T'.heap (locs ++ L') E ls C0 hK hE (by rw [e1]; exact hP1) (hD1.weaken (fun _ q _ z => hF q.1 z)) hS1 hl
  rw [List.map_append] at this
  obtain ⟨t2, a1, b1⟩ := this T' rfl X'
  refine ⟨t2, stp t2 ?_, b1⟩
  cases r <;> exact a1
theorem gl_new {index ci N : Nat} {C : String} {T : u_T} {ty : Nat → FieldType} {fs : List Value} (hc : classes[ci]? = some (C, T, N)) (hws : ∀ w ∈ u_ws C T N, w ∈ lw_good) (hty : ∀ k, k < N → parseFieldDescriptor (T k).2.2.1 = some (ty k)) (hk1 : Cond.classLink R_law index C ∈ lw_good) (hk2 : Cond.instantiable C N ∈ lw_good) (hk3 : Cond.initialized C ∈ lw_good) (hd : decode code pc = .ok (.new index, 3)) (hfs : ∀ j, j < N → defaultValue (ty j) = vp_V fs j) (hv : fs.all (gc_v 0) = true)
    (ho : gc_h h.length h = true) (hLo : gl_L h.length L = true) (hst : st.all (gl_v h.length) = true) (h99 : h.length < 99) (h1 : cells + 1 ≤ 600000) (h2 : slots + N ≤ 7302250) (k : gl_G l D cA b Ln xs (cells + 1) (slots + N) (pc + 3) L (.ref h.length :: st) (h ++ [.inr (ci, fs)])) : gl_G l D cA b Ln xs cells slots pc L st h := by
  intro p e s m below meth c H locs E ls C0 hK hE hP hD hS hl
  have hts := gl_hts C0
  have hv2 : ∀ E' : Nat → Nat, fs.map (gg_V E') = fs := by
    intro E'
    have := gc_st_eq (n := 0) (E := id) (E' := E') (fun i hi => absurd hi (Nat.not_lt_zero i)) hv
    rw [this]
    conv => rhs; rw [← List.map_id fs]
    apply List.map_congr_left
    intro v hvm
    cases v <;> rfl
  refine va_new C0.1 C0.2.1 hts hws ty hty C0.2.2.2.2.1 (hts _ hk1) (hts _ hk2) (hts _ hk3) hK hP hD hS (fun _ z => z) hc hfs h1 h2 hd (fun q H1 hP1 hD1 hS1 => ?_)
  have hE2 : ∀ i, i < h.length ∨ i = 99 → gc_E E h.length q i = E i := fun i hi => if_neg (by omega)
  have ew : gg_w cA E h ++ [(q, .inr (ci, fs))] = gg_w cA (gc_E E h.length q) (h ++ [.inr (ci, fs)]) := by
    rw [gc_push, gc_w_eq gc_E_lt (Nat.le_refl _) ho, gc_E_at]
    show _ = _ ++ [(q, Sum.inr (ci, fs.map (gg_V (gc_E E h.length q))))]
    rw [hv2]
  rw [ew] at hP1 hD1
  have := k p e s m below meth c H1 locs (gc_E E h.length q) ls C0 hK ((hE2 99 (Or.inr rfl)).trans hE) hP1 hD1 hS1 (gl_L_eq hE2 hLo hl)
  rw [List.map_cons, gl_st_eq hE2 hst] at this
  have e2 : gg_V (gc_E E h.length q) (.ref h.length) = .ref q := by
    show Value.ref (gc_E E h.length q h.length) = _
    rw [gc_E_at]
  rw [e2] at this
  exact this
theorem gl_ctor {index n r0 nL' : Nat} {R' : Room} {y : MethodName} {cc' : ByteArray} {As rest : List Value} {h1 : List gg_C} (hM : gc_M R_law index y cc' nL' n) (hd : decode code pc = .ok (.invokespecial index, 3)) (hC : gc_K l D cA R' y cc' nL' (.ref r0 :: As) h (fun h' => h' = h1)) (hn : As.length = n) (hR : R'.frames + 1 ≤ 7 ∧ 8 + (nL' + 11) + R'.locals ≤ 230) (hst : st = As.reverse ++ .ref r0 :: rest) (hrest : (rest.map fun v => v.category).sum ≤ 8)
    (hLo : gl_L h.length L = true) (hro : rest.all (gl_v h.length) = true) (h99 : h1.length ≤ 99) (hc1 : gc_h 99 h1 = true) (hl99 : h.length ≤ 99) (hcs : cells + R'.cells ≤ 600000 ∧ slots + R'.slots ≤ 7302250)
    (k : gl_G l D cA b Ln xs (cells + R'.cells) (slots + R'.slots) (pc + 3) L rest h1) : gl_G l D cA b Ln xs cells slots pc L st h := by
  intro p e s m below meth c H locs E ls C0 hK hE hP hD hS hl
  obtain ⟨m1, m2, m3, m4, m5, m6⟩ := hM
  have hts := gl_hts C0
  subst hst
  have hF := gg_free hD hS (fun _ z => z)
  have hcb : CallB room_1 s #[Value.ref b] R_law index y cc' nL' none (Cond.code y cc' nL' none :: lw_good) R' R'.cells R'.slots n := callB_of n hts (lw_goodIn (fun _ z => z) m1) rfl rfl rfl (hts _ m3) (hts _ m2) m4 hR
  refine gc_back (A1 := va_A (gg_w cA E h) H.size) (rest := rest.map (gg_V E)) (va_runI (As := As.map (gg_V E)) (b := E r0) ⟨C0.1, C0.2.1, C0.2.2.2.1, C0.2.2.2.2.1, hts⟩ (hC E H.size) ⟨hcb, m6, hts _ m5⟩ ⟨gg_P.blind, fun U hU hW => ⟨rfl, by rw [hU], by rw [hU]; exact hP, va_K.moved hW.alike hK, hD.weaken (fun _ _ _ _ => trivial)⟩⟩ rfl (by rw [List.length_map]; exact hn) hl.1 (by show List.map (gg_V E) _ = _; simp [gg_V]) (lv_room (by rw [gg_cats]; exact hrest)) hd hcs) hS hF (fun h' E' H1 locs1 hpost hE' hP1 hD1 hS1 => ?_)
  subst hpost
  have hE2 : ∀ i, i < 99 → (fun i => if i < 99 then E' i else E i) i = E' i := fun i hi => if_pos hi
  have hE3 : ∀ i, i < h.length ∨ i = 99 → (fun i => if i < 99 then E' i else E i) i = E i := fun i hi => by
    by_cases q : i < 99
    · show (if i < 99 then E' i else E i) = E i
      rw [if_pos q]
      exact hE' i (by omega)
    · exact if_neg q
  rw [← gc_w_eq (E := E') hE2 h99 hc1] at hP1 hD1
  have := k p e s m below meth c H1 locs1 (fun i => if i < 99 then E' i else E i) ls C0 hK ((hE3 99 (Or.inr rfl)).trans hE) hP1 (hD1.weaken (fun _ q _ z => hF q.1 z)) hS1 (gl_L_eq hE3 hLo hl)
  rw [gl_st_eq hE3 hro] at this
  exact this
end GL
