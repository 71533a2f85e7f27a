/-! CONSTRUCTORS: a made cell is a new place at the picture's end; E grows. -/
def gc_v (n : Nat) : Value → Bool
  | .ref a => decide (a < n)
  | _ => true
def gc_h (n : Nat) (h : List gg_C) : Bool := h.all (fun c => match c with | .inl _ => true | .inr q => q.2.all (gc_v n))
def gc_L (n : Nat) (L : List (Option Value)) : Bool := L.all (fun o => match o with | none => true | some v => gc_v n v)
theorem gc_v_eq {n : Nat} {E E' : Nat → Nat} (hE : ∀ i, i < n → E' i = E i) {v : Value} (hv : gc_v n v = true) : gg_V E' v = gg_V E v := by
  cases v <;> first | rfl | (simp only [gc_v, decide_eq_true_eq] at hv; simp only [gg_V, hE _ hv])
theorem gc_st_eq {n : Nat} {E E' : Nat → Nat} (hE : ∀ i, i < n → E' i = E i) {st : List Value} (hv : st.all (gc_v n) = true) : st.map (gg_V E') = st.map (gg_V E) := by
  apply List.map_congr_left
  intro v h
  exact gc_v_eq hE (List.all_eq_true.mp hv v h)
theorem gc_w_eq {n : Nat} {cA : ClassId} {E E' : Nat → Nat} (hE : ∀ i, i < n → E' i = E i) {h : List gg_C} (hn : h.length ≤ n) (hv : gc_h n h = true) : gg_w cA E' h = gg_w cA E h := by
  apply List.ext_getElem?
  intro i
  unfold gg_w
  rw [List.getElem?_mapIdx, List.getElem?_mapIdx]
  cases hi : h[i]? with
  | none => rfl
  | some c =>
    have hlt : i < h.length := (List.getElem?_eq_some_iff.mp hi).1
    have h2 := List.all_eq_true.mp hv c (List.mem_of_getElem? hi)
    show some (E' i, gg_c cA E' c) = some (E i, gg_c cA E c)
    rw [hE i (by omega)]
    cases c with
    | inl q => rfl
    | inr q =>
      have h3 : q.2.map (gg_V E') = q.2.map (gg_V E) := gc_st_eq hE h2
      show some (E i, Sum.inr (q.1, q.2.map (gg_V E'))) = some (E i, Sum.inr (q.1, q.2.map (gg_V E)))
      rw [h3]
theorem gc_L_eq {n nL : Nat} {ls : Array Slot} {E E' : Nat → Nat} (hE : ∀ i, i < n → E' i = E i) {L : List (Option Value)} (hv : gc_L n L = true) (hl : gg_L ls nL E L) : gg_L ls nL E' L := by
  refine ⟨hl.1, hl.2.1, fun i v hi => ?_⟩
  have h2 := List.all_eq_true.mp hv (some v) (List.mem_of_getElem? hi)
  rw [gc_v_eq hE h2]
  exact hl.2.2 i v hi
theorem gc_push {cA : ClassId} {E : Nat → Nat} {h : List gg_C} {c : gg_C} : gg_w cA E (h ++ [c]) = gg_w cA E h ++ [(E h.length, gg_c cA E c)] := by
  unfold gg_w
  rw [List.mapIdx_append]
  simp
/-- E with a new place -/
def gc_E (E : Nat → Nat) (n q : Nat) : Nat → Nat := fun i => if i = n then q else E i
theorem gc_E_lt {E : Nat → Nat} {n q : Nat} : ∀ i, i < n → gc_E E n q i = E i := fun i hi => if_neg (by omega)
theorem gc_E_at {E : Nat → Nat} {n q : Nat} : gc_E E n q n = q := if_pos rfl
theorem gc_one {D : va_G} {cl : List vw_C} {s : State} {cA cB : ClassId} {t1 t2 : List (ClassId × FieldType)} {i j : Nat} (h1 : va_K D cl t1 s) (h2 : va_K D cl t2 s) (g1 : t1[i]? = some (cA, .int)) (g2 : t2[j]? = some (cB, .int)) : cA = cB := by
  have e1 : s.vm.findClass ("[" ++ FieldType.int.toString) = some cA := (h1.2 i _ g1).2
  have e2 : s.vm.findClass ("[" ++ FieldType.int.toString) = some cB := (h2.2 j _ g2).2
  exact Option.some.inj (e1.symm.trans e2)
def gc_G (l : Launch) (D : va_G) (cA : ClassId) (R : Room) (own : String) (cc : ByteArray) (nL n0 mc ms : Nat) (Post : List gg_C → Prop) (cells slots pc : Nat) (L : List (Option Value)) (st : List Value) (h : List gg_C) : Prop :=
  ∀ (p : Program) (e : Env) (s : State) (m : MethodId) (args : Array Value) (below : List Frame) (meth : Method) (c : Code) (H : Heap) (locs : List Loc) (A : Nat → Prop) (E0 E : Nat → Nat) (ls : Array Slot) (Q : State → Prop),
    gg_X D cA own cc nL p s m args c A → meth.name = "<init>" → (∀ i, i < n0 → E i = E0 i) → va_P D classes (gg_w cA E h) H → va_D A (gg_w cA E h) → va_S A s.heap H locs → gg_L ls nL E L →
    (∀ (h' : List gg_C) (H' : Heap) (locs' : List Loc) (E' : Nat → Nat) (pc' : Nat) (ls' : Array Slot), decode cc pc' = .ok (.return_, 1) → Post h' → (∀ i, i < n0 → E' i = E0 i) → va_P D classes (gg_w cA E' h') H' → va_D A (gg_w cA E' h') → va_S A s.heap H' locs' → W p l e R s m args below meth c H' locs' mc ms Q (F0 m pc' ls' [])) →
    W p l e R s m args below meth c H locs cells slots Q (F0 m pc ls (st.map (gg_V E)))
def gc_Q (D : va_G) (cA : ClassId) (E : Nat → Nat) (n0 : Nat) (Post : List gg_C → Prop) (A1 : Nat → Prop) : Array Value → State → Outcome → State → Prop := fun _ st oc t =>
  (∃ (h' : List gg_C) (E' : Nat → Nat), oc = .returned none ∧ Post h' ∧ (∀ i, i < n0 → E' i = E i) ∧ va_P D classes (gg_w cA E' h') t.heap ∧ va_K D classes [(cA, .int)] t ∧ va_D A1 (gg_w cA E' h')) ∧ va_F A1 st t
def gc_K (l : Launch) (D : va_G) (cA : ClassId) (R : Room) (y : MethodName) (cc : ByteArray) (nL : Nat) (av : List Value) (h : List gg_C) (Post : List gg_C → Prop) : Prop :=
  ∀ (E : Nat → Nat) (sz : Nat), Met l y (Cond.code y cc nL none :: lw_good) R (va_Pc (av.map (gg_V E)) (gg_P D cA E h sz)) (gc_Q D cA E h.length Post (va_A (gg_w cA E h) sz)) R.cells R.slots (va_A (gg_w cA E h) sz)
section GC
variable {l : Launch} {D : va_G} {cA : ClassId} {R : Room} {own : String} {cc : ByteArray} {nL n0 mc ms : Nat} {Post : List gg_C → Prop} {cells slots pc : Nat} {L : List (Option Value)} {st : List Value} {h : List gg_C}
theorem gc_K.start {y : MethodName} {av : List Value} (ho : y.cls = own) (hy : plainName y.cls = true) (hi : y.name = "<init>") (hL : gg_a av ++ List.replicate (nL - (gg_a av).length) none = L) (hlen : (gg_a av).length ≤ nL)
    (body : gc_G l D cA R own cc nL h.length R.cells R.slots Post 0 0 0 L [] h) : gc_K l D cA R y cc nL av h Post := by
  intro E sz
  refine Met.ofW (cc := cc) (maxL := nL) (ret := none) hy rfl ?_
  intro p e s m args below meth c s₁ B hml hv
  obtain ⟨rfl, hsz, hP, hK, hD0⟩ := hv
  have hlocks := B.notSynchronized
  have hr := B.returns
  have hx := B.exec
  have hb := B.bytes
  subst hsz
  have hts := atoms_spec (ws := Cond.code y cc nL none :: lw_good) B.pre
  have hin : meth.name = "<init>" := (name_of_methodNamed B.named B.method).1.trans hi
  have hl := lv_entry (av.map (gg_V E)) (n := nL) (by rw [gg_a_len]; exact hlen)
  rw [lg_entry_eq]
  refine body p e s m _ below meth c s.heap [] (va_A (gg_w cA E h) s.heap.size) E E _ _ ⟨hx, hb, hml, fun w hw => hts w (List.mem_cons_of_mem _ hw), ho ▸ findClass_of_methodNamed B.named, fun q hq => Or.inr hq, hK⟩ hin (fun _ _ => rfl) hP hD0.self va_S.rf (gg_L.entry hL hl) ?_
  intro h' H' locs' E' pc' ls' hdg hpost hE hP' hD' hS'
  exact W.vret hx hb hr (fun t ht hW => ⟨⟨h', E', rfl, hpost, hE, by rw [ht]; exact hP', va_K.moved hW.alike hK, hD'⟩, hS'.F ht⟩) hS'.2.2 hdg
theorem gc_return (hd : decode cc pc = .ok (.return_, 1)) (hc : cells ≤ mc) (hs : slots ≤ ms) (hp : Post h) : gc_G l D cA R own cc nL n0 mc ms Post cells slots pc L [] h := by
  intro p e s m args below meth c H locs A E0 E ls Q X hin hE hP hD hS hl kr
  exact W.widen hc hs (kr h H locs E pc ls hd hp hE hP hD hS)
theorem gc_iconst {n : Int} {v : Int32} (hd : decode cc pc = .ok (.iconst n, 1)) (hv : Int32.ofInt n = v) (k : gc_G l D cA R own cc nL n0 mc ms Post cells slots (pc + 1) L (.int v :: st) h) : gc_G l D cA R own cc nL n0 mc ms Post cells slots pc L (st) h := by
  intro p e s m args below meth c H locs A E0 E ls Q X hin hE hP hD hS hl kr
  exact lv_iconst X.1 X.2.1 hd hv (k p e s m args below meth c H locs A E0 E ls Q X hin hE hP hD hS hl kr)
theorem gc_sipush {n : Int} {v : Int32} (hd : decode cc pc = .ok (.sipush n, 3)) (hv : (Int16.ofInt n).toInt32 = v) (k : gc_G l D cA R own cc nL n0 mc ms Post cells slots (pc + 3) L (.int v :: st) h) : gc_G l D cA R own cc nL n0 mc ms Post cells slots pc L (st) h := by
  intro p e s m args below meth c H locs A E0 E ls Q X hin hE hP hD hS hl kr
  exact lv_sipush X.1 X.2.1 hd hv (k p e s m args below meth c H locs A E0 E ls Q X hin hE hP hD hS hl kr)
theorem gc_lconst {n : Fin 2} {v : Int64} (hd : decode cc pc = .ok (.lconst n, 1)) (hv : Int64.ofNat (n : Nat) = v) (k : gc_G l D cA R own cc nL n0 mc ms Post cells slots (pc + 1) L (.long v :: st) h) : gc_G l D cA R own cc nL n0 mc ms Post cells slots pc L (st) h := by
  intro p e s m args below meth c H locs A E0 E ls Q X hin hE hP hD hS hl kr
  exact lv_lconst X.1 X.2.1 hd hv (k p e s m args below meth c H locs A E0 E ls Q X hin hE hP hD hS hl kr)
theorem gc_iload_n {i : Fin 4} (j : Nat) {x : Int32} (hd : decode cc pc = .ok (.iload_n i, 1)) (hj : (i : Nat) = j) (hx : L[j]? = some (some (.int x))) (k : gc_G l D cA R own cc nL n0 mc ms Post cells slots (pc + 1) L (.int x :: st) h) : gc_G l D cA R own cc nL n0 mc ms Post cells slots pc L (st) h := by
  intro p e s m args below meth c H locs A E0 E ls Q X hin hE hP hD hS hl kr
  exact lv_iload_n X.1 X.2.1 hd hj (hl.2.2 _ _ hx) (k p e s m args below meth c H locs A E0 E ls Q X hin hE hP hD hS hl kr)
theorem gc_aload_n {i : Fin 4} (j : Nat) {x : Nat} (hd : decode cc pc = .ok (.aload_n i, 1)) (hj : (i : Nat) = j) (hx : L[j]? = some (some (.ref x))) (k : gc_G l D cA R own cc nL n0 mc ms Post cells slots (pc + 1) L (.ref x :: st) h) : gc_G l D cA R own cc nL n0 mc ms Post cells slots pc L (st) h := by
  intro p e s m args below meth c H locs A E0 E ls Q X hin hE hP hD hS hl kr
  exact lv_aload_n X.1 X.2.1 hd hj (hl.2.2 _ _ hx) (k p e s m args below meth c H locs A E0 E ls Q X hin hE hP hD hS hl kr)
theorem gc_dup {v : Value} (hd : decode cc pc = .ok (.dup, 1)) (hc : v.category = 1) (k : gc_G l D cA R own cc nL n0 mc ms Post cells slots (pc + 1) L (v :: v :: st) h) : gc_G l D cA R own cc nL n0 mc ms Post cells slots pc L (v :: st) h := by
  intro p e s m args below meth c H locs A E0 E ls Q X hin hE hP hD hS hl kr
  exact lv_dup X.1 X.2.1 hd ((gg_V_cat E v).trans hc) (k p e s m args below meth c H locs A E0 E ls Q X hin hE hP hD hS hl kr)
theorem gc_obj {idx r : Nat} (hk1 : Cond.methodLink own idx Lib.objectInit ∈ lw_good) (hk2 : Cond.instanceMethod Lib.objectInit ∈ lw_good) (hk3 : Cond.code Lib.objectInit ⟨#[0xb1]⟩ 1 none ∈ lw_good) (hd : decode cc pc = .ok (.invokespecial idx, 3)) (hf : 1 ≤ R.frames) (hlo : (st.map fun v => v.category).sum + 12 ≤ R.locals) (k : gc_G l D cA R own cc nL n0 mc ms Post cells slots (pc + 3) L st h) : gc_G l D cA R own cc nL n0 mc ms Post cells slots pc L (.ref r :: st) h := by
  intro p e s m args below meth c H locs A E0 E ls Q X hin hE hP hD hS hl kr
  refine W.objInit X.1 X.2.1 X.2.2.2.2.1 (X.2.2.2.1 _ hk1) (X.2.2.2.1 _ hk2) (X.2.2.2.1 _ hk3) rfl (hl.1.trans X.2.2.1.symm) (a := E r) (rest := st.map (gg_V E)) rfl hd hf (by show 2 * 0 + _ + 12 ≤ _; rw [gg_cats]; omega) ?_
  exact k p e s m args below meth c H locs A E0 E ls Q X hin hE hP hD hS hl kr
/-- a new object, its fields at their defaults -/
theorem gc_new {index ci N : Nat} {C : String} {T : u_T} {ty : Nat → FieldType} {fs : List Value} (hc : classes[ci]? = some (C, T, N)) (hws : ∀ w ∈ u_ws C T N, w ∈ lw_good) (hty : ∀ k, k < N → parseFieldDescriptor (T k).2.2.1 = some (ty k)) (hk1 : Cond.classLink own index C ∈ lw_good) (hk2 : Cond.instantiable C N ∈ lw_good) (hk3 : Cond.initialized C ∈ lw_good) (hd : decode cc pc = .ok (.new index, 3)) (hfs : ∀ j, j < N → defaultValue (ty j) = vp_V fs j) (hv : fs.all (gc_v 0) = true)
    (ho : gc_h h.length h = true) (hLo : gc_L h.length L = true) (hst : st.all (gc_v h.length) = true) (hn : n0 ≤ h.length) (h1 : cells + 1 ≤ R.cells) (h2 : slots + N ≤ R.slots) (k : gc_G l D cA R own cc nL n0 mc ms Post (cells + 1) (slots + N) (pc + 3) L (.ref h.length :: st) (h ++ [.inr (ci, fs)])) : gc_G l D cA R own cc nL n0 mc ms Post cells slots pc L st h := by
  intro p e s m args below meth c H locs A E0 E ls Q X hin hE hP hD hS hl kr
  have hv2 : ∀ E' : Nat → Nat, fs.map (gg_V E') = fs := by
    intro E'
    have := gc_st_eq (n := 0) (E := id) (E' := E') (fun i hi => absurd hi (Nat.not_lt_zero i)) hv
    rw [this]
    conv => rhs; rw [← List.map_id fs]
    apply List.map_congr_left
    intro v hvm
    cases v <;> rfl
  refine va_new X.1 X.2.1 X.2.2.2.1 hws ty hty X.2.2.2.2.1 (X.2.2.2.1 _ hk1) (X.2.2.2.1 _ hk2) (X.2.2.2.1 _ hk3) X.2.2.2.2.2.2 hP hD hS X.2.2.2.2.2.1 hc hfs h1 h2 hd (fun q H1 hP1 hD1 hS1 => ?_)
  have hE2 : ∀ i, i < h.length → gc_E E h.length q i = E i := gc_E_lt
  have ew : gg_w cA E h ++ [(q, .inr (ci, fs))] = gg_w cA (gc_E E h.length q) (h ++ [.inr (ci, fs)]) := by
    rw [gc_push, gc_w_eq hE2 (Nat.le_refl _) ho, gc_E_at]
    show _ = _ ++ [(q, Sum.inr (ci, fs.map (gg_V (gc_E E h.length q))))]
    rw [hv2]
  rw [ew] at hP1 hD1
  have := k p e s m args below meth c H1 locs A E0 (gc_E E h.length q) ls Q X ‹_› (fun i hi => (gc_E_lt i (by omega)).trans (hE i hi)) hP1 hD1 hS1 (gc_L_eq hE2 hLo hl) kr
  rw [List.map_cons, gc_st_eq hE2 hst] at this
  have e2 : gg_V (gc_E E h.length q) (.ref h.length) = .ref q := by
    show Value.ref (gc_E E h.length q h.length) = _
    rw [gc_E_at]
  rw [e2] at this
  exact this
/-- a new int array, all 0 -/
theorem gc_newa {N : Nat} (hk : Cond.arrayClass .int ∈ lw_good) (hd : decode cc pc = .ok (.newarray .int, 2)) (ho : gc_h h.length h = true) (hLo : gc_L h.length L = true) (hst : st.all (gc_v h.length) = true) (hn : n0 ≤ h.length) (hN : N ≤ 1000) (h1 : cells + 1 ≤ R.cells) (h2 : slots + N ≤ R.slots) (k : gc_G l D cA R own cc nL n0 mc ms Post (cells + 1) (slots + N) (pc + 2) L (.ref h.length :: st) (h ++ [.inl (N, fun _ => 0)])) : gc_G l D cA R own cc nL n0 mc ms Post cells slots pc L (.int (nI N) :: st) h := by
  intro p e s m args below meth c H locs A E0 E ls Q X hin hE hP hD hS hl kr
  refine va_newa X.1 X.2.1 (atype := .int) (X.2.2.2.1 _ hk) (ty := .int) rfl X.2.2.2.2.2.2 hP hD hS X.2.2.2.2.2.1 (N' := N) (a0 := (N, .inl (fun _ => 0))) (fun _ => rfl) (nI_pos (by omega)) (nI_clamp (by omega)) (by show N * 4 ≤ _; omega) h1 h2 hd (fun q cB H1 hK1 hP1 hD1 hS1 => ?_)
  have hcc : cA = cB := gc_one (i := 0) (j := 1) X.2.2.2.2.2.2 hK1 rfl rfl
  subst hcc
  have hE2 : ∀ i, i < h.length → gc_E E h.length q i = E i := gc_E_lt
  have ew : gg_w cA E h ++ [(q, .inl (cA, N, .inl (fun _ => 0)))] = gg_w cA (gc_E E h.length q) (h ++ [.inl (N, fun _ => 0)]) := by
    rw [gc_push, gc_w_eq hE2 (Nat.le_refl _) ho, gc_E_at]
    rfl
  rw [ew] at hP1 hD1
  have := k p e s m args below meth c H1 locs A E0 (gc_E E h.length q) ls Q X ‹_› (fun i hi => (gc_E_lt i (by omega)).trans (hE i hi)) hP1 hD1 hS1 (gc_L_eq hE2 hLo hl) kr
  rw [List.map_cons, gc_st_eq hE2 hst] at this
  have e2 : gg_V (gc_E E h.length q) (.ref h.length) = .ref q := by
    show Value.ref (gc_E E h.length q h.length) = _
    rw [gc_E_at]
  rw [e2] at this
  exact this
/-- a final field, a reference -/
def gc_U (own : String) (index ci k : Nat) (ty : FieldType) (fin : Bool) : Prop := ∃ (C : String) (T : u_T) (N : Nat) (ty0 : Nat → FieldType), classes[ci]? = some (C, T, N) ∧ k < N ∧ (∀ w ∈ u_ws C T N, w ∈ lw_good) ∧ Cond.fieldLink own index (T k).1 (T k).2.1 (T k).2.2.1 ∈ lw_good ∧ (∀ k, k < N → parseFieldDescriptor (T k).2.2.1 = some (ty0 k)) ∧ (∀ a, a < N → ∀ b, b < N → a ≠ b → (T a).2.1 ≠ (T b).2.1) ∧ (T k).2.2.2 = fin ∧ parseFieldDescriptor (T k).2.2.1 = some ty ∧ (T k).1 = own
theorem gc_putF {index ci q r x : Nat} {ty : FieldType} {fs : List Value} (hf : gc_U own index ci q ty true) (hd : decode cc pc = .ok (.putfield index, 3)) (hn : ∀ a, narrow ty (.ref a) = .ref a) (hfit : ∀ a, fits ty (.ref a) = true) (ho : h[r]? = some (.inr (ci, fs))) (hq : q < fs.length) (k : gc_G l D cA R own cc nL n0 mc ms Post cells slots (pc + 3) L st (h.set r (.inr (ci, fs.set q (.ref x))))) : gc_G l D cA R own cc nL n0 mc ms Post cells slots pc L (.ref x :: .ref r :: st) h := by
  intro p e s m args below meth c H locs A E0 E ls Q X hin hE hP hD hS hl kr
  obtain ⟨C, T, N, ty0, g1, g2, g3, g4, g5, g6, g7, g8, g9⟩ := hf
  refine va_putF X.1 X.2.1 X.2.2.2.1 g3 ty0 g5 g6 X.2.2.2.2.1 X.2.2.2.2.2.2 hP hD hS r (gg_w_at ho) g1 q g2 (X.2.2.2.1 _ g4) (fun _ z => z) g7 hin g9 (v := .ref (E x)) g8 (hn _) (hfit _) (by rw [List.length_map]; exact hq) hd (fun H1 locs1 hP1 hD1 hS1 => ?_)
  have e1 : (gg_w cA E h).set r (E r, .inr (ci, (fs.map (gg_V E)).set q (.ref (E x)))) = gg_w cA E (h.set r (.inr (ci, fs.set q (.ref x)))) := by
    rw [gg_w_set]
    simp only [gg_c, List.map_set]
    rfl
  rw [e1] at hP1 hD1
  exact k p e s m args below meth c H1 locs1 A E0 E ls Q X hin hE hP1 hD1 hS1 hl kr
theorem gc_put {index ci q r : Nat} {ty : FieldType} {fs : List Value} {v : Value} (hf : gc_U own index ci q ty false) (hd : decode cc pc = .ok (.putfield index, 3)) (hg : ∀ E, gg_V E v = v) (hn : narrow ty v = v) (hfit : fits ty v = true) (ho : h[r]? = some (.inr (ci, fs))) (hq : q < fs.length) (k : gc_G l D cA R own cc nL n0 mc ms Post cells slots (pc + 3) L st (h.set r (.inr (ci, fs.set q v)))) : gc_G l D cA R own cc nL n0 mc ms Post cells slots pc L (v :: .ref r :: st) h := by
  intro p e s m args below meth c H locs A E0 E ls Q X hin hE hP hD hS hl kr
  obtain ⟨C, T, N, ty0, g1, g2, g3, g4, g5, g6, g7, g8, g9⟩ := hf
  rw [List.map_cons, hg]
  refine va_put X.1 X.2.1 X.2.2.2.1 g3 ty0 g5 g6 X.2.2.2.2.1 X.2.2.2.2.2.2 hP hD hS r (gg_w_at ho) g1 q g2 (X.2.2.2.1 _ g4) (fun _ z => z) g7 (v := v) g8 hn hfit (by rw [List.length_map]; exact hq) hd (fun H1 locs1 hP1 hD1 hS1 => ?_)
  have e1 : (gg_w cA E h).set r (E r, .inr (ci, (fs.map (gg_V E)).set q v)) = gg_w cA E (h.set r (.inr (ci, fs.set q v))) := by
    rw [gg_w_set]
    simp only [gg_c, List.map_set, hg]
  rw [e1] at hP1 hD1
  exact k p e s m args below meth c H1 locs1 A E0 E ls Q X hin hE hP1 hD1 hS1 hl kr
theorem gc_back {p : Program} {e : Env} {s : State} {m : MethodId} {args : Array Value} {below : List Frame} {meth : Method} {c : Code} {H : Heap} {locs : List Loc} {Q : State → Prop} {A A1 : Nat → Prop} {E : Nat → Nat} {ls : Array Slot} {st0 rest : List Value} {a : Array Value} {n1 kc ks : Nat} {Post' : List gg_C → Prop}
    (hr : va_Run p l e R s m args below meth c H locs cells slots kc ks (F0 m pc ls st0) rest (gc_Q D cA E n1 Post' A1 a) A1) (hS : va_S A s.heap H locs) (hA : ∀ q, A1 q → A q)
    (kk : ∀ (h' : List gg_C) (E' : Nat → Nat) (H1 : Heap) (locs1 : List Loc), Post' h' → (∀ i, i < n1 → E' i = E i) → va_P D classes (gg_w cA E' h') H1 → va_D A1 (gg_w cA E' h') → va_S A s.heap H1 locs1 → W p l e R s m args below meth c H1 locs1 (cells + kc) (slots + ks) Q (F0 m (pc + 3) ls rest)) : W p l e R s m args below meth c H locs cells slots Q (F0 m pc ls st0) := by
  intro T hT X
  obtain ⟨v, st₀, t, T', L', h0, X', hL, e1, e2, ⟨⟨h', E', hv, hp, hE', hP1, hK1, hD1⟩, hz, hk⟩, stp⟩ := hr T hT X
  cases hv
  rw [h0] at hz hk
  obtain ⟨t2, a1, b1⟩ := kk h' E' T'.heap (locs ++ L') hp hE' (by rw [e1]; exact hP1) hD1
    ⟨Nat.le_trans hS.1 (by rw [e1]; exact hz), fun q h1 h2 => by rw [e1, hk q (Nat.lt_of_lt_of_le h1 hS.1) (fun z => h2 (hA q z))]; exact hS.2.1 q h1 h2, fun q hq => by
      rcases List.mem_append.mp hq with h | h
      · exact hS.2.2 q h
      · exact hA _ (hL q h)⟩ T' rfl X'
  exact ⟨t2, stp t2 a1, b1⟩
/-- what the tables say of a constructor's call -/
def gc_M (own : String) (index : Nat) (y : MethodName) (cc : ByteArray) (nL : Nat) (n : Nat) : Prop :=
  Cond.code y cc nL none ∈ lw_good ∧ Cond.methodLink own index y ∈ lw_good ∧ Cond.initialized y.cls ∈ lw_good ∧ (y.cls ≠ "java/lang/invoke/MethodHandle" ∧ y.cls ≠ "java/lang/invoke/VarHandle" ∧ (parseMethodDescriptor y.desc).map (fun d => d.parameters.length) = some n) ∧ Cond.instanceMethod y ∈ lw_good ∧ y.name = "<init>"
theorem gc_call {index n r0 nL' : Nat} {R' : Room} {y : MethodName} {cc' : ByteArray} {As rest : List Value} {h1 : List gg_C} (hM : gc_M own index y cc' nL' n) (hd : decode cc pc = .ok (.invokespecial index, 3)) (hC : gc_K l D cA R' y cc' nL' (.ref r0 :: As) h (fun h' => h' = h1)) (hn : As.length = n) (hR : R'.frames + 1 ≤ R.frames ∧ 8 + (nL' + 11) + R'.locals ≤ R.locals) (hst : st = As.reverse ++ .ref r0 :: rest) (hrest : (rest.map fun v => v.category).sum ≤ 8)
    (hLo : gc_L h.length L = true) (hro : rest.all (gc_v h.length) = true) (hn0 : n0 ≤ h.length) (hcs : cells + R'.cells ≤ R.cells ∧ slots + R'.slots ≤ R.slots)
    (k : gc_G l D cA R own cc nL n0 mc ms Post (cells + R'.cells) (slots + R'.slots) (pc + 3) L rest h1) : gc_G l D cA R own cc nL n0 mc ms Post cells slots pc L st h := by
  intro p e s m args below meth c H locs A E0 E ls Q X hin hE hP hD hS hl kr
  obtain ⟨m1, m2, m3, m4, m5, m6⟩ := hM
  obtain ⟨hx, hb, hml, hts, hown, hA, hK⟩ := id X
  subst hst
  have hF := gg_free hD hS hA
  have hcb : CallB R s args own index y cc' nL' none (Cond.code y cc' nL' none :: lw_good) R' R'.cells R'.slots n := callB_of n hts (lw_goodIn (fun _ z => z) m1) rfl rfl rfl (hts _ m3) (hts _ m2) m4 hR
  refine gc_back (A1 := va_A (gg_w cA E h) H.size) (rest := rest.map (gg_V E)) (va_runI (As := As.map (gg_V E)) (b := E r0) ⟨hx, hb, hml, hown, hts⟩ (hC E H.size) ⟨hcb, m6, hts _ m5⟩ ⟨gg_P.blind, fun U hU hW => ⟨rfl, by rw [hU], by rw [hU]; exact hP, va_K.moved hW.alike hK, hD.weaken (fun _ _ _ _ => trivial)⟩⟩ rfl (by rw [List.length_map]; exact hn) hl.1 (by show List.map (gg_V E) _ = _; simp [gg_V]) (lv_room (by rw [gg_cats]; exact hrest)) hd hcs) hS hF (fun h' E' H1 locs1 hpost hE' hP1 hD1 hS1 => ?_)
  subst hpost
  have := k p e s m args below meth c H1 locs1 A E0 E' ls Q X hin (fun i hi => (hE' i (by omega)).trans (hE i hi)) hP1 (hD1.weaken (fun _ q _ z => hF q.1 z)) hS1 (gc_L_eq hE' hLo hl) kr
  rw [gc_st_eq hE' hro] at this
  exact this
end GC
