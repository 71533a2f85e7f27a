/-! MY OWN LAYER. A picture of the heap is a list of cells (gg_C): int arrays and objects; a reference in it is a PLACE of that list.
gg_G: from this pc, with these locals, this stack and this picture, the method comes to its end with Post. gg_K: a method's contract in the same words. -/
theorem lw_goodIn {x : Cond} {big : List Cond} (hb : ∀ w ∈ lw_good, w ∈ big) (hx : x ∈ lw_good) : GoodIn big (x :: lw_good) := by
  intro w hw
  have h1 : w ∈ lw_good := by
    rcases List.mem_cons.mp hw with h | h
    · rw [h]; exact hx
    · exact h
  exact ⟨hb w h1, good_of_word (List.mem_filter.mp h1).2⟩
def gg_V (E : Nat → Nat) : Value → Value
  | .ref a => .ref (E a)
  | .int x => .int x
  | .long x => .long x
  | .float x => .float x
  | .double x => .double x
  | .null => .null
  | .retAddr x => .retAddr x
theorem gg_V_cat (E : Nat → Nat) (v : Value) : (gg_V E v).category = v.category := by cases v <;> rfl
abbrev gg_C : Type := (Nat × (Nat → Int32)) ⊕ (Nat × List Value)
def gg_c (cA : ClassId) (E : Nat → Nat) : gg_C → va_E
  | .inl q => .inl (cA, q.1, .inl q.2)
  | .inr q => .inr (q.1, q.2.map (gg_V E))
def gg_w (cA : ClassId) (E : Nat → Nat) (h : List gg_C) : va_W := h.mapIdx (fun i c => (E i, gg_c cA E c))
theorem gg_w_at {cA : ClassId} {E : Nat → Nat} {h : List gg_C} {k : Nat} {c : gg_C} (hk : h[k]? = some c) : (gg_w cA E h)[k]? = some (E k, gg_c cA E c) := by
  simp [gg_w, List.getElem?_mapIdx, hk]
theorem gg_w_set {cA : ClassId} {E : Nat → Nat} {h : List gg_C} {k : Nat} {c : gg_C} : gg_w cA E (h.set k c) = (gg_w cA E h).set k (E k, gg_c cA E c) := by
  apply List.ext_getElem?
  intro i
  by_cases hki : k = i
  · subst hki
    by_cases hl : k < h.length
    · simp [gg_w, List.getElem?_mapIdx, List.getElem?_set, hl]
    · simp [gg_w, List.getElem?_mapIdx, List.getElem?_set, hl]
  · simp [gg_w, List.getElem?_mapIdx, List.getElem?_set, hki]
def gg_L (ls : Array Slot) (nL : Nat) (E : Nat → Nat) (L : List (Option Value)) : Prop := ls.size = nL ∧ lv_wf ls ∧ ∀ (i : Nat) (v : Value), L[i]? = some (some v) → ls[i]? = some (.val (gg_V E v))
def gg_ps (E : Nat → Nat) (L : List (Option Value)) : List (Nat × Value) := L.zipIdx.filterMap (fun q => q.1.map (fun v => (q.2, gg_V E v)))
theorem gg_ps_mem {E : Nat → Nat} {L : List (Option Value)} {q : Nat × Value} : q ∈ gg_ps E L ↔ ∃ v, L[q.1]? = some (some v) ∧ q.2 = gg_V E v := by
  unfold gg_ps
  rw [List.mem_filterMap]
  constructor
  · rintro ⟨⟨o, i⟩, hm, he⟩
    cases o with
    | none => simp at he
    | some v =>
      have he' : (i, gg_V E v) = q := by simpa using he
      subst he'
      exact ⟨v, List.mem_zipIdx_iff_getElem?.mp hm, rfl⟩
  · rintro ⟨v, h1, h2⟩
    exact ⟨(some v, q.1), List.mem_zipIdx_iff_getElem?.mpr h1, by simp [← h2]⟩
theorem gg_L.has {ls : Array Slot} {nL : Nat} {E : Nat → Nat} {L : List (Option Value)} (h : gg_L ls nL E L) : lv_has ls nL (gg_ps E L) :=
  ⟨h.1, h.2.1, fun q hq => by
    obtain ⟨v, h1, h2⟩ := gg_ps_mem.mp hq
    rw [h2]
    exact h.2.2 _ _ h1⟩
/-- no long lies so that a store at i would cut it -/
def gg_ok (L : List (Option Value)) : Nat → Bool
  | 0 => true
  | i + 1 => match L[i]? with
    | some (some v) => v.category == 1
    | _ => true
theorem gg_ok_at {L : List (Option Value)} {i j : Nat} {v : Value} (h : gg_ok L i = true) (hj : j + 1 = i) (hv : L[j]? = some (some v)) : v.category = 1 := by
  subst hj
  simpa [gg_ok, hv] using h
theorem gg_L.put1 {ls' : Array Slot} {nL : Nat} {E : Nat → Nat} {L : List (Option Value)} {i : Nat} {v : Value} (hok : gg_ok L i = true)
    (h' : lv_has ls' nL ((i, gg_V E v) :: (gg_ps E L).filter (fun q => !(q.1 == i) && !(q.1 + 1 == i && q.2.category == 2)))) : gg_L ls' nL E (L.set i (some v)) := by
  refine ⟨h'.1, h'.2.1, fun j w hj => ?_⟩
  by_cases hji : j = i
  · subst hji
    have hlt : j < (L.set j (some v)).length := (List.getElem?_eq_some_iff.mp hj).1
    rw [List.getElem?_set_self (by simpa using hlt)] at hj
    have hw : v = w := Option.some.inj (Option.some.inj hj)
    subst hw
    exact h'.2.2 (j, gg_V E v) List.mem_cons_self
  · rw [List.getElem?_set_ne (Ne.symm hji)] at hj
    refine h'.2.2 (j, gg_V E w) (List.mem_cons_of_mem _ (List.mem_filter.mpr ⟨gg_ps_mem.mpr ⟨w, hj, rfl⟩, ?_⟩))
    show (!(j == i) && !(j + 1 == i && (gg_V E w).category == 2)) = true
    rw [gg_V_cat]
    by_cases h1 : j + 1 = i
    · have h2 := gg_ok_at hok h1 hj
      simp [hji, h2]
    · simp [hji, h1]
theorem gg_L.put2 {ls' : Array Slot} {nL : Nat} {E : Nat → Nat} {L : List (Option Value)} {i : Nat} {v : Value} (hok : gg_ok L i = true)
    (h' : lv_has ls' nL ((i, gg_V E v) :: (gg_ps E L).filter (fun q => !(q.1 == i) && (!(q.1 == i + 1) && !(q.1 + 1 == i && q.2.category == 2))))) : gg_L ls' nL E ((L.set i (some v)).set (i + 1) none) := by
  refine ⟨h'.1, h'.2.1, fun j w hj => ?_⟩
  by_cases hj1 : j = i + 1
  · subst hj1
    have hlt : i + 1 < ((L.set i (some v)).set (i + 1) none).length := (List.getElem?_eq_some_iff.mp hj).1
    rw [List.getElem?_set_self (by simpa using hlt)] at hj
    simp at hj
  · rw [List.getElem?_set_ne (Ne.symm hj1)] at hj
    by_cases hji : j = i
    · subst hji
      have hlt : j < (L.set j (some v)).length := (List.getElem?_eq_some_iff.mp hj).1
      rw [List.getElem?_set_self (by simpa using hlt)] at hj
      have hw : v = w := Option.some.inj (Option.some.inj hj)
      subst hw
      exact h'.2.2 (j, gg_V E v) List.mem_cons_self
    · rw [List.getElem?_set_ne (Ne.symm hji)] at hj
      refine h'.2.2 (j, gg_V E w) (List.mem_cons_of_mem _ (List.mem_filter.mpr ⟨gg_ps_mem.mpr ⟨w, hj, rfl⟩, ?_⟩))
      show (!(j == i) && (!(j == i + 1) && !(j + 1 == i && (gg_V E w).category == 2))) = true
      rw [gg_V_cat]
      by_cases h1 : j + 1 = i
      · have h2 := gg_ok_at hok h1 hj
        simp [hji, hj1, h2]
      · simp [hji, hj1, h1]
/-- the locals with which a method begins -/
def gg_a : List Value → List (Option Value)
  | [] => []
  | v :: vs => if v.category = 2 then some v :: none :: gg_a vs else some v :: gg_a vs
theorem gg_a_len (E : Nat → Nat) : ∀ av : List Value, (lg_sl (av.map (gg_V E))).length = (gg_a av).length
  | [] => rfl
  | v :: vs => by
    have ih := gg_a_len E vs
    unfold lg_sl at ih ⊢
    rw [List.map_cons, List.flatMap_cons, List.length_append, ih, gg_V_cat, show gg_a (v :: vs) = if v.category = 2 then some v :: none :: gg_a vs else some v :: gg_a vs from rfl]
    by_cases hc : v.category = 2
    · rw [if_pos hc, if_pos hc]; simp only [List.length_cons, List.length_nil]; omega
    · rw [if_neg hc, if_neg hc]; simp only [List.length_cons, List.length_nil]; omega
theorem gg_a_mem (E : Nat → Nat) : ∀ (av : List Value) (b i : Nat) (v : Value), (gg_a av)[i]? = some (some v) → (b + i, gg_V E v) ∈ lv_args b (av.map (gg_V E))
  | [], b, i, v, h => by simp [gg_a] at h
  | w :: vs, b, i, v, h => by
    rw [List.map_cons]
    unfold lv_args
    rw [gg_V_cat]
    unfold gg_a at h
    by_cases hc : w.category = 2
    · rw [if_pos hc] at h ⊢
      match i, h with
      | 0, h =>
        rw [List.getElem?_cons_zero] at h
        have hw : w = v := Option.some.inj (Option.some.inj h)
        subst hw
        exact List.mem_cons_self
      | 1, h => simp at h
      | i + 2, h =>
        rw [List.getElem?_cons_succ, List.getElem?_cons_succ] at h
        have := gg_a_mem E vs (b + 2) i v h
        rw [show b + 2 + i = b + (i + 2) by omega] at this
        exact List.mem_cons_of_mem _ this
    · rw [if_neg hc] at h ⊢
      match i, h with
      | 0, h =>
        rw [List.getElem?_cons_zero] at h
        have hw : w = v := Option.some.inj (Option.some.inj h)
        subst hw
        exact List.mem_cons_self
      | i + 1, h =>
        rw [List.getElem?_cons_succ] at h
        have := gg_a_mem E vs (b + 1) i v h
        rw [show b + 1 + i = b + (i + 1) by omega] at this
        exact List.mem_cons_of_mem _ this
theorem gg_L.entry {ls : Array Slot} {nL k : Nat} {E : Nat → Nat} {av : List Value} {L : List (Option Value)} (hL : gg_a av ++ List.replicate k none = L) (h : lv_has ls nL (lv_args 0 (av.map (gg_V E)))) : gg_L ls nL E L := by
  refine ⟨h.1, h.2.1, fun i v hi => ?_⟩
  subst hL
  have h1 : (gg_a av)[i]? = some (some v) := by
    by_cases hl : i < (gg_a av).length
    · rwa [List.getElem?_append_left hl] at hi
    · rw [List.getElem?_append_right (by omega)] at hi
      have := List.mem_of_getElem? hi
      simp [List.mem_replicate] at this
  have h2 := gg_a_mem E av 0 i v h1
  rw [Nat.zero_add] at h2
  exact h.2.2 _ h2
def gg_rm (d : Nat) : Room := { frames := d, cells := 0, slots := 0, locals := 30 * d }
/-- what stays the same while a method runs -/
def gg_X (D : va_G) (cA : ClassId) (own : String) (cc : ByteArray) (nL : Nat) (p : Program) (s : State) (m : MethodId) (args : Array Value) (c : Code) (A : Nat → Prop) : Prop :=
  p.tables.exec = Jvm.exec ∧ c.code = cc ∧ c.maxLocals = nL ∧ (∀ w ∈ lw_good, w.before args s = true) ∧ s.vm.findClass own = some m.cls ∧ (∀ q, s.heap.size ≤ q → A q) ∧ va_K D classes [(cA, .int)] s
def gg_R (cc : ByteArray) (rt : Option FieldType) (pc : Nat) (r : Option Value) : Prop :=
  (r = none ∧ rt = none ∧ decode cc pc = .ok (.return_, 1)) ∨ (∃ v : Int32, r = some (.int v) ∧ decode cc pc = .ok (.ireturn, 1) ∧ ∃ ty, rt = some ty ∧ narrow ty (.int v) = .int v) ∨ (∃ v : Int64, r = some (.long v) ∧ rt = some .long ∧ decode cc pc = .ok (.lreturn, 1))
def gg_G (l : Launch) (D : va_G) (cA : ClassId) (d : Nat) (own : String) (cc : ByteArray) (nL : Nat) (rt : Option FieldType) (Post : Option Value → List gg_C → Prop) (pc : Nat) (L : List (Option Value)) (st : List Value) (h : List gg_C) : Prop :=
  ∀ (p : Program) (e : Env) (s : State) (m : MethodId) (args : Array Value) (below : List Frame) (meth : Method) (c : Code) (H : Heap) (locs : List Loc) (A : Nat → Prop) (E : Nat → Nat) (ls : Array Slot) (Q : State → Prop),
    gg_X D cA own cc nL p s m args c A → va_P D classes (gg_w cA E h) H → va_D A (gg_w cA E h) → va_S A s.heap H locs → gg_L ls nL E L →
    (∀ (r : Option Value) (h' : List gg_C) (H' : Heap) (locs' : List Loc) (pc' : Nat) (ls' : Array Slot), gg_R cc rt pc' r → Post r h' → va_P D classes (gg_w cA E h') H' → va_D A (gg_w cA E h') → va_S A s.heap H' locs' → W p l e (gg_rm d) s m args below meth c H' locs' 0 0 Q (F0 m pc' ls' (r.map (gg_V E)).toList)) →
    W p l e (gg_rm d) s m args below meth c H locs 0 0 Q (F0 m pc ls (st.map (gg_V E)))
abbrev gg_P (D : va_G) (cA : ClassId) (E : Nat → Nat) (h : List gg_C) (sz : Nat) (U : State) : Prop :=
  U.heap.size = sz ∧ va_P D classes (gg_w cA E h) U.heap ∧ va_K D classes [(cA, .int)] U ∧ va_D (fun _ => True) (gg_w cA E h)
theorem gg_P.blind {D : va_G} {cA : ClassId} {E : Nat → Nat} {h : List gg_C} {sz : Nat} {av : List Value} : FrameBlind (va_Pc av (gg_P D cA E h sz)) := by
  intro a U g mk q
  obtain ⟨q0, q1, qP, qK, qD⟩ := q
  exact ⟨q0, q1, qP, va_K.moved (u := U) (U := U.calling g mk a) (Vm.Alike.refl U.vm) qK, qD⟩
def gg_Q (D : va_G) (cA : ClassId) (E : Nat → Nat) (Post : Option Value → List gg_C → Prop) (A1 : Nat → Prop) : Array Value → State → Outcome → State → Prop := fun _ st oc t =>
  (∃ (r : Option Value) (h' : List gg_C), oc = .returned (r.map (gg_V E)) ∧ Post r h' ∧ va_P D classes (gg_w cA E h') t.heap ∧ va_K D classes [(cA, .int)] t ∧ va_D A1 (gg_w cA E h')) ∧ va_F A1 st t
/-- a method's contract -/
def gg_K (l : Launch) (D : va_G) (cA : ClassId) (d : Nat) (y : MethodName) (cc : ByteArray) (nL : Nat) (rt : Option FieldType) (av : List Value) (h : List gg_C) (Post : Option Value → List gg_C → Prop) : Prop :=
  ∀ (E : Nat → Nat) (sz : Nat), Met l y (Cond.code y cc nL rt :: lw_good) (gg_rm d) (va_Pc (av.map (gg_V E)) (gg_P D cA E h sz)) (gg_Q D cA E Post (va_A (gg_w cA E h) sz)) 0 0 (va_A (gg_w cA E h) sz)
/-- the end: this answer, this picture -/
abbrev gg_is (r : Option Value) (h : List gg_C) : Option Value → List gg_C → Prop := fun r' h' => r' = r ∧ h' = h
theorem gg_ofW {l : Launch} {y : MethodName} {ws ws' : List Cond} {rm : Room} {Pc : Array Value → State → Prop} {Qc : Array Value → State → Outcome → State → Prop} {mc ms : Nat} {free : Addr → Prop} {cc : ByteArray} {maxL : Nat} {ret : Option FieldType}
    (hy : plainFor y = true) (hw : ws = Cond.code y cc maxL ret :: ws')
    (body : ∀ p e s m args below meth c s₁, BodyLoose p l y (headSpec ws rm) cc maxL ret e s m args below meth c s₁ → c.maxLocals = maxL → Pc args s →
      W p l e (headSpec ws rm).room s m args below meth c s.heap [] 0 0 (MQ below Qc args s mc ms free) (entryFrame m args maxL)) : Met l y ws rm Pc Qc mc ms free := by
  refine MetFree.of_bodyRF (code := cc) (maxLocals := maxL) (ret := ret) hy ?_ ?_
  · intro args s m h hn
    obtain ⟨meth, c, h1, h2, h3, h4, h5, h6, -, -⟩ := Cond.code_spec hn (atoms_spec (ws := ws) h _ (by rw [hw]; exact List.mem_cons_self))
    exact ⟨meth, c, h1, h2, h3, h4, h5, h6⟩
  · intro p e s m args below meth c s₁ B hml hP _ hst
    have hh0 : s₁.heap = s.heap := by rw [B.state]; rfl
    obtain ⟨t, a1, o, b1, b2, b3⟩ := body p e s m args below meth c s₁ B hml hP s₁ hh0 (Stand.of_body B)
    exact ⟨t, o, hst.trans a1, b1, b2, ⟨b3.1, b3.2⟩⟩
section GG
variable {l : Launch} {D : va_G} {cA : ClassId} {d : Nat} {own : String} {cc : ByteArray} {nL : Nat} {rt : Option FieldType} {Post : Option Value → List gg_C → Prop} {pc : Nat} {L : List (Option Value)} {st : List Value} {h : List gg_C}
theorem gg_K.start {y : MethodName} {av : List Value} (ho : y.cls = own) (hy : plainFor y = true) (hL : gg_a av ++ List.replicate (nL - (gg_a av).length) none = L) (hlen : (gg_a av).length ≤ nL)
    (body : gg_G l D cA d own cc nL rt Post 0 L [] h) : gg_K l D cA d y cc nL rt av h Post := by
  intro E sz
  refine gg_ofW (cc := cc) (maxL := nL) (ret := rt) hy rfl ?_
  intro p e s m args below meth c s₁ B hml hv
  obtain ⟨rfl, hsz, hP, hK, hD0⟩ := hv
  have hlocks := B.notSynchronized
  have hr := B.returns
  have hx := B.exec
  have hb := B.bytes
  subst hsz
  have hts := atoms_spec (ws := Cond.code y cc nL rt :: lw_good) B.pre
  have hl := lv_entry (av.map (gg_V E)) (n := nL) (by rw [gg_a_len]; exact hlen)
  rw [lg_entry_eq]
  refine body p e s m _ below meth c s.heap [] (va_A (gg_w cA E h) s.heap.size) E _ _ ⟨hx, hb, hml, fun w hw => hts w (List.mem_cons_of_mem _ hw), ho ▸ findClass_of_methodNamed B.named, fun q hq => Or.inr hq, hK⟩ hP hD0.self va_S.rf (gg_L.entry hL hl) ?_
  intro r h' H' locs' pc' ls' hR hpost hP' hD' hS'
  rcases hR with ⟨rfl, hrt, hdg⟩ | ⟨v, rfl, hdg, ty, hrt, hn⟩ | ⟨v, rfl, hrt, hdg⟩
  · exact W.vret hx hb (hr.trans hrt) (fun t ht hW => ⟨⟨none, h', rfl, hpost, by rw [ht]; exact hP', va_K.moved hW.alike hK, hD'⟩, hS'.F ht⟩) hS'.2.2 hdg
  · exact W.zret hx hb (hr.trans hrt) hn (fun t ht hW => ⟨⟨some (.int v), h', rfl, hpost, by rw [ht]; exact hP', va_K.moved hW.alike hK, hD'⟩, hS'.F ht⟩) hS'.2.2 hdg
  · exact W.lret hx hb (hr.trans hrt) (fun t ht hW => ⟨⟨some (.long v), h', rfl, hpost, by rw [ht]; exact hP', va_K.moved hW.alike hK, hD'⟩, hS'.F ht⟩) hS'.2.2 hdg
theorem gg_ireturn {v : Int32} {ty : FieldType} (hd : decode cc pc = .ok (.ireturn, 1)) (hrt : rt = some ty) (hn : narrow ty (.int v) = .int v) (hp : Post (some (.int v)) h) : gg_G l D cA d own cc nL rt Post pc L [.int v] h := by
  intro p e s m args below meth c H locs A E ls Q X hP hD hS hl kr
  exact kr (some (.int v)) h H locs pc ls (Or.inr (Or.inl ⟨v, rfl, hd, ty, hrt, hn⟩)) hp hP hD hS
theorem gg_lreturn {v : Int64} (hd : decode cc pc = .ok (.lreturn, 1)) (hrt : rt = some .long) (hp : Post (some (.long v)) h) : gg_G l D cA d own cc nL rt Post pc L [.long v] h := by
  intro p e s m args below meth c H locs A E ls Q X hP hD hS hl kr
  exact kr (some (.long v)) h H locs pc ls (Or.inr (Or.inr ⟨v, rfl, hrt, hd⟩)) hp hP hD hS
theorem gg_return (hd : decode cc pc = .ok (.return_, 1)) (hrt : rt = none) (hp : Post none h) : gg_G l D cA d own cc nL rt Post pc L [] h := by
  intro p e s m args below meth c H locs A E ls Q X hP hD hS hl kr
  exact kr none h H locs pc ls (Or.inl ⟨rfl, hrt, hd⟩) hp hP hD hS
theorem gg_iconst {n : Int} {v : Int32} (hd : decode cc pc = .ok (.iconst n, 1)) (hv : Int32.ofInt n = v) (k : gg_G l D cA d own cc nL rt Post (pc + 1) L (.int v :: st) h) : gg_G l D cA d own cc nL rt Post pc L (st) h := by
  intro p e s m args below meth c H locs A E ls Q X hP hD hS hl kr
  exact lv_iconst X.1 X.2.1 hd hv (k p e s m args below meth c H locs A E ls Q X hP hD hS hl kr)
theorem gg_bipush {n : Int} {v : Int32} (hd : decode cc pc = .ok (.bipush n, 2)) (hv : (Int8.ofInt n).toInt32 = v) (k : gg_G l D cA d own cc nL rt Post (pc + 2) L (.int v :: st) h) : gg_G l D cA d own cc nL rt Post pc L (st) h := by
  intro p e s m args below meth c H locs A E ls Q X hP hD hS hl kr
  exact lv_bipush X.1 X.2.1 hd hv (k p e s m args below meth c H locs A E ls Q X hP hD hS hl kr)
theorem gg_sipush {n : Int} {v : Int32} (hd : decode cc pc = .ok (.sipush n, 3)) (hv : (Int16.ofInt n).toInt32 = v) (k : gg_G l D cA d own cc nL rt Post (pc + 3) L (.int v :: st) h) : gg_G l D cA d own cc nL rt Post pc L (st) h := by
  intro p e s m args below meth c H locs A E ls Q X hP hD hS hl kr
  exact lv_sipush X.1 X.2.1 hd hv (k p e s m args below meth c H locs A E ls Q X hP hD hS hl kr)
theorem gg_lconst {n : Fin 2} {v : Int64} (hd : decode cc pc = .ok (.lconst n, 1)) (hv : Int64.ofNat (n : Nat) = v) (k : gg_G l D cA d own cc nL rt Post (pc + 1) L (.long v :: st) h) : gg_G l D cA d own cc nL rt Post pc L (st) h := by
  intro p e s m args below meth c H locs A E ls Q X hP hD hS hl kr
  exact lv_lconst X.1 X.2.1 hd hv (k p e s m args below meth c H locs A E ls Q X hP hD hS hl kr)
theorem gg_ldc {index : Nat} {v : Int32} (hk : Cond.constant own index v ∈ lw_good) (hd : decode cc pc = .ok (.ldc index, 2)) (k : gg_G l D cA d own cc nL rt Post (pc + 2) L (.int v :: st) h) : gg_G l D cA d own cc nL rt Post pc L (st) h := by
  intro p e s m args below meth c H locs A E ls Q X hP hD hS hl kr
  exact lv_ldc X.1 X.2.1 X.2.2.2.2.1 (X.2.2.2.1 _ hk) hd (k p e s m args below meth c H locs A E ls Q X hP hD hS hl kr)
theorem gg_ldcw {index : Nat} {v : Int32} (hk : Cond.constant own index v ∈ lw_good) (hd : decode cc pc = .ok (.ldc_w index, 3)) (k : gg_G l D cA d own cc nL rt Post (pc + 3) L (.int v :: st) h) : gg_G l D cA d own cc nL rt Post pc L (st) h := by
  intro p e s m args below meth c H locs A E ls Q X hP hD hS hl kr
  exact lv_ldcw X.1 X.2.1 X.2.2.2.2.1 (X.2.2.2.1 _ hk) hd (k p e s m args below meth c H locs A E ls Q X hP hD hS hl kr)
theorem gg_ldc2 {index : Nat} {v : Int64} (hk : Cond.constantLong own index v ∈ lw_good) (hd : decode cc pc = .ok (.ldc2_w index, 3)) (k : gg_G l D cA d own cc nL rt Post (pc + 3) L (.long v :: st) h) : gg_G l D cA d own cc nL rt Post pc L (st) h := by
  intro p e s m args below meth c H locs A E ls Q X hP hD hS hl kr
  exact lv_ldc2 X.1 X.2.1 X.2.2.2.2.1 (X.2.2.2.1 _ hk) hd (k p e s m args below meth c H locs A E ls Q X hP hD hS hl kr)
theorem gg_iload_n {i : Fin 4} (j : Nat) {x : Int32} (hd : decode cc pc = .ok (.iload_n i, 1)) (hj : (i : Nat) = j) (hx : L[j]? = some (some (.int x))) (k : gg_G l D cA d own cc nL rt Post (pc + 1) L (.int x :: st) h) : gg_G l D cA d own cc nL rt Post pc L (st) h := by
  intro p e s m args below meth c H locs A E ls Q X hP hD hS hl kr
  exact lv_iload_n X.1 X.2.1 hd hj (hl.2.2 _ _ hx) (k p e s m args below meth c H locs A E ls Q X hP hD hS hl kr)
theorem gg_iload {i : Nat} {x : Int32} (hd : decode cc pc = .ok (.iload i, 2)) (hx : L[i]? = some (some (.int x))) (k : gg_G l D cA d own cc nL rt Post (pc + 2) L (.int x :: st) h) : gg_G l D cA d own cc nL rt Post pc L (st) h := by
  intro p e s m args below meth c H locs A E ls Q X hP hD hS hl kr
  exact lv_iload X.1 X.2.1 hd (hl.2.2 _ _ hx) (k p e s m args below meth c H locs A E ls Q X hP hD hS hl kr)
theorem gg_lload_n {i : Fin 4} (j : Nat) {x : Int64} (hd : decode cc pc = .ok (.lload_n i, 1)) (hj : (i : Nat) = j) (hx : L[j]? = some (some (.long x))) (k : gg_G l D cA d own cc nL rt Post (pc + 1) L (.long x :: st) h) : gg_G l D cA d own cc nL rt Post pc L (st) h := by
  intro p e s m args below meth c H locs A E ls Q X hP hD hS hl kr
  exact lv_lload_n X.1 X.2.1 hd hj (hl.2.2 _ _ hx) (k p e s m args below meth c H locs A E ls Q X hP hD hS hl kr)
theorem gg_lload {i : Nat} {x : Int64} (hd : decode cc pc = .ok (.lload i, 2)) (hx : L[i]? = some (some (.long x))) (k : gg_G l D cA d own cc nL rt Post (pc + 2) L (.long x :: st) h) : gg_G l D cA d own cc nL rt Post pc L (st) h := by
  intro p e s m args below meth c H locs A E ls Q X hP hD hS hl kr
  exact lv_lload X.1 X.2.1 hd (hl.2.2 _ _ hx) (k p e s m args below meth c H locs A E ls Q X hP hD hS hl kr)
theorem gg_aload_n {i : Fin 4} (j : Nat) {x : Nat} (hd : decode cc pc = .ok (.aload_n i, 1)) (hj : (i : Nat) = j) (hx : L[j]? = some (some (.ref x))) (k : gg_G l D cA d own cc nL rt Post (pc + 1) L (.ref x :: st) h) : gg_G l D cA d own cc nL rt Post pc L (st) h := by
  intro p e s m args below meth c H locs A E ls Q X hP hD hS hl kr
  exact lv_aload_n X.1 X.2.1 hd hj (hl.2.2 _ _ hx) (k p e s m args below meth c H locs A E ls Q X hP hD hS hl kr)
theorem gg_aload {i : Nat} {x : Nat} (hd : decode cc pc = .ok (.aload i, 2)) (hx : L[i]? = some (some (.ref x))) (k : gg_G l D cA d own cc nL rt Post (pc + 2) L (.ref x :: st) h) : gg_G l D cA d own cc nL rt Post pc L (st) h := by
  intro p e s m args below meth c H locs A E ls Q X hP hD hS hl kr
  exact lv_aload X.1 X.2.1 hd (hl.2.2 _ _ hx) (k p e s m args below meth c H locs A E ls Q X hP hD hS hl kr)
theorem gg_istore_n {i : Fin 4} (j : Nat) {x : Int32} (hd : decode cc pc = .ok (.istore_n i, 1)) (hj : (i : Nat) = j) (hi : j < nL) (hok : gg_ok L j = true) (k : gg_G l D cA d own cc nL rt Post (pc + 1) (L.set j (some (.int x))) st h) : gg_G l D cA d own cc nL rt Post pc L (.int x :: st) h := by
  intro p e s m args below meth c H locs A E ls Q X hP hD hS hl kr
  exact lv_istore_n X.1 X.2.1 hd hj hl.has hi rfl (fun ls' h' => k p e s m args below meth c H locs A E ls' Q X hP hD hS (gg_L.put1 (v := .int x) hok h') kr)
theorem gg_istore {j : Nat} {x : Int32} (hd : decode cc pc = .ok (.istore j, 2)) (hi : j < nL) (hok : gg_ok L j = true) (k : gg_G l D cA d own cc nL rt Post (pc + 2) (L.set j (some (.int x))) st h) : gg_G l D cA d own cc nL rt Post pc L (.int x :: st) h := by
  intro p e s m args below meth c H locs A E ls Q X hP hD hS hl kr
  exact lv_istore X.1 X.2.1 hd hl.has hi rfl (fun ls' h' => k p e s m args below meth c H locs A E ls' Q X hP hD hS (gg_L.put1 (v := .int x) hok h') kr)
theorem gg_astore_n {i : Fin 4} (j : Nat) {x : Nat} (hd : decode cc pc = .ok (.astore_n i, 1)) (hj : (i : Nat) = j) (hi : j < nL) (hok : gg_ok L j = true) (k : gg_G l D cA d own cc nL rt Post (pc + 1) (L.set j (some (.ref x))) st h) : gg_G l D cA d own cc nL rt Post pc L (.ref x :: st) h := by
  intro p e s m args below meth c H locs A E ls Q X hP hD hS hl kr
  exact lv_astore_n X.1 X.2.1 hd hj hl.has hi rfl (fun ls' h' => k p e s m args below meth c H locs A E ls' Q X hP hD hS (gg_L.put1 (v := .ref x) hok h') kr)
theorem gg_astore {j : Nat} {x : Nat} (hd : decode cc pc = .ok (.astore j, 2)) (hi : j < nL) (hok : gg_ok L j = true) (k : gg_G l D cA d own cc nL rt Post (pc + 2) (L.set j (some (.ref x))) st h) : gg_G l D cA d own cc nL rt Post pc L (.ref x :: st) h := by
  intro p e s m args below meth c H locs A E ls Q X hP hD hS hl kr
  exact lv_astore X.1 X.2.1 hd hl.has hi rfl (fun ls' h' => k p e s m args below meth c H locs A E ls' Q X hP hD hS (gg_L.put1 (v := .ref x) hok h') kr)
theorem gg_lstore_n {i : Fin 4} (j : Nat) {x : Int64} (hd : decode cc pc = .ok (.lstore_n i, 1)) (hj : (i : Nat) = j) (hi : j + 1 < nL) (hok : gg_ok L j = true) (k : gg_G l D cA d own cc nL rt Post (pc + 1) ((L.set j (some (.long x))).set (j + 1) none) st h) : gg_G l D cA d own cc nL rt Post pc L (.long x :: st) h := by
  intro p e s m args below meth c H locs A E ls Q X hP hD hS hl kr
  exact lv_lstore_n X.1 X.2.1 hd hj hl.has hi rfl (fun ls' h' => k p e s m args below meth c H locs A E ls' Q X hP hD hS (gg_L.put2 (v := .long x) hok h') kr)
theorem gg_lstore {j : Nat} {x : Int64} (hd : decode cc pc = .ok (.lstore j, 2)) (hi : j + 1 < nL) (hok : gg_ok L j = true) (k : gg_G l D cA d own cc nL rt Post (pc + 2) ((L.set j (some (.long x))).set (j + 1) none) st h) : gg_G l D cA d own cc nL rt Post pc L (.long x :: st) h := by
  intro p e s m args below meth c H locs A E ls Q X hP hD hS hl kr
  exact lv_lstore X.1 X.2.1 hd hl.has hi rfl (fun ls' h' => k p e s m args below meth c H locs A E ls' Q X hP hD hS (gg_L.put2 (v := .long x) hok h') kr)
theorem gg_iinc {i : Nat} {n : Int} {x : Int32} (w : Int32) (hd : decode cc pc = .ok (.iinc i n, 3)) (hx : L[i]? = some (some (.int x))) (hw : Int32.ofInt n = w) (hi : i < nL) (hok : gg_ok L i = true) (k : gg_G l D cA d own cc nL rt Post (pc + 3) (L.set i (some (.int (x + w)))) st h) : gg_G l D cA d own cc nL rt Post pc L st h := by
  intro p e s m args below meth c H locs A E ls Q X hP hD hS hl kr
  obtain ⟨j, hj⟩ := List.getElem?_of_mem (gg_ps_mem.mpr ⟨_, hx, rfl⟩ : (i, gg_V E (.int x)) ∈ gg_ps E L)
  exact lv_iinc X.1 X.2.1 hd hl.has hj (by rw [hw]) hi rfl (fun ls' h' => k p e s m args below meth c H locs A E ls' Q X hP hD hS (gg_L.put1 (v := .int (x + w)) hok h') kr)
theorem gg_iadd {x y : Int32} (hd : decode cc pc = .ok (.iadd, 1)) (k : gg_G l D cA d own cc nL rt Post (pc + 1) L (.int (x + y) :: st) h) : gg_G l D cA d own cc nL rt Post pc L (.int y :: .int x :: st) h := by
  intro p e s m args below meth c H locs A E ls Q X hP hD hS hl kr
  exact lv_iadd X.1 X.2.1 hd (k p e s m args below meth c H locs A E ls Q X hP hD hS hl kr)
theorem gg_isub {x y : Int32} (hd : decode cc pc = .ok (.isub, 1)) (k : gg_G l D cA d own cc nL rt Post (pc + 1) L (.int (x - y) :: st) h) : gg_G l D cA d own cc nL rt Post pc L (.int y :: .int x :: st) h := by
  intro p e s m args below meth c H locs A E ls Q X hP hD hS hl kr
  exact lv_isub X.1 X.2.1 hd (k p e s m args below meth c H locs A E ls Q X hP hD hS hl kr)
theorem gg_imul {x y : Int32} (hd : decode cc pc = .ok (.imul, 1)) (k : gg_G l D cA d own cc nL rt Post (pc + 1) L (.int (x * y) :: st) h) : gg_G l D cA d own cc nL rt Post pc L (.int y :: .int x :: st) h := by
  intro p e s m args below meth c H locs A E ls Q X hP hD hS hl kr
  exact lv_imul X.1 X.2.1 hd (k p e s m args below meth c H locs A E ls Q X hP hD hS hl kr)
theorem gg_iand {x y : Int32} (hd : decode cc pc = .ok (.iand, 1)) (k : gg_G l D cA d own cc nL rt Post (pc + 1) L (.int (x &&& y) :: st) h) : gg_G l D cA d own cc nL rt Post pc L (.int y :: .int x :: st) h := by
  intro p e s m args below meth c H locs A E ls Q X hP hD hS hl kr
  exact lv_iand X.1 X.2.1 hd (k p e s m args below meth c H locs A E ls Q X hP hD hS hl kr)
theorem gg_ior {x y : Int32} (hd : decode cc pc = .ok (.ior, 1)) (k : gg_G l D cA d own cc nL rt Post (pc + 1) L (.int (x ||| y) :: st) h) : gg_G l D cA d own cc nL rt Post pc L (.int y :: .int x :: st) h := by
  intro p e s m args below meth c H locs A E ls Q X hP hD hS hl kr
  exact lv_ior X.1 X.2.1 hd (k p e s m args below meth c H locs A E ls Q X hP hD hS hl kr)
theorem gg_ixor {x y : Int32} (hd : decode cc pc = .ok (.ixor, 1)) (k : gg_G l D cA d own cc nL rt Post (pc + 1) L (.int (x ^^^ y) :: st) h) : gg_G l D cA d own cc nL rt Post pc L (.int y :: .int x :: st) h := by
  intro p e s m args below meth c H locs A E ls Q X hP hD hS hl kr
  exact lv_ixor X.1 X.2.1 hd (k p e s m args below meth c H locs A E ls Q X hP hD hS hl kr)
theorem gg_ishl {x y : Int32} (hd : decode cc pc = .ok (.ishl, 1)) (k : gg_G l D cA d own cc nL rt Post (pc + 1) L (.int (x <<< (y &&& 31)) :: st) h) : gg_G l D cA d own cc nL rt Post pc L (.int y :: .int x :: st) h := by
  intro p e s m args below meth c H locs A E ls Q X hP hD hS hl kr
  exact lv_ishl X.1 X.2.1 hd (k p e s m args below meth c H locs A E ls Q X hP hD hS hl kr)
theorem gg_ishr {x y : Int32} (hd : decode cc pc = .ok (.ishr, 1)) (k : gg_G l D cA d own cc nL rt Post (pc + 1) L (.int (x >>> (y &&& 31)) :: st) h) : gg_G l D cA d own cc nL rt Post pc L (.int y :: .int x :: st) h := by
  intro p e s m args below meth c H locs A E ls Q X hP hD hS hl kr
  exact lv_ishr X.1 X.2.1 hd (k p e s m args below meth c H locs A E ls Q X hP hD hS hl kr)
theorem gg_iushr {x y v : Int32} (hd : decode cc pc = .ok (.iushr, 1)) (hv : (x.toUInt32 >>> (y.toUInt32 &&& Int32.toUInt32 31)).toInt32 = v) (k : gg_G l D cA d own cc nL rt Post (pc + 1) L (.int v :: st) h) : gg_G l D cA d own cc nL rt Post pc L (.int y :: .int x :: st) h := by
  intro p e s m args below meth c H locs A E ls Q X hP hD hS hl kr
  exact lv_iushr X.1 X.2.1 hd hv (k p e s m args below meth c H locs A E ls Q X hP hD hS hl kr)
theorem gg_ineg {x : Int32} (hd : decode cc pc = .ok (.ineg, 1)) (k : gg_G l D cA d own cc nL rt Post (pc + 1) L (.int (-x) :: st) h) : gg_G l D cA d own cc nL rt Post pc L (.int x :: st) h := by
  intro p e s m args below meth c H locs A E ls Q X hP hD hS hl kr
  exact lv_ineg X.1 X.2.1 hd (k p e s m args below meth c H locs A E ls Q X hP hD hS hl kr)
theorem gg_idiv {x y : Int32} (hd : decode cc pc = .ok (.idiv, 1)) (hne : ¬ y = 0) (k : gg_G l D cA d own cc nL rt Post (pc + 1) L (.int (x / y) :: st) h) : gg_G l D cA d own cc nL rt Post pc L (.int y :: .int x :: st) h := by
  intro p e s m args below meth c H locs A E ls Q X hP hD hS hl kr
  exact lv_idiv X.1 X.2.1 hd hne (k p e s m args below meth c H locs A E ls Q X hP hD hS hl kr)
theorem gg_irem {x y : Int32} (hd : decode cc pc = .ok (.irem, 1)) (hne : ¬ y = 0) (k : gg_G l D cA d own cc nL rt Post (pc + 1) L (.int (x - x / y * y) :: st) h) : gg_G l D cA d own cc nL rt Post pc L (.int y :: .int x :: st) h := by
  intro p e s m args below meth c H locs A E ls Q X hP hD hS hl kr
  exact lv_irem X.1 X.2.1 hd hne (k p e s m args below meth c H locs A E ls Q X hP hD hS hl kr)
theorem gg_ladd {x y : Int64} (hd : decode cc pc = .ok (.ladd, 1)) (k : gg_G l D cA d own cc nL rt Post (pc + 1) L (.long (x + y) :: st) h) : gg_G l D cA d own cc nL rt Post pc L (.long y :: .long x :: st) h := by
  intro p e s m args below meth c H locs A E ls Q X hP hD hS hl kr
  exact lv_ladd X.1 X.2.1 hd (k p e s m args below meth c H locs A E ls Q X hP hD hS hl kr)
theorem gg_lsub {x y : Int64} (hd : decode cc pc = .ok (.lsub, 1)) (k : gg_G l D cA d own cc nL rt Post (pc + 1) L (.long (x - y) :: st) h) : gg_G l D cA d own cc nL rt Post pc L (.long y :: .long x :: st) h := by
  intro p e s m args below meth c H locs A E ls Q X hP hD hS hl kr
  exact lv_lsub X.1 X.2.1 hd (k p e s m args below meth c H locs A E ls Q X hP hD hS hl kr)
theorem gg_lmul {x y : Int64} (hd : decode cc pc = .ok (.lmul, 1)) (k : gg_G l D cA d own cc nL rt Post (pc + 1) L (.long (x * y) :: st) h) : gg_G l D cA d own cc nL rt Post pc L (.long y :: .long x :: st) h := by
  intro p e s m args below meth c H locs A E ls Q X hP hD hS hl kr
  exact lv_lmul X.1 X.2.1 hd (k p e s m args below meth c H locs A E ls Q X hP hD hS hl kr)
theorem gg_land {x y : Int64} (hd : decode cc pc = .ok (.land, 1)) (k : gg_G l D cA d own cc nL rt Post (pc + 1) L (.long (x &&& y) :: st) h) : gg_G l D cA d own cc nL rt Post pc L (.long y :: .long x :: st) h := by
  intro p e s m args below meth c H locs A E ls Q X hP hD hS hl kr
  exact lv_land X.1 X.2.1 hd (k p e s m args below meth c H locs A E ls Q X hP hD hS hl kr)
theorem gg_lor {x y : Int64} (hd : decode cc pc = .ok (.lor, 1)) (k : gg_G l D cA d own cc nL rt Post (pc + 1) L (.long (x ||| y) :: st) h) : gg_G l D cA d own cc nL rt Post pc L (.long y :: .long x :: st) h := by
  intro p e s m args below meth c H locs A E ls Q X hP hD hS hl kr
  exact lv_lor X.1 X.2.1 hd (k p e s m args below meth c H locs A E ls Q X hP hD hS hl kr)
theorem gg_lxor {x y : Int64} (hd : decode cc pc = .ok (.lxor, 1)) (k : gg_G l D cA d own cc nL rt Post (pc + 1) L (.long (x ^^^ y) :: st) h) : gg_G l D cA d own cc nL rt Post pc L (.long y :: .long x :: st) h := by
  intro p e s m args below meth c H locs A E ls Q X hP hD hS hl kr
  exact lv_lxor X.1 X.2.1 hd (k p e s m args below meth c H locs A E ls Q X hP hD hS hl kr)
theorem gg_ldiv {x y : Int64} (hd : decode cc pc = .ok (.ldiv, 1)) (hne : ¬ y = 0) (k : gg_G l D cA d own cc nL rt Post (pc + 1) L (.long (x / y) :: st) h) : gg_G l D cA d own cc nL rt Post pc L (.long y :: .long x :: st) h := by
  intro p e s m args below meth c H locs A E ls Q X hP hD hS hl kr
  exact lv_ldiv X.1 X.2.1 hd hne (k p e s m args below meth c H locs A E ls Q X hP hD hS hl kr)
theorem gg_lrem {x y : Int64} (hd : decode cc pc = .ok (.lrem, 1)) (hne : ¬ y = 0) (k : gg_G l D cA d own cc nL rt Post (pc + 1) L (.long (x - x / y * y) :: st) h) : gg_G l D cA d own cc nL rt Post pc L (.long y :: .long x :: st) h := by
  intro p e s m args below meth c H locs A E ls Q X hP hD hS hl kr
  exact lv_lrem X.1 X.2.1 hd hne (k p e s m args below meth c H locs A E ls Q X hP hD hS hl kr)
theorem gg_lushr {x v : Int64} {y : Int32} (hd : decode cc pc = .ok (.lushr, 1)) (hv : (x.toUInt64 >>> (y.toInt64.toUInt64 &&& Int64.toUInt64 63)).toInt64 = v) (k : gg_G l D cA d own cc nL rt Post (pc + 1) L (.long v :: st) h) : gg_G l D cA d own cc nL rt Post pc L (.int y :: .long x :: st) h := by
  intro p e s m args below meth c H locs A E ls Q X hP hD hS hl kr
  exact lv_lushr X.1 X.2.1 hd hv (k p e s m args below meth c H locs A E ls Q X hP hD hS hl kr)
theorem gg_lshl {x v : Int64} {y : Int32} (hd : decode cc pc = .ok (.lshl, 1)) (hv : x <<< (y.toInt64 &&& 63) = v) (k : gg_G l D cA d own cc nL rt Post (pc + 1) L (.long v :: st) h) : gg_G l D cA d own cc nL rt Post pc L (.int y :: .long x :: st) h := by
  intro p e s m args below meth c H locs A E ls Q X hP hD hS hl kr
  exact lv_lshl X.1 X.2.1 hd hv (k p e s m args below meth c H locs A E ls Q X hP hD hS hl kr)
theorem gg_i2l {x : Int32} {v : Int64} (hd : decode cc pc = .ok (.i2l, 1)) (hv : x.toInt64 = v) (k : gg_G l D cA d own cc nL rt Post (pc + 1) L (.long v :: st) h) : gg_G l D cA d own cc nL rt Post pc L (.int x :: st) h := by
  intro p e s m args below meth c H locs A E ls Q X hP hD hS hl kr
  exact lv_i2l X.1 X.2.1 hd hv (k p e s m args below meth c H locs A E ls Q X hP hD hS hl kr)
theorem gg_l2i {x : Int64} {v : Int32} (hd : decode cc pc = .ok (.l2i, 1)) (hv : x.toInt32 = v) (k : gg_G l D cA d own cc nL rt Post (pc + 1) L (.int v :: st) h) : gg_G l D cA d own cc nL rt Post pc L (.long x :: st) h := by
  intro p e s m args below meth c H locs A E ls Q X hP hD hS hl kr
  exact lv_l2i X.1 X.2.1 hd hv (k p e s m args below meth c H locs A E ls Q X hP hD hS hl kr)
theorem gg_lcmp {x y : Int64} (hd : decode cc pc = .ok (.lcmp, 1)) (k : gg_G l D cA d own cc nL rt Post (pc + 1) L (.int (lg_cmp x y) :: st) h) : gg_G l D cA d own cc nL rt Post pc L (.long y :: .long x :: st) h := by
  intro p e s m args below meth c H locs A E ls Q X hP hD hS hl kr
  exact W.lcmp X.1 X.2.1 hd (k p e s m args below meth c H locs A E ls Q X hP hD hS hl kr)
theorem gg_dup {v : Value} (hd : decode cc pc = .ok (.dup, 1)) (hc : v.category = 1) (k : gg_G l D cA d own cc nL rt Post (pc + 1) L (v :: v :: st) h) : gg_G l D cA d own cc nL rt Post pc L (v :: st) h := by
  intro p e s m args below meth c H locs A E ls Q X hP hD hS hl kr
  exact lv_dup X.1 X.2.1 hd ((gg_V_cat E v).trans hc) (k p e s m args below meth c H locs A E ls Q X hP hD hS hl kr)
theorem gg_pop {v : Value} (hd : decode cc pc = .ok (.pop, 1)) (hc : v.category = 1) (k : gg_G l D cA d own cc nL rt Post (pc + 1) L (st) h) : gg_G l D cA d own cc nL rt Post pc L (v :: st) h := by
  intro p e s m args below meth c H locs A E ls Q X hP hD hS hl kr
  exact lv_pop X.1 X.2.1 hd ((gg_V_cat E v).trans hc) (k p e s m args below meth c H locs A E ls Q X hP hD hS hl kr)
theorem gg_dup_x1 {v w : Value} (hd : decode cc pc = .ok (.dup_x1, 1)) (hc : v.category = 1) (hc2 : w.category = 1) (k : gg_G l D cA d own cc nL rt Post (pc + 1) L (v :: w :: v :: st) h) : gg_G l D cA d own cc nL rt Post pc L (v :: w :: st) h := by
  intro p e s m args below meth c H locs A E ls Q X hP hD hS hl kr
  exact lv_dup_x1 X.1 X.2.1 hd ((gg_V_cat E v).trans hc) ((gg_V_cat E w).trans hc2) (k p e s m args below meth c H locs A E ls Q X hP hD hS hl kr)
theorem gg_dup2 {v w : Value} (hd : decode cc pc = .ok (.dup2, 1)) (hc : v.category = 1) (hc2 : w.category = 1) (k : gg_G l D cA d own cc nL rt Post (pc + 1) L (v :: w :: v :: w :: st) h) : gg_G l D cA d own cc nL rt Post pc L (v :: w :: st) h := by
  intro p e s m args below meth c H locs A E ls Q X hP hD hS hl kr
  exact lv_dup2_11 X.1 X.2.1 hd ((gg_V_cat E v).trans hc) ((gg_V_cat E w).trans hc2) (k p e s m args below meth c H locs A E ls Q X hP hD hS hl kr)
theorem gg_dup2_2 {v : Value} (hd : decode cc pc = .ok (.dup2, 1)) (hc : v.category = 2) (k : gg_G l D cA d own cc nL rt Post (pc + 1) L (v :: v :: st) h) : gg_G l D cA d own cc nL rt Post pc L (v :: st) h := by
  intro p e s m args below meth c H locs A E ls Q X hP hD hS hl kr
  exact lv_dup2_2 X.1 X.2.1 hd ((gg_V_cat E v).trans hc) (k p e s m args below meth c H locs A E ls Q X hP hD hS hl kr)
theorem gg_pop2_2 {v : Value} (hd : decode cc pc = .ok (.pop2, 1)) (hc : v.category = 2) (k : gg_G l D cA d own cc nL rt Post (pc + 1) L (st) h) : gg_G l D cA d own cc nL rt Post pc L (v :: st) h := by
  intro p e s m args below meth c H locs A E ls Q X hP hD hS hl kr
  exact lv_pop2_2 X.1 X.2.1 hd ((gg_V_cat E v).trans hc) (k p e s m args below meth c H locs A E ls Q X hP hD hS hl kr)
theorem gg_if_eq {x : Int32} {off : Int} (tgt : Nat) (hd : decode cc pc = .ok (.ifCond .eq off, 3)) (ht : (pc : Int) + off = (tgt : Int)) (kt : x = 0 → gg_G l D cA d own cc nL rt Post tgt L st h) (kf : ¬ (x = 0) → gg_G l D cA d own cc nL rt Post (pc + 3) L st h) : gg_G l D cA d own cc nL rt Post pc L (.int x :: st) h := by
  intro p e s m args below meth c H locs A E ls Q X hP hD hS hl kr
  exact lv_if_eq X.1 X.2.1 hd ht (fun q => kt q p e s m args below meth c H locs A E ls Q X hP hD hS hl kr) (fun q => kf q p e s m args below meth c H locs A E ls Q X hP hD hS hl kr)
theorem gg_icmp_eq {x y : Int32} {off : Int} (tgt : Nat) (hd : decode cc pc = .ok (.if_icmp .eq off, 3)) (ht : (pc : Int) + off = (tgt : Int)) (kt : x = y → gg_G l D cA d own cc nL rt Post tgt L st h) (kf : ¬ (x = y) → gg_G l D cA d own cc nL rt Post (pc + 3) L st h) : gg_G l D cA d own cc nL rt Post pc L (.int y :: .int x :: st) h := by
  intro p e s m args below meth c H locs A E ls Q X hP hD hS hl kr
  exact lv_icmp_eq X.1 X.2.1 hd ht (fun q => kt q p e s m args below meth c H locs A E ls Q X hP hD hS hl kr) (fun q => kf q p e s m args below meth c H locs A E ls Q X hP hD hS hl kr)
theorem gg_if_ne {x : Int32} {off : Int} (tgt : Nat) (hd : decode cc pc = .ok (.ifCond .ne off, 3)) (ht : (pc : Int) + off = (tgt : Int)) (kt : ¬ x = 0 → gg_G l D cA d own cc nL rt Post tgt L st h) (kf : x = 0 → gg_G l D cA d own cc nL rt Post (pc + 3) L st h) : gg_G l D cA d own cc nL rt Post pc L (.int x :: st) h := by
  intro p e s m args below meth c H locs A E ls Q X hP hD hS hl kr
  exact lv_if_ne X.1 X.2.1 hd ht (fun q => kt q p e s m args below meth c H locs A E ls Q X hP hD hS hl kr) (fun q => kf q p e s m args below meth c H locs A E ls Q X hP hD hS hl kr)
theorem gg_icmp_ne {x y : Int32} {off : Int} (tgt : Nat) (hd : decode cc pc = .ok (.if_icmp .ne off, 3)) (ht : (pc : Int) + off = (tgt : Int)) (kt : ¬ x = y → gg_G l D cA d own cc nL rt Post tgt L st h) (kf : x = y → gg_G l D cA d own cc nL rt Post (pc + 3) L st h) : gg_G l D cA d own cc nL rt Post pc L (.int y :: .int x :: st) h := by
  intro p e s m args below meth c H locs A E ls Q X hP hD hS hl kr
  exact lv_icmp_ne X.1 X.2.1 hd ht (fun q => kt q p e s m args below meth c H locs A E ls Q X hP hD hS hl kr) (fun q => kf q p e s m args below meth c H locs A E ls Q X hP hD hS hl kr)
theorem gg_if_lt {x : Int32} {off : Int} (tgt : Nat) (hd : decode cc pc = .ok (.ifCond .lt off, 3)) (ht : (pc : Int) + off = (tgt : Int)) (kt : x < 0 → gg_G l D cA d own cc nL rt Post tgt L st h) (kf : ¬ (x < 0) → gg_G l D cA d own cc nL rt Post (pc + 3) L st h) : gg_G l D cA d own cc nL rt Post pc L (.int x :: st) h := by
  intro p e s m args below meth c H locs A E ls Q X hP hD hS hl kr
  exact lv_if_lt X.1 X.2.1 hd ht (fun q => kt q p e s m args below meth c H locs A E ls Q X hP hD hS hl kr) (fun q => kf q p e s m args below meth c H locs A E ls Q X hP hD hS hl kr)
theorem gg_icmp_lt {x y : Int32} {off : Int} (tgt : Nat) (hd : decode cc pc = .ok (.if_icmp .lt off, 3)) (ht : (pc : Int) + off = (tgt : Int)) (kt : x < y → gg_G l D cA d own cc nL rt Post tgt L st h) (kf : ¬ (x < y) → gg_G l D cA d own cc nL rt Post (pc + 3) L st h) : gg_G l D cA d own cc nL rt Post pc L (.int y :: .int x :: st) h := by
  intro p e s m args below meth c H locs A E ls Q X hP hD hS hl kr
  exact lv_icmp_lt X.1 X.2.1 hd ht (fun q => kt q p e s m args below meth c H locs A E ls Q X hP hD hS hl kr) (fun q => kf q p e s m args below meth c H locs A E ls Q X hP hD hS hl kr)
theorem gg_if_ge {x : Int32} {off : Int} (tgt : Nat) (hd : decode cc pc = .ok (.ifCond .ge off, 3)) (ht : (pc : Int) + off = (tgt : Int)) (kt : 0 ≤ x → gg_G l D cA d own cc nL rt Post tgt L st h) (kf : ¬ (0 ≤ x) → gg_G l D cA d own cc nL rt Post (pc + 3) L st h) : gg_G l D cA d own cc nL rt Post pc L (.int x :: st) h := by
  intro p e s m args below meth c H locs A E ls Q X hP hD hS hl kr
  exact lv_if_ge X.1 X.2.1 hd ht (fun q => kt q p e s m args below meth c H locs A E ls Q X hP hD hS hl kr) (fun q => kf q p e s m args below meth c H locs A E ls Q X hP hD hS hl kr)
theorem gg_icmp_ge {x y : Int32} {off : Int} (tgt : Nat) (hd : decode cc pc = .ok (.if_icmp .ge off, 3)) (ht : (pc : Int) + off = (tgt : Int)) (kt : y ≤ x → gg_G l D cA d own cc nL rt Post tgt L st h) (kf : ¬ (y ≤ x) → gg_G l D cA d own cc nL rt Post (pc + 3) L st h) : gg_G l D cA d own cc nL rt Post pc L (.int y :: .int x :: st) h := by
  intro p e s m args below meth c H locs A E ls Q X hP hD hS hl kr
  exact lv_icmp_ge X.1 X.2.1 hd ht (fun q => kt q p e s m args below meth c H locs A E ls Q X hP hD hS hl kr) (fun q => kf q p e s m args below meth c H locs A E ls Q X hP hD hS hl kr)
theorem gg_if_gt {x : Int32} {off : Int} (tgt : Nat) (hd : decode cc pc = .ok (.ifCond .gt off, 3)) (ht : (pc : Int) + off = (tgt : Int)) (kt : 0 < x → gg_G l D cA d own cc nL rt Post tgt L st h) (kf : ¬ (0 < x) → gg_G l D cA d own cc nL rt Post (pc + 3) L st h) : gg_G l D cA d own cc nL rt Post pc L (.int x :: st) h := by
  intro p e s m args below meth c H locs A E ls Q X hP hD hS hl kr
  exact lv_if_gt X.1 X.2.1 hd ht (fun q => kt q p e s m args below meth c H locs A E ls Q X hP hD hS hl kr) (fun q => kf q p e s m args below meth c H locs A E ls Q X hP hD hS hl kr)
theorem gg_icmp_gt {x y : Int32} {off : Int} (tgt : Nat) (hd : decode cc pc = .ok (.if_icmp .gt off, 3)) (ht : (pc : Int) + off = (tgt : Int)) (kt : y < x → gg_G l D cA d own cc nL rt Post tgt L st h) (kf : ¬ (y < x) → gg_G l D cA d own cc nL rt Post (pc + 3) L st h) : gg_G l D cA d own cc nL rt Post pc L (.int y :: .int x :: st) h := by
  intro p e s m args below meth c H locs A E ls Q X hP hD hS hl kr
  exact lv_icmp_gt X.1 X.2.1 hd ht (fun q => kt q p e s m args below meth c H locs A E ls Q X hP hD hS hl kr) (fun q => kf q p e s m args below meth c H locs A E ls Q X hP hD hS hl kr)
theorem gg_if_le {x : Int32} {off : Int} (tgt : Nat) (hd : decode cc pc = .ok (.ifCond .le off, 3)) (ht : (pc : Int) + off = (tgt : Int)) (kt : x ≤ 0 → gg_G l D cA d own cc nL rt Post tgt L st h) (kf : ¬ (x ≤ 0) → gg_G l D cA d own cc nL rt Post (pc + 3) L st h) : gg_G l D cA d own cc nL rt Post pc L (.int x :: st) h := by
  intro p e s m args below meth c H locs A E ls Q X hP hD hS hl kr
  exact lv_if_le X.1 X.2.1 hd ht (fun q => kt q p e s m args below meth c H locs A E ls Q X hP hD hS hl kr) (fun q => kf q p e s m args below meth c H locs A E ls Q X hP hD hS hl kr)
theorem gg_icmp_le {x y : Int32} {off : Int} (tgt : Nat) (hd : decode cc pc = .ok (.if_icmp .le off, 3)) (ht : (pc : Int) + off = (tgt : Int)) (kt : x ≤ y → gg_G l D cA d own cc nL rt Post tgt L st h) (kf : ¬ (x ≤ y) → gg_G l D cA d own cc nL rt Post (pc + 3) L st h) : gg_G l D cA d own cc nL rt Post pc L (.int y :: .int x :: st) h := by
  intro p e s m args below meth c H locs A E ls Q X hP hD hS hl kr
  exact lv_icmp_le X.1 X.2.1 hd ht (fun q => kt q p e s m args below meth c H locs A E ls Q X hP hD hS hl kr) (fun q => kf q p e s m args below meth c H locs A E ls Q X hP hD hS hl kr)
theorem gg_goto {off : Int} (tgt : Nat) (hd : decode cc pc = .ok (.goto off, 3)) (ht : (pc : Int) + off = (tgt : Int)) (k : gg_G l D cA d own cc nL rt Post tgt L st h) : gg_G l D cA d own cc nL rt Post pc L st h := by
  intro p e s m args below meth c H locs A E ls Q X hP hD hS hl kr
  exact lv_goto X.1 X.2.1 hd ht (k p e s m args below meth c H locs A E ls Q X hP hD hS hl kr)
theorem gg_tableOut {dflt lo hi : Int} {offs : Array Int} {len : Nat} {x : Int32} (tgt : Nat) (hd : decode cc pc = .ok (.tableswitch dflt lo hi offs, len)) (hx : x.toInt < lo ∨ hi < x.toInt) (ht : (pc : Int) + dflt = (tgt : Int)) (k : gg_G l D cA d own cc nL rt Post tgt L st h) : gg_G l D cA d own cc nL rt Post pc L (.int x :: st) h := by
  intro p e s m args below meth c H locs A E ls Q X hP hD hS hl kr
  exact lv_tableOut X.1 X.2.1 hd hx ht (k p e s m args below meth c H locs A E ls Q X hP hD hS hl kr)
theorem gg_tableIn {dflt lo hi : Int} {offs : Array Int} {len : Nat} {x : Int32} {off : Int} (tgt : Nat) (hd : decode cc pc = .ok (.tableswitch dflt lo hi offs, len)) (h1 : ¬ x.toInt < lo) (h2 : ¬ hi < x.toInt) (ho : offs[(x.toInt - lo).toNat]? = some off) (ht : (pc : Int) + off = (tgt : Int)) (k : gg_G l D cA d own cc nL rt Post tgt L st h) : gg_G l D cA d own cc nL rt Post pc L (.int x :: st) h := by
  intro p e s m args below meth c H locs A E ls Q X hP hD hS hl kr
  exact lv_tableIn X.1 X.2.1 hd h1 h2 ho ht (k p e s m args below meth c H locs A E ls Q X hP hD hS hl kr)
/-- class ci's field k is what 'own' names at index -/
def gg_F (own : String) (index ci k : Nat) : Prop := ∃ (C : String) (T : u_T) (N : Nat), classes[ci]? = some (C, T, N) ∧ k < N ∧ (∀ w ∈ u_ws C T N, w ∈ lw_good) ∧ Cond.fieldLink own index (T k).1 (T k).2.1 (T k).2.2.1 ∈ lw_good
/-- .. and may be written, of type ty -/
def gg_U (own : String) (index ci k : Nat) (ty : FieldType) : Prop := ∃ (C : String) (T : u_T) (N : Nat) (ty0 : Nat → FieldType), classes[ci]? = some (C, T, N) ∧ k < N ∧ (∀ w ∈ u_ws C T N, w ∈ lw_good) ∧ Cond.fieldLink own index (T k).1 (T k).2.1 (T k).2.2.1 ∈ lw_good ∧ (∀ k, k < N → parseFieldDescriptor (T k).2.2.1 = some (ty0 k)) ∧ (∀ a, a < N → ∀ b, b < N → a ≠ b → (T a).2.1 ≠ (T b).2.1) ∧ (T k).2.2.2 = false ∧ parseFieldDescriptor (T k).2.2.1 = some ty
theorem gg_get {index ci q r : Nat} {fs : List Value} {v : Value} (hf : gg_F own index ci q) (hd : decode cc pc = .ok (.getfield index, 3)) (ho : h[r]? = some (.inr (ci, fs))) (hv : fs[q]? = some v) (k : gg_G l D cA d own cc nL rt Post (pc + 3) L (v :: st) h) : gg_G l D cA d own cc nL rt Post pc L (.ref r :: st) h := by
  intro p e s m args below meth c H locs A E ls Q X hP hD hS hl kr
  obtain ⟨C, T, N, h1, h2, h3, h4⟩ := hf
  exact va_get X.1 X.2.1 X.2.2.2.1 h3 X.2.2.2.2.1 X.2.2.2.2.2.2 hP r (gg_w_at ho) h1 q h2 (X.2.2.2.1 _ h4) (fun _ z => z) (v := gg_V E v) (by rw [List.getElem?_map, hv]; rfl) hd (k p e s m args below meth c H locs A E ls Q X hP hD hS hl kr)
theorem gg_puti {index ci q r : Nat} {fs : List Value} {x : Int32} (hf : gg_U own index ci q .int) (hd : decode cc pc = .ok (.putfield index, 3)) (ho : h[r]? = some (.inr (ci, fs))) (hq : q < fs.length) (k : gg_G l D cA d own cc nL rt Post (pc + 3) L st (h.set r (.inr (ci, fs.set q (.int x))))) : gg_G l D cA d own cc nL rt Post pc L (.int x :: .ref r :: st) h := by
  intro p e s m args below meth c H locs A E ls Q X hP hD hS hl kr
  obtain ⟨C, T, N, ty0, h1, h2, h3, h4, h5, h6, h7, h8⟩ := hf
  refine va_put X.1 X.2.1 X.2.2.2.1 h3 ty0 h5 h6 X.2.2.2.2.1 X.2.2.2.2.2.2 hP hD hS r (gg_w_at ho) h1 q h2 (X.2.2.2.1 _ h4) (fun _ z => z) h7 (v := .int x) h8 rfl rfl (by rw [List.length_map]; exact hq) hd (fun H1 locs1 hP1 hD1 hS1 => ?_)
  have e1 : (gg_w cA E h).set r (E r, .inr (ci, (fs.map (gg_V E)).set q (.int x))) = gg_w cA E (h.set r (.inr (ci, fs.set q (.int x)))) := by
    rw [gg_w_set]
    simp only [gg_c, List.map_set]
    rfl
  rw [e1] at hP1 hD1
  exact k p e s m args below meth c H1 locs1 A E ls Q X hP1 hD1 hS1 hl kr
theorem gg_putl {index ci q r : Nat} {fs : List Value} {x : Int64} (hf : gg_U own index ci q .long) (hd : decode cc pc = .ok (.putfield index, 3)) (ho : h[r]? = some (.inr (ci, fs))) (hq : q < fs.length) (k : gg_G l D cA d own cc nL rt Post (pc + 3) L st (h.set r (.inr (ci, fs.set q (.long x))))) : gg_G l D cA d own cc nL rt Post pc L (.long x :: .ref r :: st) h := by
  intro p e s m args below meth c H locs A E ls Q X hP hD hS hl kr
  obtain ⟨C, T, N, ty0, h1, h2, h3, h4, h5, h6, h7, h8⟩ := hf
  refine va_put X.1 X.2.1 X.2.2.2.1 h3 ty0 h5 h6 X.2.2.2.2.1 X.2.2.2.2.2.2 hP hD hS r (gg_w_at ho) h1 q h2 (X.2.2.2.1 _ h4) (fun _ z => z) h7 (v := .long x) h8 rfl rfl (by rw [List.length_map]; exact hq) hd (fun H1 locs1 hP1 hD1 hS1 => ?_)
  have e1 : (gg_w cA E h).set r (E r, .inr (ci, (fs.map (gg_V E)).set q (.long x))) = gg_w cA E (h.set r (.inr (ci, fs.set q (.long x)))) := by
    rw [gg_w_set]
    simp only [gg_c, List.map_set]
    rfl
  rw [e1] at hP1 hD1
  exact k p e s m args below meth c H1 locs1 A E ls Q X hP1 hD1 hS1 hl kr
theorem gg_iald {a N i : Nat} {f : Nat → Int32} (hd : decode cc pc = .ok (.iaload, 1)) (ho : h[a]? = some (.inl (N, f))) (hi : i < N) (hN : N < 2 ^ 31) (k : gg_G l D cA d own cc nL rt Post (pc + 1) L (.int (f i) :: st) h) : gg_G l D cA d own cc nL rt Post pc L (.int (nI i) :: .ref a :: st) h := by
  intro p e s m args below meth c H locs A E ls Q X hP hD hS hl kr
  refine va_iald X.1 X.2.1 X.2.2.2.2.2.2 hP a 0 (gg_w_at ho) rfl (vp_in_nI hi hN) hd ?_
  rw [nI_clamp (by omega)]
  exact k p e s m args below meth c H locs A E ls Q X hP hD hS hl kr
theorem gg_iast {a N i : Nat} {f : Nat → Int32} {x : Int32} (hd : decode cc pc = .ok (.iastore, 1)) (ho : h[a]? = some (.inl (N, f))) (hi : i < N) (hN : N < 2 ^ 31) (k : gg_G l D cA d own cc nL rt Post (pc + 1) L st (h.set a (.inl (N, upd f i x)))) : gg_G l D cA d own cc nL rt Post pc L (.int x :: .int (nI i) :: .ref a :: st) h := by
  intro p e s m args below meth c H locs A E ls Q X hP hD hS hl kr
  refine va_iast X.1 X.2.1 X.2.2.2.2.2.2 hP hD hS a 0 (gg_w_at ho) rfl (vp_in_nI hi hN) hd (fun H1 locs1 hP1 hD1 hS1 => ?_)
  rw [nI_clamp (by omega)] at hP1 hD1
  have e1 : (gg_w cA E h).set a (E a, .inl (cA, N, .inl (upd f i x))) = gg_w cA E (h.set a (.inl (N, upd f i x))) := by
    rw [gg_w_set]
    rfl
  rw [e1] at hP1 hD1
  exact k p e s m args below meth c H1 locs1 A E ls Q X hP1 hD1 hS1 hl kr
theorem gg_alen {a N : Nat} {f : Nat → Int32} (hd : decode cc pc = .ok (.arraylength, 1)) (ho : h[a]? = some (.inl (N, f))) (k : gg_G l D cA d own cc nL rt Post (pc + 1) L (.int (nI N) :: st) h) : gg_G l D cA d own cc nL rt Post pc L (.ref a :: st) h := by
  intro p e s m args below meth c H locs A E ls Q X hP hD hS hl kr
  exact va_alen X.1 X.2.1 X.2.2.2.2.2.2 hP a 0 (gg_w_at ho) (ty := .int) rfl rfl hd (k p e s m args below meth c H locs A E ls Q X hP hD hS hl kr)
/-- System.arraycopy between int arrays -/
theorem gg_copy {index a b N M sp dp n : Nat} {f g : Nat → Int32} (hk1 : Cond.methodLink own index arraycopyName ∈ lw_good) (hk2 : Cond.native arraycopyName ∈ lw_good) (hk3 : Cond.static arraycopyName ∈ lw_good) (hk4 : Cond.initialized "java/lang/System" ∈ lw_good)
    (hd : decode cc pc = .ok (.invokestatic index, 3)) (ha : h[a]? = some (.inl (N, f))) (hb : h[b]? = some (.inl (M, g))) (h1 : sp + n ≤ N) (h2 : dp + n ≤ M) (hN : N < 2 ^ 31) (hM : M < 2 ^ 31) (hdd : 1 ≤ d)
    (k : gg_G l D cA d own cc nL rt Post (pc + 3) L [] (h.set b (.inl (M, va_cpy f g sp dp n)))) : gg_G l D cA d own cc nL rt Post pc L [.int (nI n), .int (nI dp), .ref b, .int (nI sp), .ref a] h := by
  intro p e s m args below meth c H locs A E ls Q X hP hD hS hl kr
  refine va_copyi X.1 X.2.1 (X.2.2.1.trans hl.1.symm) X.2.2.2.2.1 (X.2.2.2.1 _ hk1) (X.2.2.2.1 _ hk2) (X.2.2.2.1 _ hk3) (X.2.2.2.1 _ hk4) X.2.2.2.2.2.2 hP hD hS a b 0 0 (gg_w_at ha) (gg_w_at hb) (ty := .int) rfl rfl rfl (nI_pos (by omega)) (nI_pos (by omega)) (nI_pos (by omega)) (by rw [nI_clamp (by omega), nI_clamp (by omega)]; exact h1) (by rw [nI_clamp (by omega), nI_clamp (by omega)]; exact h2) (fun i _ => rfl) hdd (show 0 + (nativeFrameWords "java/lang/System" "arraycopy" 5 + 11) ≤ 30 * d from Nat.le_trans (show _ ≤ 30 by decide) (by omega)) hd (fun H1 locs1 hP1 hD1 hS1 => ?_)
  rw [nI_clamp (by omega), nI_clamp (by omega), nI_clamp (by omega)] at hP1 hD1
  have e1 : (gg_w cA E h).set b (E b, .inl (cA, M, .inl (va_cpy f g sp dp n))) = gg_w cA E (h.set b (.inl (M, va_cpy f g sp dp n))) := by
    rw [gg_w_set]
    rfl
  rw [e1] at hP1 hD1
  exact k p e s m args below meth c H1 locs1 A E ls Q X hP1 hD1 hS1 hl kr
theorem gg_free {A : Nat → Prop} {ws : va_W} {H0 H : Heap} {locs : List Loc} (hD : va_D A ws) (hS : va_S A H0 H locs) (hA : ∀ q, H0.size ≤ q → A q) : ∀ q, va_A ws H.size q → A q := by
  intro q hq
  rcases hq with ⟨k, e, hk⟩ | hq
  · exact hD.2 k (q, e) hk
  · exact hA q (Nat.le_trans hS.1 hq)
theorem gg_cats (E : Nat → Nat) (rest : List Value) : ((rest.map (gg_V E)).map fun v => v.category) = rest.map fun v => v.category := by
  rw [List.map_map]
  apply List.map_congr_left
  intro v _
  exact gg_V_cat E v
theorem gg_back {p : Program} {e : Env} {R : Room} {s : State} {m : MethodId} {args : Array Value} {below : List Frame} {meth : Method} {c : Code} {H : Heap} {locs : List Loc} {Q : State → Prop} {A A1 : Nat → Prop} {E : Nat → Nat} {ls : Array Slot} {st0 rest : List Value} {a : Array Value} {Post' : Option Value → List gg_C → Prop}
    (hr : va_Run p l e R s m args below meth c H locs 0 0 0 0 (F0 m pc ls st0) rest (gg_Q D cA E Post' A1 a) A1) (hS : va_S A s.heap H locs) (hA : ∀ q, A1 q → A q)
    (kk : ∀ (r : Option Value) (h' : List gg_C) (H1 : Heap) (locs1 : List Loc), Post' r h' → va_P D classes (gg_w cA E h') H1 → va_D A1 (gg_w cA E h') → va_S A s.heap H1 locs1 → W p l e R s m args below meth c H1 locs1 0 0 Q (F0 m (pc + 3) ls ((r.map (gg_V E)).toList ++ rest))) : W p l e R s m args below meth c H locs 0 0 Q (F0 m pc ls st0) := by
  intro T hT X
  obtain ⟨v, st₀, t, T', L', h0, X', hL, e1, e2, ⟨⟨r, h', hv, hp, hP1, hK1, hD1⟩, hz, hk⟩, stp⟩ := hr T hT X
  cases hv
  rw [h0] at hz hk
  obtain ⟨t2, a1, b1⟩ := kk r h' T'.heap (locs ++ L') hp (by rw [e1]; exact hP1) hD1
    ⟨Nat.le_trans hS.1 (by rw [e1]; exact hz), fun q h1 h2 => by rw [e1, hk q (Nat.lt_of_lt_of_le h1 hS.1) (fun z => h2 (hA q z))]; exact hS.2.1 q h1 h2, fun q hq => by
      rcases List.mem_append.mp hq with h | h
      · exact hS.2.2 q h
      · exact hA _ (hL q h)⟩ T' rfl X'
  exact ⟨t2, stp t2 a1, b1⟩
/-- what the tables say of a call of y at index in 'own': an instance's method, a static one -/
def gg_MV (own : String) (index : Nat) (y : MethodName) (cc : ByteArray) (nL : Nat) (rt : Option FieldType) (n : Nat) : Prop :=
  Cond.code y cc nL rt ∈ lw_good ∧ Cond.methodLink own index y ∈ lw_good ∧ Cond.initialized y.cls ∈ lw_good ∧ (y.cls ≠ "java/lang/invoke/MethodHandle" ∧ y.cls ≠ "java/lang/invoke/VarHandle" ∧ (parseMethodDescriptor y.desc).map (fun d => d.parameters.length) = some n) ∧ nL ≤ 11 ∧ Cond.instanceMethod y ∈ lw_good ∧ Cond.selects y.cls y y ∈ lw_good
def gg_MS (own : String) (index : Nat) (y : MethodName) (cc : ByteArray) (nL : Nat) (rt : Option FieldType) (n : Nat) : Prop :=
  Cond.code y cc nL rt ∈ lw_good ∧ Cond.methodLink own index y ∈ lw_good ∧ Cond.initialized y.cls ∈ lw_good ∧ (y.cls ≠ "java/lang/invoke/MethodHandle" ∧ y.cls ≠ "java/lang/invoke/VarHandle" ∧ (parseMethodDescriptor y.desc).map (fun d => d.parameters.length) = some n) ∧ nL ≤ 11 ∧ Cond.static y ∈ lw_good
theorem gg_callV {index n d' r0 ci nL' : Nat} {y : MethodName} {cc' : ByteArray} {rt' : Option FieldType} {As rest fs : List Value} {q : vw_C} {Post' : Option Value → List gg_C → Prop} (hM : gg_MV own index y cc' nL' rt' n) (hd : decode cc pc = .ok (.invokevirtual index, 3)) (hC : gg_K l D cA d' y cc' nL' rt' (.ref r0 :: As) h Post') (ho : h[r0]? = some (.inr (ci, fs))) (hc : classes[ci]? = some q) (hq : q.1 = y.cls) (hn : As.length = n) (hdd : d' + 1 ≤ d) (hst : st = As.reverse ++ .ref r0 :: rest) (hrest : (rest.map fun v => v.category).sum ≤ 8)
    (kk : ∀ (r : Option Value) (h' : List gg_C), Post' r h' → gg_G l D cA d own cc nL rt Post (pc + 3) L (r.toList ++ rest) h') : gg_G l D cA d own cc nL rt Post pc L st h := by
  intro p e s m args below meth c H locs A E ls Q X hP hD hS hl kr
  obtain ⟨m1, m2, m3, m4, m5, m6, m7⟩ := hM
  obtain ⟨hx, hb, hml, hts, hown, hA, hK⟩ := id X
  subst hst
  have hF := gg_free hD hS hA
  have hcb : CallB (gg_rm d) s args own index y cc' nL' rt' (Cond.code y cc' nL' rt' :: lw_good) (gg_rm d') 0 0 n := callB_of n hts (lw_goodIn (fun _ z => z) m1) rfl rfl rfl (hts _ m3) (hts _ m2) m4 ⟨hdd, by show 8 + (nL' + 11) + 30 * d' ≤ 30 * d; omega⟩
  refine gg_back (A1 := va_A (gg_w cA E h) H.size) (rest := rest.map (gg_V E)) (va_runV (As := As.map (gg_V E)) (b := E r0) (C := y.cls) ⟨hx, hb, hml, hown, hts⟩ (hC E H.size) ⟨hcb, hts _ m6, hts _ m7⟩ ⟨gg_P.blind, by rw [← hq]; exact va_recv hK hP hc (gg_w_at ho), fun U hU hW => ⟨rfl, by rw [hU], by rw [hU]; exact hP, va_K.moved hW.alike hK, hD.weaken (fun _ _ _ _ => trivial)⟩⟩ rfl (by rw [List.length_map]; exact hn) hl.1 (by show List.map (gg_V E) _ = _; simp [gg_V]) (lv_room (by rw [gg_cats]; exact hrest)) hd ⟨Nat.zero_le _, Nat.zero_le _⟩) hS hF (fun r h' H1 locs1 hpost hP1 hD1 hS1 => ?_)
  have := kk r h' hpost p e s m args below meth c H1 locs1 A E ls Q X hP1 (hD1.weaken (fun _ q _ z => hF q.1 z)) hS1 hl kr
  rw [List.map_append] at this
  cases r <;> exact this
theorem gg_callS {index n d' nL' : Nat} {y : MethodName} {cc' : ByteArray} {rt' : Option FieldType} {As rest : List Value} {Post' : Option Value → List gg_C → Prop} (hM : gg_MS own index y cc' nL' rt' n) (hd : decode cc pc = .ok (.invokestatic index, 3)) (hC : gg_K l D cA d' y cc' nL' rt' As h Post') (hn : As.length = n) (hdd : d' + 1 ≤ d) (hst : st = As.reverse ++ rest) (hrest : (rest.map fun v => v.category).sum ≤ 8)
    (kk : ∀ (r : Option Value) (h' : List gg_C), Post' r h' → gg_G l D cA d own cc nL rt Post (pc + 3) L (r.toList ++ rest) h') : gg_G l D cA d own cc nL rt Post pc L st h := by
  intro p e s m args below meth c H locs A E ls Q X hP hD hS hl kr
  obtain ⟨m1, m2, m3, m4, m5, m6⟩ := hM
  obtain ⟨hx, hb, hml, hts, hown, hA, hK⟩ := id X
  subst hst
  have hF := gg_free hD hS hA
  have hcb : CallB (gg_rm d) s args own index y cc' nL' rt' (Cond.code y cc' nL' rt' :: lw_good) (gg_rm d') 0 0 n := callB_of n hts (lw_goodIn (fun _ z => z) m1) rfl rfl rfl (hts _ m3) (hts _ m2) m4 ⟨hdd, by show 8 + (nL' + 11) + 30 * d' ≤ 30 * d; omega⟩
  refine gg_back (A1 := va_A (gg_w cA E h) H.size) (rest := rest.map (gg_V E)) (va_runS (As := As.map (gg_V E)) ⟨hx, hb, hml, hown, hts⟩ (hC E H.size) ⟨hcb, hts _ m6⟩ ⟨gg_P.blind, fun U hU hW => ⟨rfl, by rw [hU], by rw [hU]; exact hP, va_K.moved hW.alike hK, hD.weaken (fun _ _ _ _ => trivial)⟩⟩ rfl (by rw [List.length_map]; exact hn) hl.1 (by show List.map (gg_V E) _ = _; simp) (lv_room (by rw [gg_cats]; exact hrest)) hd ⟨Nat.zero_le _, Nat.zero_le _⟩) hS hF (fun r h' H1 locs1 hpost hP1 hD1 hS1 => ?_)
  have := kk r h' hpost p e s m args below meth c H1 locs1 A E ls Q X hP1 (hD1.weaken (fun _ q _ z => hF q.1 z)) hS1 hl kr
  rw [List.map_append] at this
  cases r <;> exact this
/-- the same, where the contract names answer and picture: with an answer, without one -/
theorem gg_cv1 {index n d' r0 ci nL' : Nat} {y : MethodName} {cc' : ByteArray} {rt' : Option FieldType} {As rest fs : List Value} {q : vw_C} {v : Value} {h1 : List gg_C} (hM : gg_MV own index y cc' nL' rt' n) (hd : decode cc pc = .ok (.invokevirtual index, 3)) (hC : gg_K l D cA d' y cc' nL' rt' (.ref r0 :: As) h (gg_is (some v) h1)) (ho : h[r0]? = some (.inr (ci, fs))) (hc : classes[ci]? = some q) (hq : q.1 = y.cls) (hn : As.length = n) (hdd : d' + 1 ≤ d) (hst : st = As.reverse ++ .ref r0 :: rest) (hrest : (rest.map fun v => v.category).sum ≤ 8)
    (k : gg_G l D cA d own cc nL rt Post (pc + 3) L (v :: rest) h1) : gg_G l D cA d own cc nL rt Post pc L st h :=
  gg_callV hM hd hC ho hc hq hn hdd hst hrest (fun r h' z => by obtain ⟨rfl, rfl⟩ := z; exact k)
theorem gg_cv0 {index n d' r0 ci nL' : Nat} {y : MethodName} {cc' : ByteArray} {rt' : Option FieldType} {As rest fs : List Value} {q : vw_C} {h1 : List gg_C} (hM : gg_MV own index y cc' nL' rt' n) (hd : decode cc pc = .ok (.invokevirtual index, 3)) (hC : gg_K l D cA d' y cc' nL' rt' (.ref r0 :: As) h (gg_is none h1)) (ho : h[r0]? = some (.inr (ci, fs))) (hc : classes[ci]? = some q) (hq : q.1 = y.cls) (hn : As.length = n) (hdd : d' + 1 ≤ d) (hst : st = As.reverse ++ .ref r0 :: rest) (hrest : (rest.map fun v => v.category).sum ≤ 8)
    (k : gg_G l D cA d own cc nL rt Post (pc + 3) L rest h1) : gg_G l D cA d own cc nL rt Post pc L st h :=
  gg_callV hM hd hC ho hc hq hn hdd hst hrest (fun r h' z => by obtain ⟨rfl, rfl⟩ := z; exact k)
theorem gg_cs1 {index n d' nL' : Nat} {y : MethodName} {cc' : ByteArray} {rt' : Option FieldType} {As rest : List Value} {v : Value} {h1 : List gg_C} (hM : gg_MS own index y cc' nL' rt' n) (hd : decode cc pc = .ok (.invokestatic index, 3)) (hC : gg_K l D cA d' y cc' nL' rt' As h (gg_is (some v) h1)) (hn : As.length = n) (hdd : d' + 1 ≤ d) (hst : st = As.reverse ++ rest) (hrest : (rest.map fun v => v.category).sum ≤ 8)
    (k : gg_G l D cA d own cc nL rt Post (pc + 3) L (v :: rest) h1) : gg_G l D cA d own cc nL rt Post pc L st h :=
  gg_callS hM hd hC hn hdd hst hrest (fun r h' z => by obtain ⟨rfl, rfl⟩ := z; exact k)
theorem gg_cs0 {index n d' nL' : Nat} {y : MethodName} {cc' : ByteArray} {rt' : Option FieldType} {As rest : List Value} {h1 : List gg_C} (hM : gg_MS own index y cc' nL' rt' n) (hd : decode cc pc = .ok (.invokestatic index, 3)) (hC : gg_K l D cA d' y cc' nL' rt' As h (gg_is none h1)) (hn : As.length = n) (hdd : d' + 1 ≤ d) (hst : st = As.reverse ++ rest) (hrest : (rest.map fun v => v.category).sum ≤ 8)
    (k : gg_G l D cA d own cc nL rt Post (pc + 3) L rest h1) : gg_G l D cA d own cc nL rt Post pc L st h :=
  gg_callS hM hd hC hn hdd hst hrest (fun r h' z => by obtain ⟨rfl, rfl⟩ := z; exact k)
end GG
