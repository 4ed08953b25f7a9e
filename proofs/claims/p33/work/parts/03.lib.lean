/-! THE ENVIRONMENT: what every method may use of the machine's tables and statics, and that nobody changes -/
abbrev EV : Type := va_G × ClassId × ClassId × (Nat → Nat) × (Nat → Nat)
abbrev rq (k : Nat) : Room := { frames := k, cells := 0, slots := 0, locals := 32 * k }
abbrev tyE (E : EV) : List (ClassId × FieldType) := [(E.2.1, .int), (E.2.2.1, .char)]
def st_tab (n : String) (L : List Int32) (A : Nat → Prop) (U : State) (H : Heap) : Prop := ∃ t : Nat, va_Z RX7 n "[I" (.ref t) A U H ∧ va_T .int t 4 (fun j => .int (L.getD j 0)) A U H
def en_n (U : State) : Prop :=
  va_Nw (.methodLinkNest RX0 9 yX7_isWithin "TimingLights") U ∧ va_Nw (.methodLinkNest RX0 32 yX7_isPoints "TimingLights") U ∧ va_Nw (.methodLinkNest RX0 50 yX7_isColour "TimingLights") U ∧ va_Nw (.methodLinkNest RX5 19 yX7_bounded "TimingLights") U ∧ va_Nw (.methodLinkNest RX0 107 yX7_bounded "TimingLights") U ∧ True ∧ True ∧
  va_Nw (.fieldLinkNest RX3 15 "TimingLights" "FIRST_SETTING" "[I" "TimingLights") U ∧ va_Nw (.fieldLinkNest RX0 13 "TimingLights" "LEAST_SETTING" "[I" "TimingLights") U ∧ va_Nw (.fieldLinkNest RX0 17 "TimingLights" "MOST_SETTING" "[I" "TimingLights") U
def en (E : EV) (A : Nat → Prop) (U : State) (H : Heap) : Prop :=
  va_K E.1 vwCl (tyE E) U ∧ en_n U ∧ True ∧ st_tab "FIRST_SETTING" [1, 1, 8, 10] A U H ∧ st_tab "LEAST_SETTING" [1, 0, 1, 0] A U H ∧ st_tab "MOST_SETTING" [5, 9, 40, 50] A U H ∧
  True
theorem st_tab.go {n : String} {L : List Int32} {A B : Nat → Prop} {s U : State} {H : Heap} {locs : List Loc} (h : st_tab n L A s s.heap) (hS : va_S A s.heap H locs) (hB : ∀ q, B q → A q) (hv : s.vm.Alike U.vm) : st_tab n L B U H := by
  obtain ⟨t, h1, h2⟩ := h
  exact ⟨t, ((h1.kept hS.2.1).moved hv).narrow hB, ((h2.kept hS.2.1).moved hv).narrow hB⟩
theorem en_n.warm {s U : State} (hW : s.WarmedH U.vm) (h : en_n s) : en_n U := by
  obtain ⟨h1, h2, h3, h4, h5, h6, h7, h8, h9, h10⟩ := h
  exact ⟨h1.warmM hW, h2.warmM hW, h3.warmM hW, h4.warmM hW, h5.warmM hW, trivial, trivial, h8.warmF hW, h9.warmF hW, h10.warmF hW⟩
theorem en_n.same {u U : State} (hv : u.vm = U.vm) (h : en_n u) : en_n U := by
  obtain ⟨h1, h2, h3, h4, h5, h6, h7, h8, h9, h10⟩ := h
  exact ⟨h1.same rfl hv, h2.same rfl hv, h3.same rfl hv, h4.same rfl hv, h5.same rfl hv, trivial, trivial, h8.same rfl hv, h9.same rfl hv, h10.same rfl hv⟩
theorem en.go {E : EV} {A B : Nat → Prop} {s U : State} {H : Heap} {locs : List Loc} (h : en E A s s.heap) (hS : va_S A s.heap H locs) (hB : ∀ q, B q → A q) (hW : s.WarmedH U.vm) : en E B U H := by
  obtain ⟨h1, h2, h3, h4, h5, h6, h7⟩ := h
  have hv := hW.alike
  exact ⟨h1.moved hv, h2.warm hW, trivial, h4.go hS hB hv, h5.go hS hB hv, h6.go hS hB hv, trivial⟩
theorem en.same {E : EV} {A : Nat → Prop} {u U : State} {H : Heap} (hv : U.vm = u.vm) (h : en E A u H) : en E A U H := by
  obtain ⟨h1, h2, h3, ⟨t4, h4, g4⟩, ⟨t5, h5, g5⟩, ⟨t6, h6, g6⟩, h7⟩ := h
  have ha : u.vm.Alike U.vm := by rw [hv]; exact Vm.Alike.refl u.vm
  exact ⟨h1.moved ha, h2.same hv.symm, trivial, ⟨t4, h4.moved ha, g4.moved ha⟩, ⟨t5, h5.moved ha, g5.moved ha⟩, ⟨t6, h6.moved ha, g6.moved ha⟩, trivial⟩
/-! CALLS: a world in which some cells are another's -/
def rp : va_W → List Nat → va_W → va_W
  | w, i :: is, x :: xs => rp (w.set i x) is xs
  | w, _, _ => w
theorem rp_get : ∀ (is : List Nat) (w1 w : va_W) (k : Nat) (q : Nat × va_E), is.length = w1.length → (rp w is w1)[k]? = some q → (∃ j : Nat, is[j]? = some k ∧ w1[j]? = some q) ∨ (k ∉ is ∧ w[k]? = some q)
  | [], _, w, k, q, _, h => Or.inr ⟨List.not_mem_nil, by simpa [rp] using h⟩
  | i :: is, [], w, k, q, hl, h => by simp at hl
  | i :: is, x :: xs, w, k, q, hl, h => by
    have h' : (rp (w.set i x) is xs)[k]? = some q := h
    rcases rp_get is xs (w.set i x) k q (by simpa using hl) h' with ⟨j, h1, h2⟩ | ⟨h1, h2⟩
    · exact Or.inl ⟨j + 1, by simpa using h1, by simpa using h2⟩
    · by_cases e : k = i
      · subst e
        rw [List.getElem?_set] at h2
        simp at h2
        exact Or.inl ⟨0, by simp, by simp [h2.2]⟩
      · rw [List.getElem?_set_ne (fun z => e z.symm)] at h2
        exact Or.inr ⟨fun z => by rcases List.mem_cons.mp z with z | z; exact e z; exact h1 z, h2⟩
theorem rp_fst : ∀ (is : List Nat) (w1 w : va_W), is.map (fun i => (w.map Prod.fst)[i]?) = w1.map (fun x => some x.1) → (rp w is w1).map Prod.fst = w.map Prod.fst
  | [], _, w, _ => by simp [rp]
  | i :: is, [], w, h => by simp at h
  | i :: is, x :: xs, w, h => by
    simp only [List.map_cons, List.cons.injEq] at h
    have e : (w.set i x).map Prod.fst = w.map Prod.fst := by
      rw [List.map_set]
      obtain ⟨hi, he⟩ := List.getElem?_eq_some_iff.mp h.1
      rw [← he]
      exact List.set_getElem_self hi
    show (rp (w.set i x) is xs).map Prod.fst = _
    rw [rp_fst is xs (w.set i x) (by rw [e]; exact h.2), e]
theorem va_D.con {A : Nat → Prop} {w w' : va_W} (hD : va_D A w) (h : w'.map Prod.fst = w.map Prod.fst) : va_D A w' := by
  have key : ∀ (k : Nat) (q : Nat × va_E), w'[k]? = some q → ∃ q', w[k]? = some q' ∧ q'.1 = q.1 := by
    intro k q hk
    have h1 : (w'.map Prod.fst)[k]? = some q.1 := by rw [List.getElem?_map, hk]; rfl
    rw [h, List.getElem?_map] at h1
    cases hq : w[k]? with
    | none => rw [hq] at h1; cases h1
    | some q' => rw [hq] at h1; exact ⟨q', rfl, Option.some.inj h1⟩
  refine ⟨fun i j p q hi hj e => ?_, fun k q hk => ?_⟩
  · obtain ⟨p', a1, a2⟩ := key i p hi
    obtain ⟨q', b1, b2⟩ := key j q hj
    exact hD.1 i j p' q' a1 b1 (by rw [a2, b2, e])
  · obtain ⟨q', a1, a2⟩ := key k q hk
    rw [← a2]
    exact hD.2 k q' a1
/-- addresses apart, whatever stands there -/
def va_Da (A : Nat → Prop) (ad : List Nat) : Prop := ∃ w : va_W, va_D A w ∧ w.map Prod.fst = ad
theorem va_Da.to {A : Nat → Prop} {ad : List Nat} {w : va_W} (h : va_Da A ad) (e : w.map Prod.fst = ad) : va_D A w := by
  obtain ⟨w0, h1, h2⟩ := h
  exact h1.con (e.trans h2.symm)
theorem fm_of {α β : Type} {f : α → Option β} : ∀ (is : List α) (wc : List β), is.map f = wc.map some → is.filterMap f = wc
  | [], [], _ => rfl
  | [], _ :: _, h => by simp at h
  | _ :: _, [], h => by simp at h
  | i :: is, x :: xs, h => by
    simp only [List.map_cons, List.cons.injEq] at h
    rw [List.filterMap_cons_some h.1, fm_of is xs h.2]
theorem rj {D : va_G} {cl : List vw_C} {A : Nat → Prop} {w wc w1 : va_W} {H H1 : Heap} (hP : va_P D cl w H) (hD : va_D A w) (is : List Nat) (hC : is.map (fun i => w[i]?) = wc.map some) (ha : wc.map Prod.fst = w1.map Prod.fst)
    (hk : ∀ q : Nat, q < H.size → ¬ va_A wc H.size q → H1[q]? = H[q]?) (hP1 : va_P D cl w1 H1) : va_P D cl (rp w is w1) H1 ∧ va_D A (rp w is w1) := by
  have hl : is.length = w1.length := by
    have e1 := congrArg List.length hC
    have e2 := congrArg List.length ha
    simp at e1 e2
    omega
  refine ⟨fun k q hkq => ?_, hD.con (rp_fst is w1 w ?_)⟩
  · rcases rp_get is w1 w k q hl hkq with ⟨j, h1, h2⟩ | ⟨h1, h2⟩
    · exact hP1 j q h2
    · have hlt := (hP k q h2).lt
      refine (hP k q h2).kept (hk q.1 hlt fun z => ?_)
      rcases z with ⟨j, e, z⟩ | z
      · have h3 : (is.map (fun i => w[i]?))[j]? = some (some (q.1, e)) := by rw [hC, List.getElem?_map, z]; rfl
        rw [List.getElem?_map] at h3
        cases hi : is[j]? with
        | none => rw [hi] at h3; cases h3
        | some i =>
          rw [hi] at h3
          have h4 : w[i]? = some (q.1, e) := Option.some.inj h3
          have := hD.1 k i q (q.1, e) h2 h4 rfl
          subst this
          exact h1 (List.mem_of_getElem? hi)
      · omega
  · have e1 : (is.map (fun i => w[i]?)).map (Option.map Prod.fst) = (wc.map some).map (Option.map Prod.fst) := by rw [hC]
    have e2 : w1.map (fun x => some x.1) = (w1.map Prod.fst).map some := by simp
    rw [e2, ← ha]
    simpa [List.map_map, Function.comp_def] using e1
/-! CONTRACTS: a method that makes nothing, over a world whose addresses stay: the answer and the world behind it -/
abbrev rc_Pc (E : EV) (av : List Value) (w : va_W) (sz : Nat) : Array Value → State → Prop := va_Pc av (fun U => U.heap.size = sz ∧ va_P E.1 vwCl w U.heap ∧ en E (va_A w sz) U U.heap ∧ va_D (fun _ => True) w)
def rcI (l : Launch) (E : EV) (y : MethodName) (cc : ByteArray) (mL : Nat) (rt : FieldType) (k : Nat) (av : List Value) (w : va_W) (v : Int32) (w1 : va_W) : Prop :=
  ∀ sz : Nat, Met l y (Cond.code y cc mL (some rt) :: bw) (rq k) (rc_Pc E av w sz) (va_Qi (fun (r : Int32) (_ : Unit) => r = v) (fun _ t => va_P E.1 vwCl w1 t.heap) (va_A w sz)) 0 0 (va_A w sz)
def rcV (l : Launch) (E : EV) (y : MethodName) (cc : ByteArray) (mL : Nat) (k : Nat) (av : List Value) (w : va_W) (w1 : va_W) : Prop :=
  ∀ sz : Nat, Met l y (Cond.code y cc mL none :: bw) (rq k) (rc_Pc E av w sz) (va_Qv (fun (_ : Unit) => True) (fun _ t => va_P E.1 vwCl w1 t.heap) (va_A w sz)) 0 0 (va_A w sz)
theorem rcI_of {l : Launch} {E : EV} {y : MethodName} {cc : ByteArray} {mL : Nat} {rt : FieldType} {k : Nat} {av : List Value} {w : va_W} {v : Int32} {w1 : va_W} (hy : plainName y.cls = true) (hlen : (lg_sl av).length ≤ mL)
    (body : ∀ (p : Program) (e : Env) (s : State) (m : MethodId) (below : List Frame) (meth : Method) (c : Code) (Q : State → Prop) (A : Nat → Prop) (ls : Array Slot),
      CallFix p m c cc mL s av.toArray bw y.cls → va_P E.1 vwCl w s.heap → va_D A w → en E A s s.heap → (∀ q, s.heap.size ≤ q → A q) → lv_has ls mL (lv_args 0 av) →
      (∀ (H : Heap) (locs : List Loc) (v' : Int32) (w' : va_W) (pc : Nat) (ls' : Array Slot), v' = v → w' = w1 → narrow rt (.int v') = .int v' → va_P E.1 vwCl w' H → va_S A s.heap H locs → decode cc pc = .ok (.ireturn, 1) → W p l e (rq k) s m av.toArray below meth c H locs 0 0 Q (F0 m pc ls' [.int v'])) →
      W p l e (rq k) s m av.toArray below meth c s.heap [] 0 0 Q (F0 m 0 ls [])) : rcI l E y cc mL rt k av w v w1 := by
  intro sz
  refine Met.ofW (cc := cc) (maxL := mL) (ret := some rt) hy rfl ?_
  intro p e s m args below meth c s₁ B hml hv
  obtain ⟨rfl, hsz, hP, hE, hD0⟩ := hv
  subst hsz
  have hts := atoms_spec (ws := Cond.code y cc mL (some rt) :: bw) B.pre
  rw [lg_entry_eq]
  have hl := lv_entry av (n := mL) hlen
  generalize (lg_sl av ++ List.replicate (mL - (lg_sl av).length) Slot.unset).toArray = ls at hl ⊢
  refine body p e s m below meth c _ (va_A w s.heap.size) ls ⟨B.exec, B.bytes, hml, findClass_of_methodNamed B.named, fun x hx => hts x (List.mem_cons_of_mem _ hx)⟩ hP hD0.self hE (fun q h => Or.inr h) hl ?_
  intro H locs v' w' pc ls' hv hw hn hP1 hS hdg
  subst hv
  subst hw
  exact W.zret B.exec B.bytes B.returns hn (fun t ht hW => ⟨⟨v', (), rfl, rfl, by show va_P E.1 vwCl w' t.heap; rw [ht]; exact hP1⟩, hS.F ht⟩) hS.2.2 hdg B.notSynchronized
def rcL (l : Launch) (E : EV) (y : MethodName) (cc : ByteArray) (mL : Nat) (k : Nat) (av : List Value) (w : va_W) (v : Int64) (w1 : va_W) : Prop :=
  ∀ sz : Nat, Met l y (Cond.code y cc mL (some .long) :: bw) (rq k) (rc_Pc E av w sz) (va_Ql (fun (r : Int64) (_ : Unit) => r = v) (fun _ t => va_P E.1 vwCl w1 t.heap) (va_A w sz)) 0 0 (va_A w sz)
theorem rcL_of {l : Launch} {E : EV} {y : MethodName} {cc : ByteArray} {mL : Nat} {k : Nat} {av : List Value} {w : va_W} {v : Int64} {w1 : va_W} (hy : plainName y.cls = true) (hlen : (lg_sl av).length ≤ mL)
    (body : ∀ (p : Program) (e : Env) (s : State) (m : MethodId) (below : List Frame) (meth : Method) (c : Code) (Q : State → Prop) (A : Nat → Prop) (ls : Array Slot),
      CallFix p m c cc mL s av.toArray bw y.cls → va_P E.1 vwCl w s.heap → va_D A w → en E A s s.heap → (∀ q, s.heap.size ≤ q → A q) → lv_has ls mL (lv_args 0 av) →
      (∀ (H : Heap) (locs : List Loc) (v' : Int64) (w' : va_W) (pc : Nat) (ls' : Array Slot), v' = v → w' = w1 → va_P E.1 vwCl w' H → va_S A s.heap H locs → decode cc pc = .ok (.lreturn, 1) → W p l e (rq k) s m av.toArray below meth c H locs 0 0 Q (F0 m pc ls' [.long v'])) →
      W p l e (rq k) s m av.toArray below meth c s.heap [] 0 0 Q (F0 m 0 ls [])) : rcL l E y cc mL k av w v w1 := by
  intro sz
  refine Met.ofW (cc := cc) (maxL := mL) (ret := some .long) hy rfl ?_
  intro p e s m args below meth c s₁ B hml hv
  obtain ⟨rfl, hsz, hP, hE, hD0⟩ := hv
  subst hsz
  have hts := atoms_spec (ws := Cond.code y cc mL (some .long) :: bw) B.pre
  rw [lg_entry_eq]
  have hl := lv_entry av (n := mL) hlen
  generalize (lg_sl av ++ List.replicate (mL - (lg_sl av).length) Slot.unset).toArray = ls at hl ⊢
  refine body p e s m below meth c _ (va_A w s.heap.size) ls ⟨B.exec, B.bytes, hml, findClass_of_methodNamed B.named, fun x hx => hts x (List.mem_cons_of_mem _ hx)⟩ hP hD0.self hE (fun q h => Or.inr h) hl ?_
  intro H locs v' w' pc ls' hv hw hP1 hS hdg
  subst hv
  subst hw
  exact W.lret B.exec B.bytes B.returns (fun t ht hW => ⟨⟨v', (), rfl, rfl, by show va_P E.1 vwCl w' t.heap; rw [ht]; exact hP1⟩, hS.F ht⟩) hS.2.2 hdg B.notSynchronized
/-- a static method over the script alone -/
def rcX (l : Launch) (y : MethodName) (cc : ByteArray) (mL : Nat) (b LL : Nat) (xs : Nat → Int32) (k : Int32) (v : Int32) : Prop :=
  ∀ sz : Nat, Met l y (Cond.code y cc mL (some .int) :: bw) (rq 0) (va_Pc [.ref b, .int k] (fun U => U.heap.size = sz ∧ va_X b LL xs U U.heap ∧ b < sz)) (va_Qi (fun (r : Int32) (_ : Unit) => r = v) (fun _ _ => True) (va_A [] sz)) 0 0 (va_A [] sz)
theorem rcX_of {l : Launch} {y : MethodName} {cc : ByteArray} {mL : Nat} {b LL : Nat} {xs : Nat → Int32} {k v : Int32} (hy : plainName y.cls = true) (hlen : (lg_sl [.ref b, .int k]).length ≤ mL)
    (body : ∀ (p : Program) (e : Env) (s : State) (m : MethodId) (below : List Frame) (meth : Method) (c : Code) (Q : State → Prop) (A : Nat → Prop) (ls : Array Slot),
      CallFix p m c cc mL s #[.ref b, .int k] bw y.cls → va_X b LL xs s s.heap → b < s.heap.size → ¬ A b → lv_has ls mL (lv_args 0 [.ref b, .int k]) →
      (∀ (v' : Int32) (pc : Nat) (ls' : Array Slot), v' = v → decode cc pc = .ok (.ireturn, 1) → W p l e (rq 0) s m #[.ref b, .int k] below meth c s.heap [] 0 0 Q (F0 m pc ls' [.int v'])) →
      W p l e (rq 0) s m #[.ref b, .int k] below meth c s.heap [] 0 0 Q (F0 m 0 ls [])) : rcX l y cc mL b LL xs k v := by
  intro sz
  refine Met.ofW (cc := cc) (maxL := mL) (ret := some .int) hy rfl ?_
  intro p e s m args below meth c s₁ B hml hv
  obtain ⟨rfl, hsz, hX, hbl⟩ := hv
  subst hsz
  have hts := atoms_spec (ws := Cond.code y cc mL (some .int) :: bw) B.pre
  rw [lg_entry_eq]
  have hl := lv_entry [.ref b, .int k] (n := mL) hlen
  generalize (lg_sl [.ref b, .int k] ++ List.replicate (mL - (lg_sl [.ref b, .int k]).length) Slot.unset).toArray = ls at hl ⊢
  refine body p e s m below meth c _ (va_A [] s.heap.size) ls ⟨B.exec, B.bytes, hml, findClass_of_methodNamed B.named, fun x hx => hts x (List.mem_cons_of_mem _ hx)⟩ hX hbl (fun z => by rcases z with ⟨k9, e9, z9⟩ | z; simp at z9; omega) hl ?_
  intro v' pc ls' hv hdg
  subst hv
  have hS : va_S (va_A [] s.heap.size) s.heap s.heap [] := va_S.rf
  exact W.zret B.exec B.bytes B.returns rfl (fun t ht hW => ⟨⟨v', (), rfl, rfl, trivial⟩, hS.F ht⟩) hS.2.2 hdg B.notSynchronized
theorem rcV_of {l : Launch} {E : EV} {y : MethodName} {cc : ByteArray} {mL : Nat} {k : Nat} {av : List Value} {w : va_W} {w1 : va_W} (hy : plainName y.cls = true) (hlen : (lg_sl av).length ≤ mL)
    (body : ∀ (p : Program) (e : Env) (s : State) (m : MethodId) (below : List Frame) (meth : Method) (c : Code) (Q : State → Prop) (A : Nat → Prop) (ls : Array Slot),
      CallFix p m c cc mL s av.toArray bw y.cls → va_P E.1 vwCl w s.heap → va_D A w → en E A s s.heap → (∀ q, s.heap.size ≤ q → A q) → lv_has ls mL (lv_args 0 av) →
      (∀ (H : Heap) (locs : List Loc) (w' : va_W) (pc : Nat) (ls' : Array Slot), w' = w1 → va_P E.1 vwCl w' H → va_S A s.heap H locs → decode cc pc = .ok (.return_, 1) → W p l e (rq k) s m av.toArray below meth c H locs 0 0 Q (F0 m pc ls' [])) →
      W p l e (rq k) s m av.toArray below meth c s.heap [] 0 0 Q (F0 m 0 ls [])) : rcV l E y cc mL k av w w1 := by
  intro sz
  refine Met.ofW (cc := cc) (maxL := mL) (ret := none) hy rfl ?_
  intro p e s m args below meth c s₁ B hml hv
  obtain ⟨rfl, hsz, hP, hE, hD0⟩ := hv
  subst hsz
  have hts := atoms_spec (ws := Cond.code y cc mL none :: bw) B.pre
  rw [lg_entry_eq]
  have hl := lv_entry av (n := mL) hlen
  generalize (lg_sl av ++ List.replicate (mL - (lg_sl av).length) Slot.unset).toArray = ls at hl ⊢
  refine body p e s m below meth c _ (va_A w s.heap.size) ls ⟨B.exec, B.bytes, hml, findClass_of_methodNamed B.named, fun x hx => hts x (List.mem_cons_of_mem _ hx)⟩ hP hD0.self hE (fun q h => Or.inr h) hl ?_
  intro H locs w' pc ls' hw hP1 hS hdg
  subst hw
  exact W.vret B.exec B.bytes B.returns (fun t ht hW => ⟨⟨(), rfl, trivial, by show va_P E.1 vwCl w' t.heap; rw [ht]; exact hP1⟩, hS.F ht⟩) hS.2.2 hdg B.notSynchronized
/-- what a caller knows of a method: its code is among the tables' words, how many parameters it has -/
def cdB (y : MethodName) (cc : ByteArray) (mL : Nat) (ret : Option FieldType) (n : Nat) : Prop := Cond.code y cc mL ret ∈ bw ∧ Cond.initialized y.cls ∈ bw ∧ y.cls ≠ "java/lang/invoke/MethodHandle" ∧ y.cls ≠ "java/lang/invoke/VarHandle" ∧ (parseMethodDescriptor y.desc).map (fun d => d.parameters.length) = some n
def cdV (C : String) (y : MethodName) (cc : ByteArray) (mL : Nat) (ret : Option FieldType) (n : Nat) : Prop := cdB y cc mL ret n ∧ Cond.instanceMethod y ∈ bw ∧ Cond.selects C y y ∈ bw
def cdS (y : MethodName) (cc : ByteArray) (mL : Nat) (ret : Option FieldType) (n : Nat) : Prop := cdB y cc mL ret n ∧ Cond.static y ∈ bw
theorem nI_z {a : Nat} (ha : a < 2 ^ 31) : nI a = 0 ↔ a = 0 := by
  rw [← nI_0]; exact nI_eq ha (by omega)
theorem nI_g {a : Nat} (ha : a < 2 ^ 31) : 0 < nI a ↔ 0 < a := by
  rw [← nI_0]; exact nI_ltI (by omega) ha
theorem nI_l0 {a : Nat} (ha : a < 2 ^ 31) : nI a ≤ 0 ↔ a ≤ 0 := by
  rw [← nI_0]; exact nI_leI ha (by omega)
section RW
variable {p : Program} {l : Launch} {e : Env} {R : Room} {s : State} {m : MethodId} {args : Array Value} {below : List Frame} {meth : Method} {c : Code} {H : Heap} {locs : List Loc} {cells slots : Nat} {Q : State → Prop}
variable {cc : ByteArray} {pc nL : Nat} {ls : Array Slot} {rest st0 : List Value} {own : String} {E : EV} {A : Nat → Prop} {w wc w1 : va_W}
variable {y : MethodName} {cc2 : ByteArray} {mL2 j idx n : Nat} {rt : FieldType} {As : List Value} {v : Int32} {b : Nat} {C : String} {T : u_T} {N ci q0 : Nat} {fs : List Value}
theorem rc_cb {ret : Option FieldType} (S : CallFix p m c cc nL s args bw own) (hc : cdB y cc2 mL2 ret n) (hlk : Cond.methodLink own idx y ∈ bw) (hR : j + 1 ≤ R.frames ∧ 8 + (mL2 + 11) + 32 * j ≤ R.locals) : CallB R s args own idx y cc2 mL2 ret (Cond.code y cc2 mL2 ret :: bw) (rq j) 0 0 n :=
  callB_of n S.2.2.2.2 (bw_good hc.1) rfl rfl rfl (S.2.2.2.2 _ hc.2.1) (S.2.2.2.2 _ hlk) hc.2.2 hR
theorem rc_pre (hE : en E A s s.heap) (hS : va_S A s.heap H locs) (hP : va_P E.1 vwCl w H) (hD : va_D A w) (hA : ∀ q, s.heap.size ≤ q → A q) (is : List Nat) (hC : is.map (fun i => w[i]?) = wc.map some) (hnd : va_nd is = true) (av : List Value) :
    FrameBlind (rc_Pc E av wc H.size) ∧ (∀ U : State, U.heap = H → s.WarmedH U.vm → rc_Pc E av wc H.size av.toArray U) ∧ ∀ q, va_A wc H.size q → A q := by
  have hF := va_free (wc := wc) hD hS hA is hC
  refine ⟨fun a U g mk q => ?_, fun U hU hW => ?_, hF⟩
  · obtain ⟨q0, q1, qP, qE, qD⟩ := q
    exact ⟨q0, q1, qP, qE.same rfl, qD⟩
  · subst hU
    exact ⟨rfl, rfl, hP.sub is (fm_of is wc hC), hE.go hS hF hW, (hD.sub is hnd hC).weaken (fun _ _ _ _ => trivial)⟩
/-- a call of an instance method with an int answer -/
theorem rwV (S : CallFix p m c cc nL s args bw own) (hM : rcI l E y cc2 mL2 rt j (.ref b :: As) wc v w1) (hc : cdV C y cc2 mL2 (some rt) n) (hlk : Cond.methodLink own idx y ∈ bw) (hR : j + 1 ≤ R.frames ∧ 8 + (mL2 + 11) + 32 * j ≤ R.locals) (hf : cells ≤ R.cells ∧ slots ≤ R.slots)
    (hP : va_P E.1 vwCl w H) (hD : va_D A w) (hE : en E A s s.heap) (hA : ∀ q, s.heap.size ≤ q → A q) (hS : va_S A s.heap H locs) (is : List Nat) (hC : is.map (fun i => w[i]?) = wc.map some) (hnd : va_nd is = true) (ad : List Nat) (ha1 : wc.map Prod.fst = ad) (ha2 : w1.map Prod.fst = ad)
    (hci : vwCl[ci]? = some (C, T, N)) (hq0 : wc[q0]? = some (b, .inr (ci, fs))) (hn : As.length = n) (hst : st0 = As.reverse ++ .ref b :: rest) (hW : (rest.map fun v => v.category).sum ≤ 8) (hls : ls.size = nL) (hdg : decode cc pc = .ok (.invokevirtual idx, 3))
    (kk : ∀ (H1 : Heap) (locs1 : List Loc), va_P E.1 vwCl (rp w is w1) H1 → va_D A (rp w is w1) → va_S A s.heap H1 locs1 → W p l e R s m args below meth c H1 locs1 cells slots Q (F0 m (pc + 3) ls (.int v :: rest))) : W p l e R s m args below meth c H locs cells slots Q (F0 m pc ls st0) := by
  obtain ⟨hb0, hpre, hF⟩ := rc_pre hE hS hP hD hA is hC hnd (.ref b :: As)
  refine va_calli (va_runV (As := As) (rest := rest) S (hM H.size) ⟨rc_cb S hc.1 hlk hR, S.2.2.2.2 _ hc.2.1, S.2.2.2.2 _ hc.2.2⟩ ⟨hb0, va_recv hE.1 (hP.sub is (fm_of is wc hC)) hci hq0, hpre⟩ rfl hn hls hst (by show 2 * 0 + _ ≤ 8; omega) hdg ⟨hf.1, hf.2⟩) hS (fun q _ h => hF q h) hF (fun r u t H1 locs1 ht hvm hr hB hz1 hk1 hS1 => ?_)
  rw [ht] at hB
  rw [show r = v from hr]
  obtain ⟨hP2, hD2⟩ := rj hP hD is hC (ha1.trans ha2.symm) hk1 hB
  exact kk H1 locs1 hP2 hD2 hS1
theorem rwVv (S : CallFix p m c cc nL s args bw own) (hM : rcV l E y cc2 mL2 j (.ref b :: As) wc w1) (hc : cdV C y cc2 mL2 none n) (hlk : Cond.methodLink own idx y ∈ bw) (hR : j + 1 ≤ R.frames ∧ 8 + (mL2 + 11) + 32 * j ≤ R.locals) (hf : cells ≤ R.cells ∧ slots ≤ R.slots)
    (hP : va_P E.1 vwCl w H) (hD : va_D A w) (hE : en E A s s.heap) (hA : ∀ q, s.heap.size ≤ q → A q) (hS : va_S A s.heap H locs) (is : List Nat) (hC : is.map (fun i => w[i]?) = wc.map some) (hnd : va_nd is = true) (ad : List Nat) (ha1 : wc.map Prod.fst = ad) (ha2 : w1.map Prod.fst = ad)
    (hci : vwCl[ci]? = some (C, T, N)) (hq0 : wc[q0]? = some (b, .inr (ci, fs))) (hn : As.length = n) (hst : st0 = As.reverse ++ .ref b :: rest) (hW : (rest.map fun v => v.category).sum ≤ 8) (hls : ls.size = nL) (hdg : decode cc pc = .ok (.invokevirtual idx, 3))
    (kk : ∀ (H1 : Heap) (locs1 : List Loc), va_P E.1 vwCl (rp w is w1) H1 → va_D A (rp w is w1) → va_S A s.heap H1 locs1 → W p l e R s m args below meth c H1 locs1 cells slots Q (F0 m (pc + 3) ls rest)) : W p l e R s m args below meth c H locs cells slots Q (F0 m pc ls st0) := by
  obtain ⟨hb0, hpre, hF⟩ := rc_pre hE hS hP hD hA is hC hnd (.ref b :: As)
  refine va_callv (va_runV (As := As) (rest := rest) S (hM H.size) ⟨rc_cb S hc.1 hlk hR, S.2.2.2.2 _ hc.2.1, S.2.2.2.2 _ hc.2.2⟩ ⟨hb0, va_recv hE.1 (hP.sub is (fm_of is wc hC)) hci hq0, hpre⟩ rfl hn hls hst (by show 2 * 0 + _ ≤ 8; omega) hdg ⟨hf.1, hf.2⟩) hS (fun q _ h => hF q h) hF (fun u t H1 locs1 ht hvm hr hB hz1 hk1 hS1 => ?_)
  rw [ht] at hB
  obtain ⟨hP2, hD2⟩ := rj hP hD is hC (ha1.trans ha2.symm) hk1 hB
  exact kk H1 locs1 hP2 hD2 hS1
theorem rwS (S : CallFix p m c cc nL s args bw own) (hM : rcI l E y cc2 mL2 rt j As wc v w1) (hc : cdS y cc2 mL2 (some rt) n) (hlk : Cond.methodLink own idx y ∈ bw) (hR : j + 1 ≤ R.frames ∧ 8 + (mL2 + 11) + 32 * j ≤ R.locals) (hf : cells ≤ R.cells ∧ slots ≤ R.slots)
    (hP : va_P E.1 vwCl w H) (hD : va_D A w) (hE : en E A s s.heap) (hA : ∀ q, s.heap.size ≤ q → A q) (hS : va_S A s.heap H locs) (is : List Nat) (hC : is.map (fun i => w[i]?) = wc.map some) (hnd : va_nd is = true) (ad : List Nat) (ha1 : wc.map Prod.fst = ad) (ha2 : w1.map Prod.fst = ad)
    (hn : As.length = n) (hst : st0 = As.reverse ++ rest) (hW : (rest.map fun v => v.category).sum ≤ 8) (hls : ls.size = nL) (hdg : decode cc pc = .ok (.invokestatic idx, 3))
    (kk : ∀ (H1 : Heap) (locs1 : List Loc), va_P E.1 vwCl (rp w is w1) H1 → va_D A (rp w is w1) → va_S A s.heap H1 locs1 → W p l e R s m args below meth c H1 locs1 cells slots Q (F0 m (pc + 3) ls (.int v :: rest))) : W p l e R s m args below meth c H locs cells slots Q (F0 m pc ls st0) := by
  obtain ⟨hb0, hpre, hF⟩ := rc_pre hE hS hP hD hA is hC hnd As
  refine va_calli (va_runS (As := As) (rest := rest) S (hM H.size) ⟨rc_cb S hc.1 hlk hR, S.2.2.2.2 _ hc.2⟩ ⟨hb0, hpre⟩ rfl hn hls hst (by show 2 * 0 + _ ≤ 8; omega) hdg ⟨hf.1, hf.2⟩) hS (fun q _ h => hF q h) hF (fun r u t H1 locs1 ht hvm hr hB hz1 hk1 hS1 => ?_)
  rw [ht] at hB
  rw [show r = v from hr]
  obtain ⟨hP2, hD2⟩ := rj hP hD is hC (ha1.trans ha2.symm) hk1 hB
  exact kk H1 locs1 hP2 hD2 hS1
theorem rwSl {v : Int64} (S : CallFix p m c cc nL s args bw own) (hM : rcL l E y cc2 mL2 j As wc v w1) (hc : cdS y cc2 mL2 (some .long) n) (hlk : Cond.methodLink own idx y ∈ bw) (hR : j + 1 ≤ R.frames ∧ 8 + (mL2 + 11) + 32 * j ≤ R.locals) (hf : cells ≤ R.cells ∧ slots ≤ R.slots)
    (hP : va_P E.1 vwCl w H) (hD : va_D A w) (hE : en E A s s.heap) (hA : ∀ q, s.heap.size ≤ q → A q) (hS : va_S A s.heap H locs) (is : List Nat) (hC : is.map (fun i => w[i]?) = wc.map some) (hnd : va_nd is = true) (ad : List Nat) (ha1 : wc.map Prod.fst = ad) (ha2 : w1.map Prod.fst = ad)
    (hn : As.length = n) (hst : st0 = As.reverse ++ rest) (hW : (rest.map fun v => v.category).sum ≤ 8) (hls : ls.size = nL) (hdg : decode cc pc = .ok (.invokestatic idx, 3))
    (kk : ∀ (H1 : Heap) (locs1 : List Loc), va_P E.1 vwCl (rp w is w1) H1 → va_D A (rp w is w1) → va_S A s.heap H1 locs1 → W p l e R s m args below meth c H1 locs1 cells slots Q (F0 m (pc + 3) ls (.long v :: rest))) : W p l e R s m args below meth c H locs cells slots Q (F0 m pc ls st0) := by
  obtain ⟨hb0, hpre, hF⟩ := rc_pre hE hS hP hD hA is hC hnd As
  refine va_calll (va_runS (As := As) (rest := rest) S (hM H.size) ⟨rc_cb S hc.1 hlk hR, S.2.2.2.2 _ hc.2⟩ ⟨hb0, hpre⟩ rfl hn hls hst (by show 2 * 0 + _ ≤ 8; omega) hdg ⟨hf.1, hf.2⟩) hS (fun q _ h => hF q h) hF (fun r u t H1 locs1 ht hvm hr hB hz1 hk1 hS1 => ?_)
  rw [ht] at hB
  rw [show r = v from hr]
  obtain ⟨hP2, hD2⟩ := rj hP hD is hC (ha1.trans ha2.symm) hk1 hB
  exact kk H1 locs1 hP2 hD2 hS1
theorem rwSl1 {a1 : Value} {v : Int64} (S : CallFix p m c cc nL s args bw own) (hM : rcL l E y cc2 mL2 j [a1] wc v w1) (hc : cdS y cc2 mL2 (some .long) 1) (hlk : Cond.methodLink own idx y ∈ bw) (hR : j + 1 ≤ R.frames ∧ 8 + (mL2 + 11) + 32 * j ≤ R.locals) (hf : cells ≤ R.cells ∧ slots ≤ R.slots)
    (hP : va_P E.1 vwCl w H) (hD : va_D A w) (hE : en E A s s.heap) (hA : ∀ q, s.heap.size ≤ q → A q) (hS : va_S A s.heap H locs) (is : List Nat) (hC : is.map (fun i => w[i]?) = wc.map some) (hnd : va_nd is = true) (ad : List Nat) (ha1 : wc.map Prod.fst = ad) (ha2 : w1.map Prod.fst = ad)
    (hW : (rest.map fun v => v.category).sum ≤ 8) (hls : ls.size = nL) (hdg : decode cc pc = .ok (.invokestatic idx, 3))
    (kk : ∀ (H1 : Heap) (locs1 : List Loc), va_P E.1 vwCl (rp w is w1) H1 → va_D A (rp w is w1) → va_S A s.heap H1 locs1 → W p l e R s m args below meth c H1 locs1 cells slots Q (F0 m (pc + 3) ls (.long v :: rest))) : W p l e R s m args below meth c H locs cells slots Q (F0 m pc ls (a1 :: rest)) :=
  rwSl (As := [a1]) S hM hc hlk hR hf hP hD hE hA hS is hC hnd ad ha1 ha2 rfl rfl hW hls hdg kk
/-- a call over the script alone: nothing of the world changes -/
theorem rwX {b LL : Nat} {xs : Nat → Int32} {k : Int32} (S : CallFix p m c cc nL s args bw own) (hM : rcX l y cc2 mL2 b LL xs k v) (hc : cdS y cc2 mL2 (some .int) 2) (hlk : Cond.methodLink own idx y ∈ bw) (hR : 1 ≤ R.frames ∧ 8 + (mL2 + 11) ≤ R.locals) (hf : cells ≤ R.cells ∧ slots ≤ R.slots)
    (hX : va_X b LL xs s s.heap) (hbl : b < s.heap.size) (hbA : ¬ A b) (hP : va_P E.1 vwCl w H) (hD : va_D A w) (hA : ∀ q, s.heap.size ≤ q → A q) (hS : va_S A s.heap H locs)
    (hW : (rest.map fun v => v.category).sum ≤ 8) (hls : ls.size = nL) (hdg : decode cc pc = .ok (.invokestatic idx, 3))
    (kk : ∀ (H1 : Heap) (locs1 : List Loc), va_P E.1 vwCl w H1 → va_D A w → va_S A s.heap H1 locs1 → W p l e R s m args below meth c H1 locs1 cells slots Q (F0 m (pc + 3) ls (.int v :: rest))) : W p l e R s m args below meth c H locs cells slots Q (F0 m pc ls (.int k :: .ref b :: rest)) := by
  have hF : ∀ q, va_A [] H.size q → A q := fun q z => by
    rcases z with ⟨k9, e9, z9⟩ | z
    · simp at z9
    · exact hA q (Nat.le_trans hS.1 z)
  refine va_calli (va_runS (As := [.ref b, .int k]) (rest := rest) S (hM H.size) ⟨rc_cb S hc.1 hlk ⟨hR.1, hR.2⟩, S.2.2.2.2 _ hc.2⟩ ⟨fun a U g mk q => q, fun U hU hW9 => ?_⟩ rfl rfl hls rfl (by show 2 * 0 + _ ≤ 8; omega) hdg ⟨hf.1, hf.2⟩) hS (fun q _ h => hF q h) hF (fun r u t H1 locs1 ht hvm hr hB hz1 hk1 hS1 => ?_)
  · subst hU
    exact ⟨rfl, rfl, (hX.kept (hS.2.1 b hbl hbA)).moved hW9.alike, Nat.lt_of_lt_of_le hbl hS.1⟩
  · rw [show r = v from hr]
    refine kk H1 locs1 (hP.kept (fun k9 q9 h9 => hk1 q9.1 ?_ (fun z => ?_))) hD hS1
    · exact (hP k9 q9 h9).lt
    · rcases z with ⟨k8, e8, z8⟩ | z
      · simp at z8
      · exact absurd (hP k9 q9 h9).lt (Nat.not_lt_of_le z)
theorem rwSv (S : CallFix p m c cc nL s args bw own) (hM : rcV l E y cc2 mL2 j As wc w1) (hc : cdS y cc2 mL2 none n) (hlk : Cond.methodLink own idx y ∈ bw) (hR : j + 1 ≤ R.frames ∧ 8 + (mL2 + 11) + 32 * j ≤ R.locals) (hf : cells ≤ R.cells ∧ slots ≤ R.slots)
    (hP : va_P E.1 vwCl w H) (hD : va_D A w) (hE : en E A s s.heap) (hA : ∀ q, s.heap.size ≤ q → A q) (hS : va_S A s.heap H locs) (is : List Nat) (hC : is.map (fun i => w[i]?) = wc.map some) (hnd : va_nd is = true) (ad : List Nat) (ha1 : wc.map Prod.fst = ad) (ha2 : w1.map Prod.fst = ad)
    (hn : As.length = n) (hst : st0 = As.reverse ++ rest) (hW : (rest.map fun v => v.category).sum ≤ 8) (hls : ls.size = nL) (hdg : decode cc pc = .ok (.invokestatic idx, 3))
    (kk : ∀ (H1 : Heap) (locs1 : List Loc), va_P E.1 vwCl (rp w is w1) H1 → va_D A (rp w is w1) → va_S A s.heap H1 locs1 → W p l e R s m args below meth c H1 locs1 cells slots Q (F0 m (pc + 3) ls rest)) : W p l e R s m args below meth c H locs cells slots Q (F0 m pc ls st0) := by
  obtain ⟨hb0, hpre, hF⟩ := rc_pre hE hS hP hD hA is hC hnd As
  refine va_callv (va_runS (As := As) (rest := rest) S (hM H.size) ⟨rc_cb S hc.1 hlk hR, S.2.2.2.2 _ hc.2⟩ ⟨hb0, hpre⟩ rfl hn hls hst (by show 2 * 0 + _ ≤ 8; omega) hdg ⟨hf.1, hf.2⟩) hS (fun q _ h => hF q h) hF (fun u t H1 locs1 ht hvm hr hB hz1 hk1 hS1 => ?_)
  rw [ht] at hB
  obtain ⟨hP2, hD2⟩ := rj hP hD is hC (ha1.trans ha2.symm) hk1 hB
  exact kk H1 locs1 hP2 hD2 hS1
/-- a static private method of the nest host -/
theorem rwN {host : String} (S : CallFix p m c cc nL s args bw own) (hM : rcI l E y cc2 mL2 rt j As wc v w1) (hc : cdS y cc2 mL2 (some rt) n) (hlk : va_Nw (.methodLinkNest own idx y host) s) (hR : j + 1 ≤ R.frames ∧ 8 + (mL2 + 11) + 32 * j ≤ R.locals) (hf : cells ≤ R.cells ∧ slots ≤ R.slots)
    (hP : va_P E.1 vwCl w H) (hD : va_D A w) (hE : en E A s s.heap) (hA : ∀ q, s.heap.size ≤ q → A q) (hS : va_S A s.heap H locs) (is : List Nat) (hC : is.map (fun i => w[i]?) = wc.map some) (hnd : va_nd is = true) (ad : List Nat) (ha1 : wc.map Prod.fst = ad) (ha2 : w1.map Prod.fst = ad)
    (hn : As.length = n) (hst : st0 = As.reverse ++ rest) (hW : (rest.map fun v => v.category).sum ≤ 8) (hls : ls.size = nL) (hdg : decode cc pc = .ok (.invokestatic idx, 3))
    (kk : ∀ (H1 : Heap) (locs1 : List Loc), va_P E.1 vwCl (rp w is w1) H1 → va_D A (rp w is w1) → va_S A s.heap H1 locs1 → W p l e R s m args below meth c H1 locs1 cells slots Q (F0 m (pc + 3) ls (.int v :: rest))) : W p l e R s m args below meth c H locs cells slots Q (F0 m pc ls st0) := by
  obtain ⟨hb0, hpre, hF⟩ := rc_pre hE hS hP hD hA is hC hnd As
  refine va_calli (va_runSN (As := As) (rest := rest) S (hM H.size) ⟨va_cnB n S.2.2.2.2 (bw_good hc.1.1) rfl rfl rfl hlk (S.2.2.2.2 _ hc.1.2.1) hc.1.2.2 hR, S.2.2.2.2 _ hc.2, trivial⟩ ⟨hb0, hpre⟩ rfl hn hls hst (by show 2 * 0 + _ ≤ 8; omega) hdg ⟨hf.1, hf.2⟩) hS (fun q _ h => hF q h) hF (fun r u t H1 locs1 ht hvm hr hB hz1 hk1 hS1 => ?_)
  rw [ht] at hB
  rw [show r = v from hr]
  obtain ⟨hP2, hD2⟩ := rj hP hD is hC (ha1.trans ha2.symm) hk1 hB
  exact kk H1 locs1 hP2 hD2 hS1
/-! the same, by the number of parameters -/
theorem rwV0 (S : CallFix p m c cc nL s args bw own) (hM : rcI l E y cc2 mL2 rt j [.ref b] wc v w1) (hc : cdV C y cc2 mL2 (some rt) 0) (hlk : Cond.methodLink own idx y ∈ bw) (hR : j + 1 ≤ R.frames ∧ 8 + (mL2 + 11) + 32 * j ≤ R.locals) (hf : cells ≤ R.cells ∧ slots ≤ R.slots)
    (hP : va_P E.1 vwCl w H) (hD : va_D A w) (hE : en E A s s.heap) (hA : ∀ q, s.heap.size ≤ q → A q) (hS : va_S A s.heap H locs) (is : List Nat) (hC : is.map (fun i => w[i]?) = wc.map some) (hnd : va_nd is = true) (ad : List Nat) (ha1 : wc.map Prod.fst = ad) (ha2 : w1.map Prod.fst = ad)
    (hci : vwCl[ci]? = some (C, T, N)) (hq0 : wc[q0]? = some (b, .inr (ci, fs))) (hW : (rest.map fun v => v.category).sum ≤ 8) (hls : ls.size = nL) (hdg : decode cc pc = .ok (.invokevirtual idx, 3))
    (kk : ∀ (H1 : Heap) (locs1 : List Loc), va_P E.1 vwCl (rp w is w1) H1 → va_D A (rp w is w1) → va_S A s.heap H1 locs1 → W p l e R s m args below meth c H1 locs1 cells slots Q (F0 m (pc + 3) ls (.int v :: rest))) : W p l e R s m args below meth c H locs cells slots Q (F0 m pc ls (.ref b :: rest)) :=
  rwV (As := []) S hM hc hlk hR hf hP hD hE hA hS is hC hnd ad ha1 ha2 hci hq0 rfl rfl hW hls hdg kk
theorem rwV1 {a1 : Value} (S : CallFix p m c cc nL s args bw own) (hM : rcI l E y cc2 mL2 rt j [.ref b, a1] wc v w1) (hc : cdV C y cc2 mL2 (some rt) 1) (hlk : Cond.methodLink own idx y ∈ bw) (hR : j + 1 ≤ R.frames ∧ 8 + (mL2 + 11) + 32 * j ≤ R.locals) (hf : cells ≤ R.cells ∧ slots ≤ R.slots)
    (hP : va_P E.1 vwCl w H) (hD : va_D A w) (hE : en E A s s.heap) (hA : ∀ q, s.heap.size ≤ q → A q) (hS : va_S A s.heap H locs) (is : List Nat) (hC : is.map (fun i => w[i]?) = wc.map some) (hnd : va_nd is = true) (ad : List Nat) (ha1 : wc.map Prod.fst = ad) (ha2 : w1.map Prod.fst = ad)
    (hci : vwCl[ci]? = some (C, T, N)) (hq0 : wc[q0]? = some (b, .inr (ci, fs))) (hW : (rest.map fun v => v.category).sum ≤ 8) (hls : ls.size = nL) (hdg : decode cc pc = .ok (.invokevirtual idx, 3))
    (kk : ∀ (H1 : Heap) (locs1 : List Loc), va_P E.1 vwCl (rp w is w1) H1 → va_D A (rp w is w1) → va_S A s.heap H1 locs1 → W p l e R s m args below meth c H1 locs1 cells slots Q (F0 m (pc + 3) ls (.int v :: rest))) : W p l e R s m args below meth c H locs cells slots Q (F0 m pc ls (a1 :: .ref b :: rest)) :=
  rwV (As := [a1]) S hM hc hlk hR hf hP hD hE hA hS is hC hnd ad ha1 ha2 hci hq0 rfl rfl hW hls hdg kk
theorem rwV2 {a1 a2 : Value} (S : CallFix p m c cc nL s args bw own) (hM : rcI l E y cc2 mL2 rt j [.ref b, a1, a2] wc v w1) (hc : cdV C y cc2 mL2 (some rt) 2) (hlk : Cond.methodLink own idx y ∈ bw) (hR : j + 1 ≤ R.frames ∧ 8 + (mL2 + 11) + 32 * j ≤ R.locals) (hf : cells ≤ R.cells ∧ slots ≤ R.slots)
    (hP : va_P E.1 vwCl w H) (hD : va_D A w) (hE : en E A s s.heap) (hA : ∀ q, s.heap.size ≤ q → A q) (hS : va_S A s.heap H locs) (is : List Nat) (hC : is.map (fun i => w[i]?) = wc.map some) (hnd : va_nd is = true) (ad : List Nat) (ha1 : wc.map Prod.fst = ad) (ha2 : w1.map Prod.fst = ad)
    (hci : vwCl[ci]? = some (C, T, N)) (hq0 : wc[q0]? = some (b, .inr (ci, fs))) (hW : (rest.map fun v => v.category).sum ≤ 8) (hls : ls.size = nL) (hdg : decode cc pc = .ok (.invokevirtual idx, 3))
    (kk : ∀ (H1 : Heap) (locs1 : List Loc), va_P E.1 vwCl (rp w is w1) H1 → va_D A (rp w is w1) → va_S A s.heap H1 locs1 → W p l e R s m args below meth c H1 locs1 cells slots Q (F0 m (pc + 3) ls (.int v :: rest))) : W p l e R s m args below meth c H locs cells slots Q (F0 m pc ls (a2 :: a1 :: .ref b :: rest)) :=
  rwV (As := [a1, a2]) S hM hc hlk hR hf hP hD hE hA hS is hC hnd ad ha1 ha2 hci hq0 rfl rfl hW hls hdg kk
theorem rwV3 {a1 a2 a3 : Value} (S : CallFix p m c cc nL s args bw own) (hM : rcI l E y cc2 mL2 rt j [.ref b, a1, a2, a3] wc v w1) (hc : cdV C y cc2 mL2 (some rt) 3) (hlk : Cond.methodLink own idx y ∈ bw) (hR : j + 1 ≤ R.frames ∧ 8 + (mL2 + 11) + 32 * j ≤ R.locals) (hf : cells ≤ R.cells ∧ slots ≤ R.slots)
    (hP : va_P E.1 vwCl w H) (hD : va_D A w) (hE : en E A s s.heap) (hA : ∀ q, s.heap.size ≤ q → A q) (hS : va_S A s.heap H locs) (is : List Nat) (hC : is.map (fun i => w[i]?) = wc.map some) (hnd : va_nd is = true) (ad : List Nat) (ha1 : wc.map Prod.fst = ad) (ha2 : w1.map Prod.fst = ad)
    (hci : vwCl[ci]? = some (C, T, N)) (hq0 : wc[q0]? = some (b, .inr (ci, fs))) (hW : (rest.map fun v => v.category).sum ≤ 8) (hls : ls.size = nL) (hdg : decode cc pc = .ok (.invokevirtual idx, 3))
    (kk : ∀ (H1 : Heap) (locs1 : List Loc), va_P E.1 vwCl (rp w is w1) H1 → va_D A (rp w is w1) → va_S A s.heap H1 locs1 → W p l e R s m args below meth c H1 locs1 cells slots Q (F0 m (pc + 3) ls (.int v :: rest))) : W p l e R s m args below meth c H locs cells slots Q (F0 m pc ls (a3 :: a2 :: a1 :: .ref b :: rest)) :=
  rwV (As := [a1, a2, a3]) S hM hc hlk hR hf hP hD hE hA hS is hC hnd ad ha1 ha2 hci hq0 rfl rfl hW hls hdg kk
theorem rwV4 {a1 a2 a3 a4 : Value} (S : CallFix p m c cc nL s args bw own) (hM : rcI l E y cc2 mL2 rt j [.ref b, a1, a2, a3, a4] wc v w1) (hc : cdV C y cc2 mL2 (some rt) 4) (hlk : Cond.methodLink own idx y ∈ bw) (hR : j + 1 ≤ R.frames ∧ 8 + (mL2 + 11) + 32 * j ≤ R.locals) (hf : cells ≤ R.cells ∧ slots ≤ R.slots)
    (hP : va_P E.1 vwCl w H) (hD : va_D A w) (hE : en E A s s.heap) (hA : ∀ q, s.heap.size ≤ q → A q) (hS : va_S A s.heap H locs) (is : List Nat) (hC : is.map (fun i => w[i]?) = wc.map some) (hnd : va_nd is = true) (ad : List Nat) (ha1 : wc.map Prod.fst = ad) (ha2 : w1.map Prod.fst = ad)
    (hci : vwCl[ci]? = some (C, T, N)) (hq0 : wc[q0]? = some (b, .inr (ci, fs))) (hW : (rest.map fun v => v.category).sum ≤ 8) (hls : ls.size = nL) (hdg : decode cc pc = .ok (.invokevirtual idx, 3))
    (kk : ∀ (H1 : Heap) (locs1 : List Loc), va_P E.1 vwCl (rp w is w1) H1 → va_D A (rp w is w1) → va_S A s.heap H1 locs1 → W p l e R s m args below meth c H1 locs1 cells slots Q (F0 m (pc + 3) ls (.int v :: rest))) : W p l e R s m args below meth c H locs cells slots Q (F0 m pc ls (a4 :: a3 :: a2 :: a1 :: .ref b :: rest)) :=
  rwV (As := [a1, a2, a3, a4]) S hM hc hlk hR hf hP hD hE hA hS is hC hnd ad ha1 ha2 hci hq0 rfl rfl hW hls hdg kk
theorem rwV5 {a1 a2 a3 a4 a5 : Value} (S : CallFix p m c cc nL s args bw own) (hM : rcI l E y cc2 mL2 rt j [.ref b, a1, a2, a3, a4, a5] wc v w1) (hc : cdV C y cc2 mL2 (some rt) 5) (hlk : Cond.methodLink own idx y ∈ bw) (hR : j + 1 ≤ R.frames ∧ 8 + (mL2 + 11) + 32 * j ≤ R.locals) (hf : cells ≤ R.cells ∧ slots ≤ R.slots)
    (hP : va_P E.1 vwCl w H) (hD : va_D A w) (hE : en E A s s.heap) (hA : ∀ q, s.heap.size ≤ q → A q) (hS : va_S A s.heap H locs) (is : List Nat) (hC : is.map (fun i => w[i]?) = wc.map some) (hnd : va_nd is = true) (ad : List Nat) (ha1 : wc.map Prod.fst = ad) (ha2 : w1.map Prod.fst = ad)
    (hci : vwCl[ci]? = some (C, T, N)) (hq0 : wc[q0]? = some (b, .inr (ci, fs))) (hW : (rest.map fun v => v.category).sum ≤ 8) (hls : ls.size = nL) (hdg : decode cc pc = .ok (.invokevirtual idx, 3))
    (kk : ∀ (H1 : Heap) (locs1 : List Loc), va_P E.1 vwCl (rp w is w1) H1 → va_D A (rp w is w1) → va_S A s.heap H1 locs1 → W p l e R s m args below meth c H1 locs1 cells slots Q (F0 m (pc + 3) ls (.int v :: rest))) : W p l e R s m args below meth c H locs cells slots Q (F0 m pc ls (a5 :: a4 :: a3 :: a2 :: a1 :: .ref b :: rest)) :=
  rwV (As := [a1, a2, a3, a4, a5]) S hM hc hlk hR hf hP hD hE hA hS is hC hnd ad ha1 ha2 hci hq0 rfl rfl hW hls hdg kk
theorem rwV6 {a1 a2 a3 a4 a5 a6 : Value} (S : CallFix p m c cc nL s args bw own) (hM : rcI l E y cc2 mL2 rt j [.ref b, a1, a2, a3, a4, a5, a6] wc v w1) (hc : cdV C y cc2 mL2 (some rt) 6) (hlk : Cond.methodLink own idx y ∈ bw) (hR : j + 1 ≤ R.frames ∧ 8 + (mL2 + 11) + 32 * j ≤ R.locals) (hf : cells ≤ R.cells ∧ slots ≤ R.slots)
    (hP : va_P E.1 vwCl w H) (hD : va_D A w) (hE : en E A s s.heap) (hA : ∀ q, s.heap.size ≤ q → A q) (hS : va_S A s.heap H locs) (is : List Nat) (hC : is.map (fun i => w[i]?) = wc.map some) (hnd : va_nd is = true) (ad : List Nat) (ha1 : wc.map Prod.fst = ad) (ha2 : w1.map Prod.fst = ad)
    (hci : vwCl[ci]? = some (C, T, N)) (hq0 : wc[q0]? = some (b, .inr (ci, fs))) (hW : (rest.map fun v => v.category).sum ≤ 8) (hls : ls.size = nL) (hdg : decode cc pc = .ok (.invokevirtual idx, 3))
    (kk : ∀ (H1 : Heap) (locs1 : List Loc), va_P E.1 vwCl (rp w is w1) H1 → va_D A (rp w is w1) → va_S A s.heap H1 locs1 → W p l e R s m args below meth c H1 locs1 cells slots Q (F0 m (pc + 3) ls (.int v :: rest))) : W p l e R s m args below meth c H locs cells slots Q (F0 m pc ls (a6 :: a5 :: a4 :: a3 :: a2 :: a1 :: .ref b :: rest)) :=
  rwV (As := [a1, a2, a3, a4, a5, a6]) S hM hc hlk hR hf hP hD hE hA hS is hC hnd ad ha1 ha2 hci hq0 rfl rfl hW hls hdg kk
theorem rwVv0 (S : CallFix p m c cc nL s args bw own) (hM : rcV l E y cc2 mL2 j [.ref b] wc w1) (hc : cdV C y cc2 mL2 none 0) (hlk : Cond.methodLink own idx y ∈ bw) (hR : j + 1 ≤ R.frames ∧ 8 + (mL2 + 11) + 32 * j ≤ R.locals) (hf : cells ≤ R.cells ∧ slots ≤ R.slots)
    (hP : va_P E.1 vwCl w H) (hD : va_D A w) (hE : en E A s s.heap) (hA : ∀ q, s.heap.size ≤ q → A q) (hS : va_S A s.heap H locs) (is : List Nat) (hC : is.map (fun i => w[i]?) = wc.map some) (hnd : va_nd is = true) (ad : List Nat) (ha1 : wc.map Prod.fst = ad) (ha2 : w1.map Prod.fst = ad)
    (hci : vwCl[ci]? = some (C, T, N)) (hq0 : wc[q0]? = some (b, .inr (ci, fs))) (hW : (rest.map fun v => v.category).sum ≤ 8) (hls : ls.size = nL) (hdg : decode cc pc = .ok (.invokevirtual idx, 3))
    (kk : ∀ (H1 : Heap) (locs1 : List Loc), va_P E.1 vwCl (rp w is w1) H1 → va_D A (rp w is w1) → va_S A s.heap H1 locs1 → W p l e R s m args below meth c H1 locs1 cells slots Q (F0 m (pc + 3) ls rest)) : W p l e R s m args below meth c H locs cells slots Q (F0 m pc ls (.ref b :: rest)) :=
  rwVv (As := []) S hM hc hlk hR hf hP hD hE hA hS is hC hnd ad ha1 ha2 hci hq0 rfl rfl hW hls hdg kk
theorem rwVv1 {a1 : Value} (S : CallFix p m c cc nL s args bw own) (hM : rcV l E y cc2 mL2 j [.ref b, a1] wc w1) (hc : cdV C y cc2 mL2 none 1) (hlk : Cond.methodLink own idx y ∈ bw) (hR : j + 1 ≤ R.frames ∧ 8 + (mL2 + 11) + 32 * j ≤ R.locals) (hf : cells ≤ R.cells ∧ slots ≤ R.slots)
    (hP : va_P E.1 vwCl w H) (hD : va_D A w) (hE : en E A s s.heap) (hA : ∀ q, s.heap.size ≤ q → A q) (hS : va_S A s.heap H locs) (is : List Nat) (hC : is.map (fun i => w[i]?) = wc.map some) (hnd : va_nd is = true) (ad : List Nat) (ha1 : wc.map Prod.fst = ad) (ha2 : w1.map Prod.fst = ad)
    (hci : vwCl[ci]? = some (C, T, N)) (hq0 : wc[q0]? = some (b, .inr (ci, fs))) (hW : (rest.map fun v => v.category).sum ≤ 8) (hls : ls.size = nL) (hdg : decode cc pc = .ok (.invokevirtual idx, 3))
    (kk : ∀ (H1 : Heap) (locs1 : List Loc), va_P E.1 vwCl (rp w is w1) H1 → va_D A (rp w is w1) → va_S A s.heap H1 locs1 → W p l e R s m args below meth c H1 locs1 cells slots Q (F0 m (pc + 3) ls rest)) : W p l e R s m args below meth c H locs cells slots Q (F0 m pc ls (a1 :: .ref b :: rest)) :=
  rwVv (As := [a1]) S hM hc hlk hR hf hP hD hE hA hS is hC hnd ad ha1 ha2 hci hq0 rfl rfl hW hls hdg kk
theorem rwVv2 {a1 a2 : Value} (S : CallFix p m c cc nL s args bw own) (hM : rcV l E y cc2 mL2 j [.ref b, a1, a2] wc w1) (hc : cdV C y cc2 mL2 none 2) (hlk : Cond.methodLink own idx y ∈ bw) (hR : j + 1 ≤ R.frames ∧ 8 + (mL2 + 11) + 32 * j ≤ R.locals) (hf : cells ≤ R.cells ∧ slots ≤ R.slots)
    (hP : va_P E.1 vwCl w H) (hD : va_D A w) (hE : en E A s s.heap) (hA : ∀ q, s.heap.size ≤ q → A q) (hS : va_S A s.heap H locs) (is : List Nat) (hC : is.map (fun i => w[i]?) = wc.map some) (hnd : va_nd is = true) (ad : List Nat) (ha1 : wc.map Prod.fst = ad) (ha2 : w1.map Prod.fst = ad)
    (hci : vwCl[ci]? = some (C, T, N)) (hq0 : wc[q0]? = some (b, .inr (ci, fs))) (hW : (rest.map fun v => v.category).sum ≤ 8) (hls : ls.size = nL) (hdg : decode cc pc = .ok (.invokevirtual idx, 3))
    (kk : ∀ (H1 : Heap) (locs1 : List Loc), va_P E.1 vwCl (rp w is w1) H1 → va_D A (rp w is w1) → va_S A s.heap H1 locs1 → W p l e R s m args below meth c H1 locs1 cells slots Q (F0 m (pc + 3) ls rest)) : W p l e R s m args below meth c H locs cells slots Q (F0 m pc ls (a2 :: a1 :: .ref b :: rest)) :=
  rwVv (As := [a1, a2]) S hM hc hlk hR hf hP hD hE hA hS is hC hnd ad ha1 ha2 hci hq0 rfl rfl hW hls hdg kk
theorem rwVv3 {a1 a2 a3 : Value} (S : CallFix p m c cc nL s args bw own) (hM : rcV l E y cc2 mL2 j [.ref b, a1, a2, a3] wc w1) (hc : cdV C y cc2 mL2 none 3) (hlk : Cond.methodLink own idx y ∈ bw) (hR : j + 1 ≤ R.frames ∧ 8 + (mL2 + 11) + 32 * j ≤ R.locals) (hf : cells ≤ R.cells ∧ slots ≤ R.slots)
    (hP : va_P E.1 vwCl w H) (hD : va_D A w) (hE : en E A s s.heap) (hA : ∀ q, s.heap.size ≤ q → A q) (hS : va_S A s.heap H locs) (is : List Nat) (hC : is.map (fun i => w[i]?) = wc.map some) (hnd : va_nd is = true) (ad : List Nat) (ha1 : wc.map Prod.fst = ad) (ha2 : w1.map Prod.fst = ad)
    (hci : vwCl[ci]? = some (C, T, N)) (hq0 : wc[q0]? = some (b, .inr (ci, fs))) (hW : (rest.map fun v => v.category).sum ≤ 8) (hls : ls.size = nL) (hdg : decode cc pc = .ok (.invokevirtual idx, 3))
    (kk : ∀ (H1 : Heap) (locs1 : List Loc), va_P E.1 vwCl (rp w is w1) H1 → va_D A (rp w is w1) → va_S A s.heap H1 locs1 → W p l e R s m args below meth c H1 locs1 cells slots Q (F0 m (pc + 3) ls rest)) : W p l e R s m args below meth c H locs cells slots Q (F0 m pc ls (a3 :: a2 :: a1 :: .ref b :: rest)) :=
  rwVv (As := [a1, a2, a3]) S hM hc hlk hR hf hP hD hE hA hS is hC hnd ad ha1 ha2 hci hq0 rfl rfl hW hls hdg kk
theorem rwVv4 {a1 a2 a3 a4 : Value} (S : CallFix p m c cc nL s args bw own) (hM : rcV l E y cc2 mL2 j [.ref b, a1, a2, a3, a4] wc w1) (hc : cdV C y cc2 mL2 none 4) (hlk : Cond.methodLink own idx y ∈ bw) (hR : j + 1 ≤ R.frames ∧ 8 + (mL2 + 11) + 32 * j ≤ R.locals) (hf : cells ≤ R.cells ∧ slots ≤ R.slots)
    (hP : va_P E.1 vwCl w H) (hD : va_D A w) (hE : en E A s s.heap) (hA : ∀ q, s.heap.size ≤ q → A q) (hS : va_S A s.heap H locs) (is : List Nat) (hC : is.map (fun i => w[i]?) = wc.map some) (hnd : va_nd is = true) (ad : List Nat) (ha1 : wc.map Prod.fst = ad) (ha2 : w1.map Prod.fst = ad)
    (hci : vwCl[ci]? = some (C, T, N)) (hq0 : wc[q0]? = some (b, .inr (ci, fs))) (hW : (rest.map fun v => v.category).sum ≤ 8) (hls : ls.size = nL) (hdg : decode cc pc = .ok (.invokevirtual idx, 3))
    (kk : ∀ (H1 : Heap) (locs1 : List Loc), va_P E.1 vwCl (rp w is w1) H1 → va_D A (rp w is w1) → va_S A s.heap H1 locs1 → W p l e R s m args below meth c H1 locs1 cells slots Q (F0 m (pc + 3) ls rest)) : W p l e R s m args below meth c H locs cells slots Q (F0 m pc ls (a4 :: a3 :: a2 :: a1 :: .ref b :: rest)) :=
  rwVv (As := [a1, a2, a3, a4]) S hM hc hlk hR hf hP hD hE hA hS is hC hnd ad ha1 ha2 hci hq0 rfl rfl hW hls hdg kk
theorem rwS0 (S : CallFix p m c cc nL s args bw own) (hM : rcI l E y cc2 mL2 rt j [] wc v w1) (hc : cdS y cc2 mL2 (some rt) 0) (hlk : Cond.methodLink own idx y ∈ bw) (hR : j + 1 ≤ R.frames ∧ 8 + (mL2 + 11) + 32 * j ≤ R.locals) (hf : cells ≤ R.cells ∧ slots ≤ R.slots)
    (hP : va_P E.1 vwCl w H) (hD : va_D A w) (hE : en E A s s.heap) (hA : ∀ q, s.heap.size ≤ q → A q) (hS : va_S A s.heap H locs) (is : List Nat) (hC : is.map (fun i => w[i]?) = wc.map some) (hnd : va_nd is = true) (ad : List Nat) (ha1 : wc.map Prod.fst = ad) (ha2 : w1.map Prod.fst = ad)
    (hW : (rest.map fun v => v.category).sum ≤ 8) (hls : ls.size = nL) (hdg : decode cc pc = .ok (.invokestatic idx, 3))
    (kk : ∀ (H1 : Heap) (locs1 : List Loc), va_P E.1 vwCl (rp w is w1) H1 → va_D A (rp w is w1) → va_S A s.heap H1 locs1 → W p l e R s m args below meth c H1 locs1 cells slots Q (F0 m (pc + 3) ls (.int v :: rest))) : W p l e R s m args below meth c H locs cells slots Q (F0 m pc ls (rest)) :=
  rwS (As := []) S hM hc hlk hR hf hP hD hE hA hS is hC hnd ad ha1 ha2 rfl rfl hW hls hdg kk
theorem rwS1 {a1 : Value} (S : CallFix p m c cc nL s args bw own) (hM : rcI l E y cc2 mL2 rt j [a1] wc v w1) (hc : cdS y cc2 mL2 (some rt) 1) (hlk : Cond.methodLink own idx y ∈ bw) (hR : j + 1 ≤ R.frames ∧ 8 + (mL2 + 11) + 32 * j ≤ R.locals) (hf : cells ≤ R.cells ∧ slots ≤ R.slots)
    (hP : va_P E.1 vwCl w H) (hD : va_D A w) (hE : en E A s s.heap) (hA : ∀ q, s.heap.size ≤ q → A q) (hS : va_S A s.heap H locs) (is : List Nat) (hC : is.map (fun i => w[i]?) = wc.map some) (hnd : va_nd is = true) (ad : List Nat) (ha1 : wc.map Prod.fst = ad) (ha2 : w1.map Prod.fst = ad)
    (hW : (rest.map fun v => v.category).sum ≤ 8) (hls : ls.size = nL) (hdg : decode cc pc = .ok (.invokestatic idx, 3))
    (kk : ∀ (H1 : Heap) (locs1 : List Loc), va_P E.1 vwCl (rp w is w1) H1 → va_D A (rp w is w1) → va_S A s.heap H1 locs1 → W p l e R s m args below meth c H1 locs1 cells slots Q (F0 m (pc + 3) ls (.int v :: rest))) : W p l e R s m args below meth c H locs cells slots Q (F0 m pc ls (a1 :: rest)) :=
  rwS (As := [a1]) S hM hc hlk hR hf hP hD hE hA hS is hC hnd ad ha1 ha2 rfl rfl hW hls hdg kk
theorem rwS2 {a1 a2 : Value} (S : CallFix p m c cc nL s args bw own) (hM : rcI l E y cc2 mL2 rt j [a1, a2] wc v w1) (hc : cdS y cc2 mL2 (some rt) 2) (hlk : Cond.methodLink own idx y ∈ bw) (hR : j + 1 ≤ R.frames ∧ 8 + (mL2 + 11) + 32 * j ≤ R.locals) (hf : cells ≤ R.cells ∧ slots ≤ R.slots)
    (hP : va_P E.1 vwCl w H) (hD : va_D A w) (hE : en E A s s.heap) (hA : ∀ q, s.heap.size ≤ q → A q) (hS : va_S A s.heap H locs) (is : List Nat) (hC : is.map (fun i => w[i]?) = wc.map some) (hnd : va_nd is = true) (ad : List Nat) (ha1 : wc.map Prod.fst = ad) (ha2 : w1.map Prod.fst = ad)
    (hW : (rest.map fun v => v.category).sum ≤ 8) (hls : ls.size = nL) (hdg : decode cc pc = .ok (.invokestatic idx, 3))
    (kk : ∀ (H1 : Heap) (locs1 : List Loc), va_P E.1 vwCl (rp w is w1) H1 → va_D A (rp w is w1) → va_S A s.heap H1 locs1 → W p l e R s m args below meth c H1 locs1 cells slots Q (F0 m (pc + 3) ls (.int v :: rest))) : W p l e R s m args below meth c H locs cells slots Q (F0 m pc ls (a2 :: a1 :: rest)) :=
  rwS (As := [a1, a2]) S hM hc hlk hR hf hP hD hE hA hS is hC hnd ad ha1 ha2 rfl rfl hW hls hdg kk
theorem rwS3 {a1 a2 a3 : Value} (S : CallFix p m c cc nL s args bw own) (hM : rcI l E y cc2 mL2 rt j [a1, a2, a3] wc v w1) (hc : cdS y cc2 mL2 (some rt) 3) (hlk : Cond.methodLink own idx y ∈ bw) (hR : j + 1 ≤ R.frames ∧ 8 + (mL2 + 11) + 32 * j ≤ R.locals) (hf : cells ≤ R.cells ∧ slots ≤ R.slots)
    (hP : va_P E.1 vwCl w H) (hD : va_D A w) (hE : en E A s s.heap) (hA : ∀ q, s.heap.size ≤ q → A q) (hS : va_S A s.heap H locs) (is : List Nat) (hC : is.map (fun i => w[i]?) = wc.map some) (hnd : va_nd is = true) (ad : List Nat) (ha1 : wc.map Prod.fst = ad) (ha2 : w1.map Prod.fst = ad)
    (hW : (rest.map fun v => v.category).sum ≤ 8) (hls : ls.size = nL) (hdg : decode cc pc = .ok (.invokestatic idx, 3))
    (kk : ∀ (H1 : Heap) (locs1 : List Loc), va_P E.1 vwCl (rp w is w1) H1 → va_D A (rp w is w1) → va_S A s.heap H1 locs1 → W p l e R s m args below meth c H1 locs1 cells slots Q (F0 m (pc + 3) ls (.int v :: rest))) : W p l e R s m args below meth c H locs cells slots Q (F0 m pc ls (a3 :: a2 :: a1 :: rest)) :=
  rwS (As := [a1, a2, a3]) S hM hc hlk hR hf hP hD hE hA hS is hC hnd ad ha1 ha2 rfl rfl hW hls hdg kk
theorem rwS4 {a1 a2 a3 a4 : Value} (S : CallFix p m c cc nL s args bw own) (hM : rcI l E y cc2 mL2 rt j [a1, a2, a3, a4] wc v w1) (hc : cdS y cc2 mL2 (some rt) 4) (hlk : Cond.methodLink own idx y ∈ bw) (hR : j + 1 ≤ R.frames ∧ 8 + (mL2 + 11) + 32 * j ≤ R.locals) (hf : cells ≤ R.cells ∧ slots ≤ R.slots)
    (hP : va_P E.1 vwCl w H) (hD : va_D A w) (hE : en E A s s.heap) (hA : ∀ q, s.heap.size ≤ q → A q) (hS : va_S A s.heap H locs) (is : List Nat) (hC : is.map (fun i => w[i]?) = wc.map some) (hnd : va_nd is = true) (ad : List Nat) (ha1 : wc.map Prod.fst = ad) (ha2 : w1.map Prod.fst = ad)
    (hW : (rest.map fun v => v.category).sum ≤ 8) (hls : ls.size = nL) (hdg : decode cc pc = .ok (.invokestatic idx, 3))
    (kk : ∀ (H1 : Heap) (locs1 : List Loc), va_P E.1 vwCl (rp w is w1) H1 → va_D A (rp w is w1) → va_S A s.heap H1 locs1 → W p l e R s m args below meth c H1 locs1 cells slots Q (F0 m (pc + 3) ls (.int v :: rest))) : W p l e R s m args below meth c H locs cells slots Q (F0 m pc ls (a4 :: a3 :: a2 :: a1 :: rest)) :=
  rwS (As := [a1, a2, a3, a4]) S hM hc hlk hR hf hP hD hE hA hS is hC hnd ad ha1 ha2 rfl rfl hW hls hdg kk
theorem rwS5 {a1 a2 a3 a4 a5 : Value} (S : CallFix p m c cc nL s args bw own) (hM : rcI l E y cc2 mL2 rt j [a1, a2, a3, a4, a5] wc v w1) (hc : cdS y cc2 mL2 (some rt) 5) (hlk : Cond.methodLink own idx y ∈ bw) (hR : j + 1 ≤ R.frames ∧ 8 + (mL2 + 11) + 32 * j ≤ R.locals) (hf : cells ≤ R.cells ∧ slots ≤ R.slots)
    (hP : va_P E.1 vwCl w H) (hD : va_D A w) (hE : en E A s s.heap) (hA : ∀ q, s.heap.size ≤ q → A q) (hS : va_S A s.heap H locs) (is : List Nat) (hC : is.map (fun i => w[i]?) = wc.map some) (hnd : va_nd is = true) (ad : List Nat) (ha1 : wc.map Prod.fst = ad) (ha2 : w1.map Prod.fst = ad)
    (hW : (rest.map fun v => v.category).sum ≤ 8) (hls : ls.size = nL) (hdg : decode cc pc = .ok (.invokestatic idx, 3))
    (kk : ∀ (H1 : Heap) (locs1 : List Loc), va_P E.1 vwCl (rp w is w1) H1 → va_D A (rp w is w1) → va_S A s.heap H1 locs1 → W p l e R s m args below meth c H1 locs1 cells slots Q (F0 m (pc + 3) ls (.int v :: rest))) : W p l e R s m args below meth c H locs cells slots Q (F0 m pc ls (a5 :: a4 :: a3 :: a2 :: a1 :: rest)) :=
  rwS (As := [a1, a2, a3, a4, a5]) S hM hc hlk hR hf hP hD hE hA hS is hC hnd ad ha1 ha2 rfl rfl hW hls hdg kk
theorem rwS6 {a1 a2 a3 a4 a5 a6 : Value} (S : CallFix p m c cc nL s args bw own) (hM : rcI l E y cc2 mL2 rt j [a1, a2, a3, a4, a5, a6] wc v w1) (hc : cdS y cc2 mL2 (some rt) 6) (hlk : Cond.methodLink own idx y ∈ bw) (hR : j + 1 ≤ R.frames ∧ 8 + (mL2 + 11) + 32 * j ≤ R.locals) (hf : cells ≤ R.cells ∧ slots ≤ R.slots)
    (hP : va_P E.1 vwCl w H) (hD : va_D A w) (hE : en E A s s.heap) (hA : ∀ q, s.heap.size ≤ q → A q) (hS : va_S A s.heap H locs) (is : List Nat) (hC : is.map (fun i => w[i]?) = wc.map some) (hnd : va_nd is = true) (ad : List Nat) (ha1 : wc.map Prod.fst = ad) (ha2 : w1.map Prod.fst = ad)
    (hW : (rest.map fun v => v.category).sum ≤ 8) (hls : ls.size = nL) (hdg : decode cc pc = .ok (.invokestatic idx, 3))
    (kk : ∀ (H1 : Heap) (locs1 : List Loc), va_P E.1 vwCl (rp w is w1) H1 → va_D A (rp w is w1) → va_S A s.heap H1 locs1 → W p l e R s m args below meth c H1 locs1 cells slots Q (F0 m (pc + 3) ls (.int v :: rest))) : W p l e R s m args below meth c H locs cells slots Q (F0 m pc ls (a6 :: a5 :: a4 :: a3 :: a2 :: a1 :: rest)) :=
  rwS (As := [a1, a2, a3, a4, a5, a6]) S hM hc hlk hR hf hP hD hE hA hS is hC hnd ad ha1 ha2 rfl rfl hW hls hdg kk
theorem rwSv0 (S : CallFix p m c cc nL s args bw own) (hM : rcV l E y cc2 mL2 j [] wc w1) (hc : cdS y cc2 mL2 none 0) (hlk : Cond.methodLink own idx y ∈ bw) (hR : j + 1 ≤ R.frames ∧ 8 + (mL2 + 11) + 32 * j ≤ R.locals) (hf : cells ≤ R.cells ∧ slots ≤ R.slots)
    (hP : va_P E.1 vwCl w H) (hD : va_D A w) (hE : en E A s s.heap) (hA : ∀ q, s.heap.size ≤ q → A q) (hS : va_S A s.heap H locs) (is : List Nat) (hC : is.map (fun i => w[i]?) = wc.map some) (hnd : va_nd is = true) (ad : List Nat) (ha1 : wc.map Prod.fst = ad) (ha2 : w1.map Prod.fst = ad)
    (hW : (rest.map fun v => v.category).sum ≤ 8) (hls : ls.size = nL) (hdg : decode cc pc = .ok (.invokestatic idx, 3))
    (kk : ∀ (H1 : Heap) (locs1 : List Loc), va_P E.1 vwCl (rp w is w1) H1 → va_D A (rp w is w1) → va_S A s.heap H1 locs1 → W p l e R s m args below meth c H1 locs1 cells slots Q (F0 m (pc + 3) ls rest)) : W p l e R s m args below meth c H locs cells slots Q (F0 m pc ls (rest)) :=
  rwSv (As := []) S hM hc hlk hR hf hP hD hE hA hS is hC hnd ad ha1 ha2 rfl rfl hW hls hdg kk
theorem rwSv1 {a1 : Value} (S : CallFix p m c cc nL s args bw own) (hM : rcV l E y cc2 mL2 j [a1] wc w1) (hc : cdS y cc2 mL2 none 1) (hlk : Cond.methodLink own idx y ∈ bw) (hR : j + 1 ≤ R.frames ∧ 8 + (mL2 + 11) + 32 * j ≤ R.locals) (hf : cells ≤ R.cells ∧ slots ≤ R.slots)
    (hP : va_P E.1 vwCl w H) (hD : va_D A w) (hE : en E A s s.heap) (hA : ∀ q, s.heap.size ≤ q → A q) (hS : va_S A s.heap H locs) (is : List Nat) (hC : is.map (fun i => w[i]?) = wc.map some) (hnd : va_nd is = true) (ad : List Nat) (ha1 : wc.map Prod.fst = ad) (ha2 : w1.map Prod.fst = ad)
    (hW : (rest.map fun v => v.category).sum ≤ 8) (hls : ls.size = nL) (hdg : decode cc pc = .ok (.invokestatic idx, 3))
    (kk : ∀ (H1 : Heap) (locs1 : List Loc), va_P E.1 vwCl (rp w is w1) H1 → va_D A (rp w is w1) → va_S A s.heap H1 locs1 → W p l e R s m args below meth c H1 locs1 cells slots Q (F0 m (pc + 3) ls rest)) : W p l e R s m args below meth c H locs cells slots Q (F0 m pc ls (a1 :: rest)) :=
  rwSv (As := [a1]) S hM hc hlk hR hf hP hD hE hA hS is hC hnd ad ha1 ha2 rfl rfl hW hls hdg kk
theorem rwSv2 {a1 a2 : Value} (S : CallFix p m c cc nL s args bw own) (hM : rcV l E y cc2 mL2 j [a1, a2] wc w1) (hc : cdS y cc2 mL2 none 2) (hlk : Cond.methodLink own idx y ∈ bw) (hR : j + 1 ≤ R.frames ∧ 8 + (mL2 + 11) + 32 * j ≤ R.locals) (hf : cells ≤ R.cells ∧ slots ≤ R.slots)
    (hP : va_P E.1 vwCl w H) (hD : va_D A w) (hE : en E A s s.heap) (hA : ∀ q, s.heap.size ≤ q → A q) (hS : va_S A s.heap H locs) (is : List Nat) (hC : is.map (fun i => w[i]?) = wc.map some) (hnd : va_nd is = true) (ad : List Nat) (ha1 : wc.map Prod.fst = ad) (ha2 : w1.map Prod.fst = ad)
    (hW : (rest.map fun v => v.category).sum ≤ 8) (hls : ls.size = nL) (hdg : decode cc pc = .ok (.invokestatic idx, 3))
    (kk : ∀ (H1 : Heap) (locs1 : List Loc), va_P E.1 vwCl (rp w is w1) H1 → va_D A (rp w is w1) → va_S A s.heap H1 locs1 → W p l e R s m args below meth c H1 locs1 cells slots Q (F0 m (pc + 3) ls rest)) : W p l e R s m args below meth c H locs cells slots Q (F0 m pc ls (a2 :: a1 :: rest)) :=
  rwSv (As := [a1, a2]) S hM hc hlk hR hf hP hD hE hA hS is hC hnd ad ha1 ha2 rfl rfl hW hls hdg kk
theorem rwSv3 {a1 a2 a3 : Value} (S : CallFix p m c cc nL s args bw own) (hM : rcV l E y cc2 mL2 j [a1, a2, a3] wc w1) (hc : cdS y cc2 mL2 none 3) (hlk : Cond.methodLink own idx y ∈ bw) (hR : j + 1 ≤ R.frames ∧ 8 + (mL2 + 11) + 32 * j ≤ R.locals) (hf : cells ≤ R.cells ∧ slots ≤ R.slots)
    (hP : va_P E.1 vwCl w H) (hD : va_D A w) (hE : en E A s s.heap) (hA : ∀ q, s.heap.size ≤ q → A q) (hS : va_S A s.heap H locs) (is : List Nat) (hC : is.map (fun i => w[i]?) = wc.map some) (hnd : va_nd is = true) (ad : List Nat) (ha1 : wc.map Prod.fst = ad) (ha2 : w1.map Prod.fst = ad)
    (hW : (rest.map fun v => v.category).sum ≤ 8) (hls : ls.size = nL) (hdg : decode cc pc = .ok (.invokestatic idx, 3))
    (kk : ∀ (H1 : Heap) (locs1 : List Loc), va_P E.1 vwCl (rp w is w1) H1 → va_D A (rp w is w1) → va_S A s.heap H1 locs1 → W p l e R s m args below meth c H1 locs1 cells slots Q (F0 m (pc + 3) ls rest)) : W p l e R s m args below meth c H locs cells slots Q (F0 m pc ls (a3 :: a2 :: a1 :: rest)) :=
  rwSv (As := [a1, a2, a3]) S hM hc hlk hR hf hP hD hE hA hS is hC hnd ad ha1 ha2 rfl rfl hW hls hdg kk
theorem rwSv4 {a1 a2 a3 a4 : Value} (S : CallFix p m c cc nL s args bw own) (hM : rcV l E y cc2 mL2 j [a1, a2, a3, a4] wc w1) (hc : cdS y cc2 mL2 none 4) (hlk : Cond.methodLink own idx y ∈ bw) (hR : j + 1 ≤ R.frames ∧ 8 + (mL2 + 11) + 32 * j ≤ R.locals) (hf : cells ≤ R.cells ∧ slots ≤ R.slots)
    (hP : va_P E.1 vwCl w H) (hD : va_D A w) (hE : en E A s s.heap) (hA : ∀ q, s.heap.size ≤ q → A q) (hS : va_S A s.heap H locs) (is : List Nat) (hC : is.map (fun i => w[i]?) = wc.map some) (hnd : va_nd is = true) (ad : List Nat) (ha1 : wc.map Prod.fst = ad) (ha2 : w1.map Prod.fst = ad)
    (hW : (rest.map fun v => v.category).sum ≤ 8) (hls : ls.size = nL) (hdg : decode cc pc = .ok (.invokestatic idx, 3))
    (kk : ∀ (H1 : Heap) (locs1 : List Loc), va_P E.1 vwCl (rp w is w1) H1 → va_D A (rp w is w1) → va_S A s.heap H1 locs1 → W p l e R s m args below meth c H1 locs1 cells slots Q (F0 m (pc + 3) ls rest)) : W p l e R s m args below meth c H locs cells slots Q (F0 m pc ls (a4 :: a3 :: a2 :: a1 :: rest)) :=
  rwSv (As := [a1, a2, a3, a4]) S hM hc hlk hR hf hP hD hE hA hS is hC hnd ad ha1 ha2 rfl rfl hW hls hdg kk
theorem rwSv5 {a1 a2 a3 a4 a5 : Value} (S : CallFix p m c cc nL s args bw own) (hM : rcV l E y cc2 mL2 j [a1, a2, a3, a4, a5] wc w1) (hc : cdS y cc2 mL2 none 5) (hlk : Cond.methodLink own idx y ∈ bw) (hR : j + 1 ≤ R.frames ∧ 8 + (mL2 + 11) + 32 * j ≤ R.locals) (hf : cells ≤ R.cells ∧ slots ≤ R.slots)
    (hP : va_P E.1 vwCl w H) (hD : va_D A w) (hE : en E A s s.heap) (hA : ∀ q, s.heap.size ≤ q → A q) (hS : va_S A s.heap H locs) (is : List Nat) (hC : is.map (fun i => w[i]?) = wc.map some) (hnd : va_nd is = true) (ad : List Nat) (ha1 : wc.map Prod.fst = ad) (ha2 : w1.map Prod.fst = ad)
    (hW : (rest.map fun v => v.category).sum ≤ 8) (hls : ls.size = nL) (hdg : decode cc pc = .ok (.invokestatic idx, 3))
    (kk : ∀ (H1 : Heap) (locs1 : List Loc), va_P E.1 vwCl (rp w is w1) H1 → va_D A (rp w is w1) → va_S A s.heap H1 locs1 → W p l e R s m args below meth c H1 locs1 cells slots Q (F0 m (pc + 3) ls rest)) : W p l e R s m args below meth c H locs cells slots Q (F0 m pc ls (a5 :: a4 :: a3 :: a2 :: a1 :: rest)) :=
  rwSv (As := [a1, a2, a3, a4, a5]) S hM hc hlk hR hf hP hD hE hA hS is hC hnd ad ha1 ha2 rfl rfl hW hls hdg kk
theorem rwSv6 {a1 a2 a3 a4 a5 a6 : Value} (S : CallFix p m c cc nL s args bw own) (hM : rcV l E y cc2 mL2 j [a1, a2, a3, a4, a5, a6] wc w1) (hc : cdS y cc2 mL2 none 6) (hlk : Cond.methodLink own idx y ∈ bw) (hR : j + 1 ≤ R.frames ∧ 8 + (mL2 + 11) + 32 * j ≤ R.locals) (hf : cells ≤ R.cells ∧ slots ≤ R.slots)
    (hP : va_P E.1 vwCl w H) (hD : va_D A w) (hE : en E A s s.heap) (hA : ∀ q, s.heap.size ≤ q → A q) (hS : va_S A s.heap H locs) (is : List Nat) (hC : is.map (fun i => w[i]?) = wc.map some) (hnd : va_nd is = true) (ad : List Nat) (ha1 : wc.map Prod.fst = ad) (ha2 : w1.map Prod.fst = ad)
    (hW : (rest.map fun v => v.category).sum ≤ 8) (hls : ls.size = nL) (hdg : decode cc pc = .ok (.invokestatic idx, 3))
    (kk : ∀ (H1 : Heap) (locs1 : List Loc), va_P E.1 vwCl (rp w is w1) H1 → va_D A (rp w is w1) → va_S A s.heap H1 locs1 → W p l e R s m args below meth c H1 locs1 cells slots Q (F0 m (pc + 3) ls rest)) : W p l e R s m args below meth c H locs cells slots Q (F0 m pc ls (a6 :: a5 :: a4 :: a3 :: a2 :: a1 :: rest)) :=
  rwSv (As := [a1, a2, a3, a4, a5, a6]) S hM hc hlk hR hf hP hD hE hA hS is hC hnd ad ha1 ha2 rfl rfl hW hls hdg kk
theorem rwN0 {host : String} (S : CallFix p m c cc nL s args bw own) (hM : rcI l E y cc2 mL2 rt j [] wc v w1) (hc : cdS y cc2 mL2 (some rt) 0) (hlk : va_Nw (.methodLinkNest own idx y host) s) (hR : j + 1 ≤ R.frames ∧ 8 + (mL2 + 11) + 32 * j ≤ R.locals) (hf : cells ≤ R.cells ∧ slots ≤ R.slots)
    (hP : va_P E.1 vwCl w H) (hD : va_D A w) (hE : en E A s s.heap) (hA : ∀ q, s.heap.size ≤ q → A q) (hS : va_S A s.heap H locs) (is : List Nat) (hC : is.map (fun i => w[i]?) = wc.map some) (hnd : va_nd is = true) (ad : List Nat) (ha1 : wc.map Prod.fst = ad) (ha2 : w1.map Prod.fst = ad)
    (hW : (rest.map fun v => v.category).sum ≤ 8) (hls : ls.size = nL) (hdg : decode cc pc = .ok (.invokestatic idx, 3))
    (kk : ∀ (H1 : Heap) (locs1 : List Loc), va_P E.1 vwCl (rp w is w1) H1 → va_D A (rp w is w1) → va_S A s.heap H1 locs1 → W p l e R s m args below meth c H1 locs1 cells slots Q (F0 m (pc + 3) ls (.int v :: rest))) : W p l e R s m args below meth c H locs cells slots Q (F0 m pc ls (rest)) :=
  rwN (As := []) S hM hc hlk hR hf hP hD hE hA hS is hC hnd ad ha1 ha2 rfl rfl hW hls hdg kk
theorem rwN1 {a1 : Value} {host : String} (S : CallFix p m c cc nL s args bw own) (hM : rcI l E y cc2 mL2 rt j [a1] wc v w1) (hc : cdS y cc2 mL2 (some rt) 1) (hlk : va_Nw (.methodLinkNest own idx y host) s) (hR : j + 1 ≤ R.frames ∧ 8 + (mL2 + 11) + 32 * j ≤ R.locals) (hf : cells ≤ R.cells ∧ slots ≤ R.slots)
    (hP : va_P E.1 vwCl w H) (hD : va_D A w) (hE : en E A s s.heap) (hA : ∀ q, s.heap.size ≤ q → A q) (hS : va_S A s.heap H locs) (is : List Nat) (hC : is.map (fun i => w[i]?) = wc.map some) (hnd : va_nd is = true) (ad : List Nat) (ha1 : wc.map Prod.fst = ad) (ha2 : w1.map Prod.fst = ad)
    (hW : (rest.map fun v => v.category).sum ≤ 8) (hls : ls.size = nL) (hdg : decode cc pc = .ok (.invokestatic idx, 3))
    (kk : ∀ (H1 : Heap) (locs1 : List Loc), va_P E.1 vwCl (rp w is w1) H1 → va_D A (rp w is w1) → va_S A s.heap H1 locs1 → W p l e R s m args below meth c H1 locs1 cells slots Q (F0 m (pc + 3) ls (.int v :: rest))) : W p l e R s m args below meth c H locs cells slots Q (F0 m pc ls (a1 :: rest)) :=
  rwN (As := [a1]) S hM hc hlk hR hf hP hD hE hA hS is hC hnd ad ha1 ha2 rfl rfl hW hls hdg kk
theorem rwN2 {a1 a2 : Value} {host : String} (S : CallFix p m c cc nL s args bw own) (hM : rcI l E y cc2 mL2 rt j [a1, a2] wc v w1) (hc : cdS y cc2 mL2 (some rt) 2) (hlk : va_Nw (.methodLinkNest own idx y host) s) (hR : j + 1 ≤ R.frames ∧ 8 + (mL2 + 11) + 32 * j ≤ R.locals) (hf : cells ≤ R.cells ∧ slots ≤ R.slots)
    (hP : va_P E.1 vwCl w H) (hD : va_D A w) (hE : en E A s s.heap) (hA : ∀ q, s.heap.size ≤ q → A q) (hS : va_S A s.heap H locs) (is : List Nat) (hC : is.map (fun i => w[i]?) = wc.map some) (hnd : va_nd is = true) (ad : List Nat) (ha1 : wc.map Prod.fst = ad) (ha2 : w1.map Prod.fst = ad)
    (hW : (rest.map fun v => v.category).sum ≤ 8) (hls : ls.size = nL) (hdg : decode cc pc = .ok (.invokestatic idx, 3))
    (kk : ∀ (H1 : Heap) (locs1 : List Loc), va_P E.1 vwCl (rp w is w1) H1 → va_D A (rp w is w1) → va_S A s.heap H1 locs1 → W p l e R s m args below meth c H1 locs1 cells slots Q (F0 m (pc + 3) ls (.int v :: rest))) : W p l e R s m args below meth c H locs cells slots Q (F0 m pc ls (a2 :: a1 :: rest)) :=
  rwN (As := [a1, a2]) S hM hc hlk hR hf hP hD hE hA hS is hC hnd ad ha1 ha2 rfl rfl hW hls hdg kk
theorem rwN3 {a1 a2 a3 : Value} {host : String} (S : CallFix p m c cc nL s args bw own) (hM : rcI l E y cc2 mL2 rt j [a1, a2, a3] wc v w1) (hc : cdS y cc2 mL2 (some rt) 3) (hlk : va_Nw (.methodLinkNest own idx y host) s) (hR : j + 1 ≤ R.frames ∧ 8 + (mL2 + 11) + 32 * j ≤ R.locals) (hf : cells ≤ R.cells ∧ slots ≤ R.slots)
    (hP : va_P E.1 vwCl w H) (hD : va_D A w) (hE : en E A s s.heap) (hA : ∀ q, s.heap.size ≤ q → A q) (hS : va_S A s.heap H locs) (is : List Nat) (hC : is.map (fun i => w[i]?) = wc.map some) (hnd : va_nd is = true) (ad : List Nat) (ha1 : wc.map Prod.fst = ad) (ha2 : w1.map Prod.fst = ad)
    (hW : (rest.map fun v => v.category).sum ≤ 8) (hls : ls.size = nL) (hdg : decode cc pc = .ok (.invokestatic idx, 3))
    (kk : ∀ (H1 : Heap) (locs1 : List Loc), va_P E.1 vwCl (rp w is w1) H1 → va_D A (rp w is w1) → va_S A s.heap H1 locs1 → W p l e R s m args below meth c H1 locs1 cells slots Q (F0 m (pc + 3) ls (.int v :: rest))) : W p l e R s m args below meth c H locs cells slots Q (F0 m pc ls (a3 :: a2 :: a1 :: rest)) :=
  rwN (As := [a1, a2, a3]) S hM hc hlk hR hf hP hD hE hA hS is hC hnd ad ha1 ha2 rfl rfl hW hls hdg kk
theorem rwN5 {a1 a2 a3 a4 a5 : Value} {host : String} (S : CallFix p m c cc nL s args bw own) (hM : rcI l E y cc2 mL2 rt j [a1, a2, a3, a4, a5] wc v w1) (hc : cdS y cc2 mL2 (some rt) 5) (hlk : va_Nw (.methodLinkNest own idx y host) s) (hR : j + 1 ≤ R.frames ∧ 8 + (mL2 + 11) + 32 * j ≤ R.locals) (hf : cells ≤ R.cells ∧ slots ≤ R.slots)
    (hP : va_P E.1 vwCl w H) (hD : va_D A w) (hE : en E A s s.heap) (hA : ∀ q, s.heap.size ≤ q → A q) (hS : va_S A s.heap H locs) (is : List Nat) (hC : is.map (fun i => w[i]?) = wc.map some) (hnd : va_nd is = true) (ad : List Nat) (ha1 : wc.map Prod.fst = ad) (ha2 : w1.map Prod.fst = ad)
    (hW : (rest.map fun v => v.category).sum ≤ 8) (hls : ls.size = nL) (hdg : decode cc pc = .ok (.invokestatic idx, 3))
    (kk : ∀ (H1 : Heap) (locs1 : List Loc), va_P E.1 vwCl (rp w is w1) H1 → va_D A (rp w is w1) → va_S A s.heap H1 locs1 → W p l e R s m args below meth c H1 locs1 cells slots Q (F0 m (pc + 3) ls (.int v :: rest))) : W p l e R s m args below meth c H locs cells slots Q (F0 m pc ls (a5 :: a4 :: a3 :: a2 :: a1 :: rest)) :=
  rwN (As := [a1, a2, a3, a4, a5]) S hM hc hlk hR hf hP hD hE hA hS is hC hnd ad ha1 ha2 rfl rfl hW hls hdg kk
theorem rwS7 {a1 a2 a3 a4 a5 a6 a7 : Value} (S : CallFix p m c cc nL s args bw own) (hM : rcI l E y cc2 mL2 rt j [a1, a2, a3, a4, a5, a6, a7] wc v w1) (hc : cdS y cc2 mL2 (some rt) 7) (hlk : Cond.methodLink own idx y ∈ bw) (hR : j + 1 ≤ R.frames ∧ 8 + (mL2 + 11) + 32 * j ≤ R.locals) (hf : cells ≤ R.cells ∧ slots ≤ R.slots)
    (hP : va_P E.1 vwCl w H) (hD : va_D A w) (hE : en E A s s.heap) (hA : ∀ q, s.heap.size ≤ q → A q) (hS : va_S A s.heap H locs) (is : List Nat) (hC : is.map (fun i => w[i]?) = wc.map some) (hnd : va_nd is = true) (ad : List Nat) (ha1 : wc.map Prod.fst = ad) (ha2 : w1.map Prod.fst = ad)
    (hW : (rest.map fun v => v.category).sum ≤ 8) (hls : ls.size = nL) (hdg : decode cc pc = .ok (.invokestatic idx, 3))
    (kk : ∀ (H1 : Heap) (locs1 : List Loc), va_P E.1 vwCl (rp w is w1) H1 → va_D A (rp w is w1) → va_S A s.heap H1 locs1 → W p l e R s m args below meth c H1 locs1 cells slots Q (F0 m (pc + 3) ls (.int v :: rest))) : W p l e R s m args below meth c H locs cells slots Q (F0 m pc ls (a7 :: a6 :: a5 :: a4 :: a3 :: a2 :: a1 :: rest)) :=
  rwS (As := [a1, a2, a3, a4, a5, a6, a7]) S hM hc hlk hR hf hP hD hE hA hS is hC hnd ad ha1 ha2 rfl rfl hW hls hdg kk
theorem rwS8 {a1 a2 a3 a4 a5 a6 a7 a8 : Value} (S : CallFix p m c cc nL s args bw own) (hM : rcI l E y cc2 mL2 rt j [a1, a2, a3, a4, a5, a6, a7, a8] wc v w1) (hc : cdS y cc2 mL2 (some rt) 8) (hlk : Cond.methodLink own idx y ∈ bw) (hR : j + 1 ≤ R.frames ∧ 8 + (mL2 + 11) + 32 * j ≤ R.locals) (hf : cells ≤ R.cells ∧ slots ≤ R.slots)
    (hP : va_P E.1 vwCl w H) (hD : va_D A w) (hE : en E A s s.heap) (hA : ∀ q, s.heap.size ≤ q → A q) (hS : va_S A s.heap H locs) (is : List Nat) (hC : is.map (fun i => w[i]?) = wc.map some) (hnd : va_nd is = true) (ad : List Nat) (ha1 : wc.map Prod.fst = ad) (ha2 : w1.map Prod.fst = ad)
    (hW : (rest.map fun v => v.category).sum ≤ 8) (hls : ls.size = nL) (hdg : decode cc pc = .ok (.invokestatic idx, 3))
    (kk : ∀ (H1 : Heap) (locs1 : List Loc), va_P E.1 vwCl (rp w is w1) H1 → va_D A (rp w is w1) → va_S A s.heap H1 locs1 → W p l e R s m args below meth c H1 locs1 cells slots Q (F0 m (pc + 3) ls (.int v :: rest))) : W p l e R s m args below meth c H locs cells slots Q (F0 m pc ls (a8 :: a7 :: a6 :: a5 :: a4 :: a3 :: a2 :: a1 :: rest)) :=
  rwS (As := [a1, a2, a3, a4, a5, a6, a7, a8]) S hM hc hlk hR hf hP hD hE hA hS is hC hnd ad ha1 ha2 rfl rfl hW hls hdg kk
theorem rwS9 {a1 a2 a3 a4 a5 a6 a7 a8 a9 : Value} (S : CallFix p m c cc nL s args bw own) (hM : rcI l E y cc2 mL2 rt j [a1, a2, a3, a4, a5, a6, a7, a8, a9] wc v w1) (hc : cdS y cc2 mL2 (some rt) 9) (hlk : Cond.methodLink own idx y ∈ bw) (hR : j + 1 ≤ R.frames ∧ 8 + (mL2 + 11) + 32 * j ≤ R.locals) (hf : cells ≤ R.cells ∧ slots ≤ R.slots)
    (hP : va_P E.1 vwCl w H) (hD : va_D A w) (hE : en E A s s.heap) (hA : ∀ q, s.heap.size ≤ q → A q) (hS : va_S A s.heap H locs) (is : List Nat) (hC : is.map (fun i => w[i]?) = wc.map some) (hnd : va_nd is = true) (ad : List Nat) (ha1 : wc.map Prod.fst = ad) (ha2 : w1.map Prod.fst = ad)
    (hW : (rest.map fun v => v.category).sum ≤ 8) (hls : ls.size = nL) (hdg : decode cc pc = .ok (.invokestatic idx, 3))
    (kk : ∀ (H1 : Heap) (locs1 : List Loc), va_P E.1 vwCl (rp w is w1) H1 → va_D A (rp w is w1) → va_S A s.heap H1 locs1 → W p l e R s m args below meth c H1 locs1 cells slots Q (F0 m (pc + 3) ls (.int v :: rest))) : W p l e R s m args below meth c H locs cells slots Q (F0 m pc ls (a9 :: a8 :: a7 :: a6 :: a5 :: a4 :: a3 :: a2 :: a1 :: rest)) :=
  rwS (As := [a1, a2, a3, a4, a5, a6, a7, a8, a9]) S hM hc hlk hR hf hP hD hE hA hS is hC hnd ad ha1 ha2 rfl rfl hW hls hdg kk
theorem rwS10 {a1 a2 a3 a4 a5 a6 a7 a8 a9 a10 : Value} (S : CallFix p m c cc nL s args bw own) (hM : rcI l E y cc2 mL2 rt j [a1, a2, a3, a4, a5, a6, a7, a8, a9, a10] wc v w1) (hc : cdS y cc2 mL2 (some rt) 10) (hlk : Cond.methodLink own idx y ∈ bw) (hR : j + 1 ≤ R.frames ∧ 8 + (mL2 + 11) + 32 * j ≤ R.locals) (hf : cells ≤ R.cells ∧ slots ≤ R.slots)
    (hP : va_P E.1 vwCl w H) (hD : va_D A w) (hE : en E A s s.heap) (hA : ∀ q, s.heap.size ≤ q → A q) (hS : va_S A s.heap H locs) (is : List Nat) (hC : is.map (fun i => w[i]?) = wc.map some) (hnd : va_nd is = true) (ad : List Nat) (ha1 : wc.map Prod.fst = ad) (ha2 : w1.map Prod.fst = ad)
    (hW : (rest.map fun v => v.category).sum ≤ 8) (hls : ls.size = nL) (hdg : decode cc pc = .ok (.invokestatic idx, 3))
    (kk : ∀ (H1 : Heap) (locs1 : List Loc), va_P E.1 vwCl (rp w is w1) H1 → va_D A (rp w is w1) → va_S A s.heap H1 locs1 → W p l e R s m args below meth c H1 locs1 cells slots Q (F0 m (pc + 3) ls (.int v :: rest))) : W p l e R s m args below meth c H locs cells slots Q (F0 m pc ls (a10 :: a9 :: a8 :: a7 :: a6 :: a5 :: a4 :: a3 :: a2 :: a1 :: rest)) :=
  rwS (As := [a1, a2, a3, a4, a5, a6, a7, a8, a9, a10]) S hM hc hlk hR hf hP hD hE hA hS is hC hnd ad ha1 ha2 rfl rfl hW hls hdg kk
theorem rwSv7 {a1 a2 a3 a4 a5 a6 a7 : Value} (S : CallFix p m c cc nL s args bw own) (hM : rcV l E y cc2 mL2 j [a1, a2, a3, a4, a5, a6, a7] wc w1) (hc : cdS y cc2 mL2 none 7) (hlk : Cond.methodLink own idx y ∈ bw) (hR : j + 1 ≤ R.frames ∧ 8 + (mL2 + 11) + 32 * j ≤ R.locals) (hf : cells ≤ R.cells ∧ slots ≤ R.slots)
    (hP : va_P E.1 vwCl w H) (hD : va_D A w) (hE : en E A s s.heap) (hA : ∀ q, s.heap.size ≤ q → A q) (hS : va_S A s.heap H locs) (is : List Nat) (hC : is.map (fun i => w[i]?) = wc.map some) (hnd : va_nd is = true) (ad : List Nat) (ha1 : wc.map Prod.fst = ad) (ha2 : w1.map Prod.fst = ad)
    (hW : (rest.map fun v => v.category).sum ≤ 8) (hls : ls.size = nL) (hdg : decode cc pc = .ok (.invokestatic idx, 3))
    (kk : ∀ (H1 : Heap) (locs1 : List Loc), va_P E.1 vwCl (rp w is w1) H1 → va_D A (rp w is w1) → va_S A s.heap H1 locs1 → W p l e R s m args below meth c H1 locs1 cells slots Q (F0 m (pc + 3) ls rest)) : W p l e R s m args below meth c H locs cells slots Q (F0 m pc ls (a7 :: a6 :: a5 :: a4 :: a3 :: a2 :: a1 :: rest)) :=
  rwSv (As := [a1, a2, a3, a4, a5, a6, a7]) S hM hc hlk hR hf hP hD hE hA hS is hC hnd ad ha1 ha2 rfl rfl hW hls hdg kk
theorem rwSv8 {a1 a2 a3 a4 a5 a6 a7 a8 : Value} (S : CallFix p m c cc nL s args bw own) (hM : rcV l E y cc2 mL2 j [a1, a2, a3, a4, a5, a6, a7, a8] wc w1) (hc : cdS y cc2 mL2 none 8) (hlk : Cond.methodLink own idx y ∈ bw) (hR : j + 1 ≤ R.frames ∧ 8 + (mL2 + 11) + 32 * j ≤ R.locals) (hf : cells ≤ R.cells ∧ slots ≤ R.slots)
    (hP : va_P E.1 vwCl w H) (hD : va_D A w) (hE : en E A s s.heap) (hA : ∀ q, s.heap.size ≤ q → A q) (hS : va_S A s.heap H locs) (is : List Nat) (hC : is.map (fun i => w[i]?) = wc.map some) (hnd : va_nd is = true) (ad : List Nat) (ha1 : wc.map Prod.fst = ad) (ha2 : w1.map Prod.fst = ad)
    (hW : (rest.map fun v => v.category).sum ≤ 8) (hls : ls.size = nL) (hdg : decode cc pc = .ok (.invokestatic idx, 3))
    (kk : ∀ (H1 : Heap) (locs1 : List Loc), va_P E.1 vwCl (rp w is w1) H1 → va_D A (rp w is w1) → va_S A s.heap H1 locs1 → W p l e R s m args below meth c H1 locs1 cells slots Q (F0 m (pc + 3) ls rest)) : W p l e R s m args below meth c H locs cells slots Q (F0 m pc ls (a8 :: a7 :: a6 :: a5 :: a4 :: a3 :: a2 :: a1 :: rest)) :=
  rwSv (As := [a1, a2, a3, a4, a5, a6, a7, a8]) S hM hc hlk hR hf hP hD hE hA hS is hC hnd ad ha1 ha2 rfl rfl hW hls hdg kk
/-! Math -/
def iabs (x : Int32) : Int32 := if 0 ≤ x then x else 0 - x
def imax (x y : Int32) : Int32 := if x < y then y else x
def imin (x y : Int32) : Int32 := if y < x then y else x
theorem rw_abs (S : CallFix p m c cc nL s args bw own) (hls : ls.size = nL) (hlk : Cond.methodLink own idx Lib.Math.abs.name ∈ bw) (hR : 1 ≤ R.frames ∧ 24 ≤ R.locals) (hW : (rest.map fun v => v.category).sum ≤ 8) (hf : cells ≤ R.cells ∧ slots ≤ R.slots) {x : Int32} (hdg : decode cc pc = .ok (.invokestatic idx, 3))
    (kk : W p l e R s m args below meth c H locs cells slots Q (F0 m (pc + 3) ls (.int (iabs x) :: rest))) : W p l e R s m args below meth c H locs cells slots Q (F0 m pc ls (.int x :: rest)) :=
  va_mabs S.1 S.2.1 (S.2.2.1.trans hls.symm) S.2.2.2.1 (S.2.2.2.2 _ hlk) (S.2.2.2.2 _ bw_248) (S.2.2.2.2 _ bw_8) (S.2.2.2.2 _ bw_249) hR.1 (by omega) hf.1 hf.2 hdg kk
theorem rw_max (S : CallFix p m c cc nL s args bw own) (hls : ls.size = nL) (hlk : Cond.methodLink own idx Lib.Math.max.name ∈ bw) (hR : 1 ≤ R.frames ∧ 24 ≤ R.locals) (hW : (rest.map fun v => v.category).sum ≤ 8) (hf : cells ≤ R.cells ∧ slots ≤ R.slots) {x z : Int32} (hdg : decode cc pc = .ok (.invokestatic idx, 3))
    (kk : W p l e R s m args below meth c H locs cells slots Q (F0 m (pc + 3) ls (.int (imax x z) :: rest))) : W p l e R s m args below meth c H locs cells slots Q (F0 m pc ls (.int z :: .int x :: rest)) :=
  va_mmax S.1 S.2.1 (S.2.2.1.trans hls.symm) S.2.2.2.1 (S.2.2.2.2 _ hlk) (S.2.2.2.2 _ bw_76) (S.2.2.2.2 _ bw_8) (S.2.2.2.2 _ bw_77) hR.1 (by omega) hf.1 hf.2 hdg kk
theorem rw_min (S : CallFix p m c cc nL s args bw own) (hls : ls.size = nL) (hlk : Cond.methodLink own idx Lib.Math.min.name ∈ bw) (hR : 1 ≤ R.frames ∧ 24 ≤ R.locals) (hW : (rest.map fun v => v.category).sum ≤ 8) (hf : cells ≤ R.cells ∧ slots ≤ R.slots) {x z : Int32} (hdg : decode cc pc = .ok (.invokestatic idx, 3))
    (kk : W p l e R s m args below meth c H locs cells slots Q (F0 m (pc + 3) ls (.int (imin x z) :: rest))) : W p l e R s m args below meth c H locs cells slots Q (F0 m pc ls (.int z :: .int x :: rest)) :=
  va_mmin S.1 S.2.1 (S.2.2.1.trans hls.symm) S.2.2.2.1 (S.2.2.2.2 _ hlk) (S.2.2.2.2 _ bw_179) (S.2.2.2.2 _ bw_8) (S.2.2.2.2 _ bw_180) hR.1 (by omega) hf.1 hf.2 hdg kk
/-! ROWS over numbers below 2^31 -/
theorem rn_add (hx : p.tables.exec = Jvm.exec) (hb : c.code = cc) {a b : Nat} (hdg : decode cc pc = .ok (.iadd, 1)) (k : W p l e R s m args below meth c H locs cells slots Q (F0 m (pc + 1) ls (.int (nI (a + b)) :: rest))) : W p l e R s m args below meth c H locs cells slots Q (F0 m pc ls (.int (nI b) :: .int (nI a) :: rest)) :=
  lv_iadd hx hb hdg (by rw [nI_add]; exact k)
theorem rn_mul (hx : p.tables.exec = Jvm.exec) (hb : c.code = cc) {a b : Nat} (hdg : decode cc pc = .ok (.imul, 1)) (k : W p l e R s m args below meth c H locs cells slots Q (F0 m (pc + 1) ls (.int (nI (a * b)) :: rest))) : W p l e R s m args below meth c H locs cells slots Q (F0 m pc ls (.int (nI b) :: .int (nI a) :: rest)) :=
  lv_imul hx hb hdg (by rw [pk_mul]; exact k)
theorem rn_sub (hx : p.tables.exec = Jvm.exec) (hb : c.code = cc) {a b : Nat} (hdg : decode cc pc = .ok (.isub, 1)) (h : b ≤ a) (k : W p l e R s m args below meth c H locs cells slots Q (F0 m (pc + 1) ls (.int (nI (a - b)) :: rest))) : W p l e R s m args below meth c H locs cells slots Q (F0 m pc ls (.int (nI b) :: .int (nI a) :: rest)) :=
  lv_isub hx hb hdg (by rw [pk_sub h]; exact k)
theorem rn_div (hx : p.tables.exec = Jvm.exec) (hb : c.code = cc) {a b : Nat} (hdg : decode cc pc = .ok (.idiv, 1)) (h1 : a < 2 ^ 31) (h2 : 0 < b) (h3 : b < 2 ^ 31) (k : W p l e R s m args below meth c H locs cells slots Q (F0 m (pc + 1) ls (.int (nI (a / b)) :: rest))) : W p l e R s m args below meth c H locs cells slots Q (F0 m pc ls (.int (nI b) :: .int (nI a) :: rest)) :=
  lv_idiv hx hb hdg (nI_ne0 h2 h3) (by rw [pk_div h1 h2 h3]; exact k)
theorem rn_rem (hx : p.tables.exec = Jvm.exec) (hb : c.code = cc) {a b : Nat} (hdg : decode cc pc = .ok (.irem, 1)) (h1 : a < 2 ^ 31) (h2 : 0 < b) (h3 : b < 2 ^ 31) (k : W p l e R s m args below meth c H locs cells slots Q (F0 m (pc + 1) ls (.int (nI (a % b)) :: rest))) : W p l e R s m args below meth c H locs cells slots Q (F0 m pc ls (.int (nI b) :: .int (nI a) :: rest)) :=
  lv_irem hx hb hdg (nI_ne0 h2 h3) (by rw [pk_rem h1 h2 h3]; exact k)
theorem rn_inc (hx : p.tables.exec = Jvm.exec) (hb : c.code = cc) {i k : Nat} {n : Int} {a d : Nat} {lv lv' : List (Nat × Value)} (hdg : decode cc pc = .ok (.iinc i n, 3)) (h : lv_has ls nL lv) (hk : lv[k]? = some (i, .int (nI a))) (hv : Int32.ofInt n = nI d) (hn : i < nL) (hl : (i, Value.int (nI (a + d))) :: lv.filter (fun q => !(q.1 == i) && !(q.1 + 1 == i && q.2.category == 2)) = lv')
    (kk : ∀ ls' : Array Slot, lv_has ls' nL lv' → W p l e R s m args below meth c H locs cells slots Q (F0 m (pc + 3) ls' rest)) : W p l e R s m args below meth c H locs cells slots Q (F0 m pc ls rest) :=
  lv_iinc (v := nI (a + d)) hx hb hdg h hk (by rw [hv, nI_add]) hn hl kk
theorem rn_dec (hx : p.tables.exec = Jvm.exec) (hb : c.code = cc) {i k : Nat} {n : Int} {a : Nat} {lv lv' : List (Nat × Value)} (hdg : decode cc pc = .ok (.iinc i n, 3)) (h : lv_has ls nL lv) (hk : lv[k]? = some (i, .int (nI a))) (hv : Int32.ofInt n = -1) (h0 : 0 < a) (hn : i < nL) (hl : (i, Value.int (nI (a - 1))) :: lv.filter (fun q => !(q.1 == i) && !(q.1 + 1 == i && q.2.category == 2)) = lv')
    (kk : ∀ ls' : Array Slot, lv_has ls' nL lv' → W p l e R s m args below meth c H locs cells slots Q (F0 m (pc + 3) ls' rest)) : W p l e R s m args below meth c H locs cells slots Q (F0 m pc ls rest) :=
  lv_iinc (v := nI (a - 1)) hx hb hdg h hk (by rw [hv, sb_m1 h0]) hn hl kk
theorem rn_iald (hx : p.tables.exec = Jvm.exec) (hb : c.code = cc) {D : va_G} {cl : List vw_C} {tys : List (ClassId × FieldType)} {a : Nat} (hK : va_K D cl tys s) (hP : va_P D cl w H) (q0 t0 : Nat) {cA : ClassId} {n : Nat} {f : Nat → Int32} (ha : w[q0]? = some (a, .inl (cA, n, .inl f))) (ht : tys[t0]? = some (cA, .int)) {i : Nat} (hn : n < 2 ^ 31) (hin : i < n) (hdg : decode cc pc = .ok (.iaload, 1))
    (kk : W p l e R s m args below meth c H locs cells slots Q (F0 m (pc + 1) ls (.int (f i) :: rest))) : W p l e R s m args below meth c H locs cells slots Q (F0 m pc ls (.int (nI i) :: .ref a :: rest)) :=
  va_iald hx hb hK hP q0 t0 ha ht (vp_in_nI hin hn) hdg (by rw [nI_clamp (Nat.lt_trans hin hn)]; exact kk)
theorem rn_cald (hx : p.tables.exec = Jvm.exec) (hb : c.code = cc) {D : va_G} {cl : List vw_C} {tys : List (ClassId × FieldType)} {a : Nat} (hK : va_K D cl tys s) (hP : va_P D cl w H) (q0 t0 : Nat) {cA : ClassId} {n : Nat} {f : Nat → Int32} (ha : w[q0]? = some (a, .inl (cA, n, .inl f))) (ht : tys[t0]? = some (cA, .char)) {i : Nat} (hn : n < 2 ^ 31) (hin : i < n) (hdg : decode cc pc = .ok (.caload, 1))
    (kk : W p l e R s m args below meth c H locs cells slots Q (F0 m (pc + 1) ls (.int (f i) :: rest))) : W p l e R s m args below meth c H locs cells slots Q (F0 m pc ls (.int (nI i) :: .ref a :: rest)) :=
  va_cald hx hb hK hP q0 t0 ha ht (vp_in_nI hin hn) hdg (by rw [nI_clamp (Nat.lt_trans hin hn)]; exact kk)
theorem rn_iast (hx : p.tables.exec = Jvm.exec) (hb : c.code = cc) {D : va_G} {cl : List vw_C} {tys : List (ClassId × FieldType)} {a : Nat} (hK : va_K D cl tys s) (hP : va_P D cl w H) (hD : va_D A w) (hS : va_S A s.heap H locs) (q0 t0 : Nat) {cA : ClassId} {n : Nat} {f : Nat → Int32} (ha : w[q0]? = some (a, .inl (cA, n, .inl f))) (ht : tys[t0]? = some (cA, .int)) {i : Nat} {x : Int32} (hn : n < 2 ^ 31) (hin : i < n) (hdg : decode cc pc = .ok (.iastore, 1))
    (kk : ∀ (H1 : Heap) (locs1 : List Loc), va_P D cl (w.set q0 (a, .inl (cA, n, .inl (upd f i x)))) H1 → va_D A (w.set q0 (a, .inl (cA, n, .inl (upd f i x)))) → va_S A s.heap H1 locs1 → W p l e R s m args below meth c H1 locs1 cells slots Q (F0 m (pc + 1) ls rest)) : W p l e R s m args below meth c H locs cells slots Q (F0 m pc ls (.int x :: .int (nI i) :: .ref a :: rest)) :=
  va_iast hx hb hK hP hD hS q0 t0 ha ht (vp_in_nI hin hn) hdg (by rw [nI_clamp (Nat.lt_trans hin hn)]; exact kk)
theorem rn_icmp_lt (hx : p.tables.exec = Jvm.exec) (hb : c.code = cc) {a b : Nat} {off : Int} {tgt : Nat} (ha : a < 2 ^ 31) (hb2 : b < 2 ^ 31) (hdg : decode cc pc = .ok (.if_icmp .lt off, 3)) (ht : (pc : Int) + off = (tgt : Int)) (kt : a < b → W p l e R s m args below meth c H locs cells slots Q (F0 m tgt ls rest)) (kf : ¬ a < b → W p l e R s m args below meth c H locs cells slots Q (F0 m (pc + 3) ls rest)) : W p l e R s m args below meth c H locs cells slots Q (F0 m pc ls (.int (nI b) :: .int (nI a) :: rest)) :=
  lv_icmp_lt hx hb hdg ht (fun h => kt ((nI_ltI ha hb2).mp h)) (fun h => kf (fun z => h ((nI_ltI ha hb2).mpr z)))
theorem rn_icmp_ge (hx : p.tables.exec = Jvm.exec) (hb : c.code = cc) {a b : Nat} {off : Int} {tgt : Nat} (ha : a < 2 ^ 31) (hb2 : b < 2 ^ 31) (hdg : decode cc pc = .ok (.if_icmp .ge off, 3)) (ht : (pc : Int) + off = (tgt : Int)) (kt : b ≤ a → W p l e R s m args below meth c H locs cells slots Q (F0 m tgt ls rest)) (kf : ¬ b ≤ a → W p l e R s m args below meth c H locs cells slots Q (F0 m (pc + 3) ls rest)) : W p l e R s m args below meth c H locs cells slots Q (F0 m pc ls (.int (nI b) :: .int (nI a) :: rest)) :=
  lv_icmp_ge hx hb hdg ht (fun h => kt ((nI_leI hb2 ha).mp h)) (fun h => kf (fun z => h ((nI_leI hb2 ha).mpr z)))
theorem rn_icmp_gt (hx : p.tables.exec = Jvm.exec) (hb : c.code = cc) {a b : Nat} {off : Int} {tgt : Nat} (ha : a < 2 ^ 31) (hb2 : b < 2 ^ 31) (hdg : decode cc pc = .ok (.if_icmp .gt off, 3)) (ht : (pc : Int) + off = (tgt : Int)) (kt : b < a → W p l e R s m args below meth c H locs cells slots Q (F0 m tgt ls rest)) (kf : ¬ b < a → W p l e R s m args below meth c H locs cells slots Q (F0 m (pc + 3) ls rest)) : W p l e R s m args below meth c H locs cells slots Q (F0 m pc ls (.int (nI b) :: .int (nI a) :: rest)) :=
  lv_icmp_gt hx hb hdg ht (fun h => kt ((nI_ltI hb2 ha).mp h)) (fun h => kf (fun z => h ((nI_ltI hb2 ha).mpr z)))
theorem rn_icmp_le (hx : p.tables.exec = Jvm.exec) (hb : c.code = cc) {a b : Nat} {off : Int} {tgt : Nat} (ha : a < 2 ^ 31) (hb2 : b < 2 ^ 31) (hdg : decode cc pc = .ok (.if_icmp .le off, 3)) (ht : (pc : Int) + off = (tgt : Int)) (kt : a ≤ b → W p l e R s m args below meth c H locs cells slots Q (F0 m tgt ls rest)) (kf : ¬ a ≤ b → W p l e R s m args below meth c H locs cells slots Q (F0 m (pc + 3) ls rest)) : W p l e R s m args below meth c H locs cells slots Q (F0 m pc ls (.int (nI b) :: .int (nI a) :: rest)) :=
  lv_icmp_le hx hb hdg ht (fun h => kt ((nI_leI ha hb2).mp h)) (fun h => kf (fun z => h ((nI_leI ha hb2).mpr z)))
theorem rn_icmp_eq (hx : p.tables.exec = Jvm.exec) (hb : c.code = cc) {a b : Nat} {off : Int} {tgt : Nat} (ha : a < 2 ^ 31) (hb2 : b < 2 ^ 31) (hdg : decode cc pc = .ok (.if_icmp .eq off, 3)) (ht : (pc : Int) + off = (tgt : Int)) (kt : a = b → W p l e R s m args below meth c H locs cells slots Q (F0 m tgt ls rest)) (kf : ¬ a = b → W p l e R s m args below meth c H locs cells slots Q (F0 m (pc + 3) ls rest)) : W p l e R s m args below meth c H locs cells slots Q (F0 m pc ls (.int (nI b) :: .int (nI a) :: rest)) :=
  lv_icmp_eq hx hb hdg ht (fun h => kt ((nI_eq ha hb2).mp h)) (fun h => kf (fun z => h ((nI_eq ha hb2).mpr z)))
theorem rn_icmp_ne (hx : p.tables.exec = Jvm.exec) (hb : c.code = cc) {a b : Nat} {off : Int} {tgt : Nat} (ha : a < 2 ^ 31) (hb2 : b < 2 ^ 31) (hdg : decode cc pc = .ok (.if_icmp .ne off, 3)) (ht : (pc : Int) + off = (tgt : Int)) (kt : ¬ a = b → W p l e R s m args below meth c H locs cells slots Q (F0 m tgt ls rest)) (kf : a = b → W p l e R s m args below meth c H locs cells slots Q (F0 m (pc + 3) ls rest)) : W p l e R s m args below meth c H locs cells slots Q (F0 m pc ls (.int (nI b) :: .int (nI a) :: rest)) :=
  lv_icmp_ne hx hb hdg ht (fun h => kt (fun z => h ((nI_eq ha hb2).mpr z))) (fun h => kf ((nI_eq ha hb2).mp h))
theorem rn_if_eq (hx : p.tables.exec = Jvm.exec) (hb : c.code = cc) {a : Nat} {off : Int} {tgt : Nat} (ha : a < 2 ^ 31) (hdg : decode cc pc = .ok (.ifCond .eq off, 3)) (ht : (pc : Int) + off = (tgt : Int)) (kt : a = 0 → W p l e R s m args below meth c H locs cells slots Q (F0 m tgt ls rest)) (kf : ¬ a = 0 → W p l e R s m args below meth c H locs cells slots Q (F0 m (pc + 3) ls rest)) : W p l e R s m args below meth c H locs cells slots Q (F0 m pc ls (.int (nI a) :: rest)) :=
  lv_if_eq hx hb hdg ht (fun h => kt ((nI_z ha).mp h)) (fun h => kf (fun z => h ((nI_z ha).mpr z)))
theorem rn_if_ne (hx : p.tables.exec = Jvm.exec) (hb : c.code = cc) {a : Nat} {off : Int} {tgt : Nat} (ha : a < 2 ^ 31) (hdg : decode cc pc = .ok (.ifCond .ne off, 3)) (ht : (pc : Int) + off = (tgt : Int)) (kt : ¬ a = 0 → W p l e R s m args below meth c H locs cells slots Q (F0 m tgt ls rest)) (kf : a = 0 → W p l e R s m args below meth c H locs cells slots Q (F0 m (pc + 3) ls rest)) : W p l e R s m args below meth c H locs cells slots Q (F0 m pc ls (.int (nI a) :: rest)) :=
  lv_if_ne hx hb hdg ht (fun h => kt (fun z => h ((nI_z ha).mpr z))) (fun h => kf ((nI_z ha).mp h))
theorem rn_if_gt (hx : p.tables.exec = Jvm.exec) (hb : c.code = cc) {a : Nat} {off : Int} {tgt : Nat} (ha : a < 2 ^ 31) (hdg : decode cc pc = .ok (.ifCond .gt off, 3)) (ht : (pc : Int) + off = (tgt : Int)) (kt : 0 < a → W p l e R s m args below meth c H locs cells slots Q (F0 m tgt ls rest)) (kf : ¬ 0 < a → W p l e R s m args below meth c H locs cells slots Q (F0 m (pc + 3) ls rest)) : W p l e R s m args below meth c H locs cells slots Q (F0 m pc ls (.int (nI a) :: rest)) :=
  lv_if_gt hx hb hdg ht (fun h => kt ((nI_g ha).mp h)) (fun h => kf (fun z => h ((nI_g ha).mpr z)))
theorem rn_if_le (hx : p.tables.exec = Jvm.exec) (hb : c.code = cc) {a : Nat} {off : Int} {tgt : Nat} (ha : a < 2 ^ 31) (hdg : decode cc pc = .ok (.ifCond .le off, 3)) (ht : (pc : Int) + off = (tgt : Int)) (kt : a ≤ 0 → W p l e R s m args below meth c H locs cells slots Q (F0 m tgt ls rest)) (kf : ¬ a ≤ 0 → W p l e R s m args below meth c H locs cells slots Q (F0 m (pc + 3) ls rest)) : W p l e R s m args below meth c H locs cells slots Q (F0 m pc ls (.int (nI a) :: rest)) :=
  lv_if_le hx hb hdg ht (fun h => kt ((nI_l0 ha).mp h)) (fun h => kf (fun z => h ((nI_l0 ha).mpr z)))
theorem rn_tab (hx : p.tables.exec = Jvm.exec) (hb : c.code = cc) {t : Nat} {L : List Int32} (hT : va_T .int t 4 (fun j => .int (L.getD j 0)) A s s.heap) (hS : va_S A s.heap H locs) {i : Nat} (hi : i < 4) (hdg : decode cc pc = .ok (.iaload, 1)) (kk : W p l e R s m args below meth c H locs cells slots Q (F0 m (pc + 1) ls (.int (L.getD i 0) :: rest))) : W p l e R s m args below meth c H locs cells slots Q (F0 m pc ls (.int (nI i) :: .ref t :: rest)) :=
  va_ti hx hb hT hS (vp_in_nI hi (by omega)) (v := .int (L.getD i 0)) (by rw [nI_clamp (by omega)]) hdg kk
theorem rn_cast (hx : p.tables.exec = Jvm.exec) (hb : c.code = cc) {D : va_G} {cl : List vw_C} {tys : List (ClassId × FieldType)} {a : Nat} (hK : va_K D cl tys s) (hP : va_P D cl w H) (hD : va_D A w) (hS : va_S A s.heap H locs) (q0 t0 : Nat) {cA : ClassId} {n : Nat} {f : Nat → Int32} (ha : w[q0]? = some (a, .inl (cA, n, .inl f))) (ht : tys[t0]? = some (cA, .char)) {i : Nat} {x : Int32} (hn : n < 2 ^ 31) (hin : i < n) (hdg : decode cc pc = .ok (.castore, 1))
    (kk : ∀ (H1 : Heap) (locs1 : List Loc), va_P D cl (w.set q0 (a, .inl (cA, n, .inl (upd f i (vp_nar .char x))))) H1 → va_D A (w.set q0 (a, .inl (cA, n, .inl (upd f i (vp_nar .char x))))) → va_S A s.heap H1 locs1 → W p l e R s m args below meth c H1 locs1 cells slots Q (F0 m (pc + 1) ls rest)) : W p l e R s m args below meth c H locs cells slots Q (F0 m pc ls (.int x :: .int (nI i) :: .ref a :: rest)) :=
  va_cast hx hb hK hP hD hS q0 t0 ha ht (vp_in_nI hin hn) hdg (by rw [nI_clamp (Nat.lt_trans hin hn)]; exact kk)
theorem rw_copy (S : CallFix p m c cc nL s args bw own) (hls : ls.size = nL) (hlk : Cond.methodLink own idx arraycopyName ∈ bw) (hR : 1 ≤ R.frames ∧ 32 ≤ R.locals) (hW : (rest.map fun v => v.category).sum ≤ 4) {D : va_G} {cl : List vw_C} {tys : List (ClassId × FieldType)} (hK : va_K D cl tys s) (hP : va_P D cl w H) (hD : va_D A w) (hS : va_S A s.heap H locs) (q0 q1 : Nat) {a a0 : Nat} {cA : ClassId} {n0 n1 : Nat} {f g : Nat → Int32} (ha0 : w[q0]? = some (a0, .inl (cA, n0, .inl f))) (ha1 : w[q1]? = some (a, .inl (cA, n1, .inl g))) (ht : tys[0]? = some (cA, .int))
    {sp dp n : Nat} (h1 : sp < 2 ^ 31) (h2 : dp < 2 ^ 31) (h3 : n < 2 ^ 31) (h4 : sp + n ≤ n0) (h5 : dp + n ≤ n1) (hdg : decode cc pc = .ok (.invokestatic idx, 3))
    (kk : ∀ (H1 : Heap) (locs1 : List Loc), va_P D cl (w.set q1 (a, .inl (cA, n1, .inl (va_cpy f g sp dp n)))) H1 → va_D A (w.set q1 (a, .inl (cA, n1, .inl (va_cpy f g sp dp n)))) → va_S A s.heap H1 locs1 → W p l e R s m args below meth c H1 locs1 cells slots Q (F0 m (pc + 3) ls rest)) : W p l e R s m args below meth c H locs cells slots Q (F0 m pc ls (.int (nI n) :: .int (nI dp) :: .ref a :: .int (nI sp) :: .ref a0 :: rest)) := by
  refine va_copyi S.1 S.2.1 (S.2.2.1.trans hls.symm) S.2.2.2.1 (S.2.2.2.2 _ hlk) (S.2.2.2.2 _ bw_30) (S.2.2.2.2 _ bw_29) (S.2.2.2.2 _ bw_4) hK hP hD hS q0 q1 0 0 ha0 ha1 ht ht rfl (nI_pos h1) (nI_pos h2) (nI_pos h3) (by rw [nI_clamp h1, nI_clamp h3]; exact h4) (by rw [nI_clamp h2, nI_clamp h3]; exact h5) (fun _ _ => rfl) hR.1 (Nat.le_trans (Nat.add_le_add_right hW _) (Nat.le_trans (Nat.le_of_ble_eq_true rfl) hR.2)) hdg ?_
  rw [nI_clamp h1, nI_clamp h2, nI_clamp h3]
  exact kk
end RW
theorem fb_rng9 (x : Int32) : -2147483648 ≤ x.toInt ∧ x.toInt < 2147483648 := by
  have h1 := Int32.le_toInt x
  have h2 := Int32.toInt_lt x
  omega
theorem sw_out {x : Int32} {lo n : Nat} (h : ∀ a, a < n → ¬ x = nI (lo + a)) : x.toInt < (lo : Int) ∨ (lo : Int) + n - 1 < x.toInt := by
  rcases Int.lt_or_le x.toInt lo with c | c
  · exact Or.inl c
  · rcases Int.lt_or_le ((lo : Int) + n - 1) x.toInt with d | d
    · exact Or.inr d
    · exfalso
      have hb := fb_rng9 x
      refine h (x.toInt.toNat - lo) (by omega) (Int32.toInt_inj.mp ?_)
      rw [show lo + (x.toInt.toNat - lo) = x.toInt.toNat by omega, nI_toInt (by omega)]
      omega
def ix (x : Int32) : Nat := x.toNatClampNeg
theorem ix_nI {n : Nat} (h : n < 2 ^ 31) : ix (nI n) = n := nI_clamp h
theorem imin_l {a b : Nat} (h : a ≤ b) (hb : b < 2 ^ 31) : imin (nI a) (nI b) = nI a := by
  unfold imin
  by_cases e : b = a
  · subst e; rw [ite_self]
  · rw [if_neg (nI_nlt h hb)]
theorem imin_r {a b : Nat} (h : b ≤ a) (ha : a < 2 ^ 31) : imin (nI a) (nI b) = nI b := by
  unfold imin
  by_cases e : b = a
  · subst e; rw [ite_self]
  · rw [if_pos (nI_lt (Nat.lt_of_le_of_ne h e) ha)]
