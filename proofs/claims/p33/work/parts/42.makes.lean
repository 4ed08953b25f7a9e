/-! the constructors: contracts of what makes cells -/
/-- a contract of a constructor: the cells that it makes stand behind the object's own -/
def rcC (l : Launch) (E : EV) (y : MethodName) (cc : ByteArray) (mL k mc ms : Nat) (St : Type) (av : List Value) (w : va_W) (w1 : St → va_W) : Prop :=
  ∀ sz : Nat, Met l y (Cond.code y cc mL none :: bw) { frames := k, cells := mc, slots := ms, locals := 32 * k } (rc_Pc E av w sz) (va_Qv (fun (_ : St) => True) (fun u t => va_P E.1 vwCl (w1 u) t.heap ∧ va_D (va_A w sz) (w1 u)) (va_A w sz)) mc ms (va_A w sz)
theorem rcC_of {l : Launch} {E : EV} {y : MethodName} {cc : ByteArray} {mL k mc ms : Nat} {St : Type} {av : List Value} {w : va_W} {w1 : St → va_W} (hy : plainName y.cls = true) (hlen : (lg_sl av).length ≤ mL)
    (body : ∀ (p : Program) (e : Env) (s : State) (m : MethodId) (below : List Frame) (meth : Method) (c : Code) (Q : State → Prop) (A : Nat → Prop) (ls : Array Slot),
      CallFix p m c cc mL s av.toArray bw y.cls → meth.name = y.name → va_P E.1 vwCl w s.heap → va_D A w → en E A s s.heap → (∀ q, s.heap.size ≤ q → A q) → lv_has ls mL (lv_args 0 av) →
      (∀ (H : Heap) (locs : List Loc) (u : St) (pc : Nat) (ls' : Array Slot), va_P E.1 vwCl (w1 u) H → va_D A (w1 u) → va_S A s.heap H locs → decode cc pc = .ok (.return_, 1) → W p l e { frames := k, cells := mc, slots := ms, locals := 32 * k } s m av.toArray below meth c H locs mc ms Q (F0 m pc ls' [])) →
      W p l e { frames := k, cells := mc, slots := ms, locals := 32 * k } s m av.toArray below meth c s.heap [] 0 0 Q (F0 m 0 ls [])) : rcC l E y cc mL k mc ms St av w w1 := by
  intro sz
  refine Met.ofW (cc := cc) (maxL := mL) (ret := none) hy rfl ?_
  intro p e s m args below meth c s₁ B hml hv
  obtain ⟨rfl, hsz, hP, hE, hD0⟩ := hv
  subst hsz
  have hts := atoms_spec (ws := Cond.code y cc mL none :: bw) B.pre
  rw [lg_entry_eq]
  have hl := lv_entry av (n := mL) hlen
  generalize (lg_sl av ++ List.replicate (mL - (lg_sl av).length) Slot.unset).toArray = ls at hl ⊢
  refine body p e s m below meth c _ (va_A w s.heap.size) ls ⟨B.exec, B.bytes, hml, findClass_of_methodNamed B.named, fun x hx => hts x (List.mem_cons_of_mem _ hx)⟩ (name_of_methodNamed B.named B.method).1 hP hD0.self hE (fun q h => Or.inr h) hl ?_
  intro H locs u pc ls' hP1 hD1 hS hdg
  exact W.vret B.exec B.bytes B.returns (fun t ht hW => ⟨⟨u, rfl, trivial, by show va_P E.1 vwCl (w1 u) t.heap; rw [ht]; exact hP1, hD1⟩, hS.F ht⟩) hS.2.2 hdg B.notSynchronized
def cdI (y : MethodName) (cc : ByteArray) (mL n : Nat) : Prop := cdB y cc mL none n ∧ Cond.instanceMethod y ∈ bw ∧ y.name = "<init>"
section RI
variable {p : Program} {l : Launch} {e : Env} {R : Room} {s : State} {m : MethodId} {args : Array Value} {below : List Frame} {meth : Method} {c : Code} {H : Heap} {locs : List Loc} {cells slots : Nat} {Q : State → Prop}
variable {cc : ByteArray} {pc nL : Nat} {ls : Array Slot} {rest st0 : List Value} {own : String} {E : EV} {A : Nat → Prop} {w wc wr : va_W}
variable {y : MethodName} {cc2 : ByteArray} {mL2 j idx n mc ms : Nat} {As : List Value} {b : Nat}
theorem rwI {St : Type} {w1 : St → va_W} (S : CallFix p m c cc nL s args bw own) (hM : rcC l E y cc2 mL2 j mc ms St (.ref b :: As) wc w1) (hc : cdI y cc2 mL2 n) (hlk : Cond.methodLink own idx y ∈ bw) (hR : j + 1 ≤ R.frames ∧ 8 + (mL2 + 11) + 32 * j ≤ R.locals) (hf : cells + mc ≤ R.cells ∧ slots + ms ≤ R.slots)
    (hP : va_P E.1 vwCl w H) (hD : va_D A w) (hE : en E A s s.heap) (hA : ∀ q, s.heap.size ≤ q → A q) (hS : va_S A s.heap H locs) (is isR : List Nat) (hC : is.map (fun i => w[i]?) = wc.map some) (hnd : va_nd is = true) (hR2 : isR.map (fun i => w[i]?) = wr.map some) (hnR : va_nd isR = true) (hdis : ∀ i ∈ isR, i ∉ is)
    (hn : As.length = n) (hst : st0 = As.reverse ++ .ref b :: rest) (hW : (rest.map fun v => v.category).sum ≤ 8) (hls : ls.size = nL) (hdg : decode cc pc = .ok (.invokespecial idx, 3))
    (kk : ∀ (H1 : Heap) (locs1 : List Loc) (u : St), va_P E.1 vwCl (wr ++ w1 u) H1 → va_D A (wr ++ w1 u) → va_S A s.heap H1 locs1 → W p l e R s m args below meth c H1 locs1 (cells + mc) (slots + ms) Q (F0 m (pc + 3) ls rest)) : W p l e R s m args below meth c H locs cells slots Q (F0 m pc ls st0) := by
  obtain ⟨hb0, hpre, hF⟩ := rc_pre hE hS hP hD hA is hC hnd (.ref b :: As)
  refine va_callv (va_runI (As := As) (rest := rest) S (hM H.size) (cwI n S.2.2.2.2 (bw_good hc.1.1) rfl rfl rfl (S.2.2.2.2 _ hc.1.2.1) (S.2.2.2.2 _ hlk) (S.2.2.2.2 _ hc.2.1) hc.2.2 hc.1.2.2 hR) ⟨hb0, hpre⟩ rfl hn hls hst (by show 2 * 0 + _ ≤ 8; omega) hdg hf) hS (fun q _ h => hF q h) hF (fun u t H1 locs1 ht hvm hr hB hz1 hk1 hS1 => ?_)
  obtain ⟨hP1, hD1⟩ := hB
  rw [ht] at hP1
  obtain ⟨hP2, hD2⟩ := va_join (wr := wr) (w1 := w1 u) hP hD is isR hC hR2 hnR hdis hk1 hF hP1 hD1
  exact kk H1 locs1 u hP2 hD2 hS1
/-- a new int array, and its class is the one that is known -/
theorem rwA (hx : p.tables.exec = Jvm.exec) (hb : c.code = cc) (hE : en E A s s.heap) (harr : (Cond.arrayClass .int).before args s = true) (hP : va_P E.1 vwCl w H) (hD : va_D A w) (hS : va_S A s.heap H locs) (hA : ∀ q, s.heap.size ≤ q → A q)
    {N : Nat} (hN : N < 2 ^ 20) (hcells : cells + 1 ≤ R.cells) (hslots : slots + N ≤ R.slots) (hdg : decode cc pc = .ok (.newarray .int, 2))
    (kk : ∀ (q : Nat) (H1 : Heap), va_P E.1 vwCl (w ++ [(q, .inl (E.2.1, N, .inl (fun _ => nI 0)))]) H1 → va_D A (w ++ [(q, .inl (E.2.1, N, .inl (fun _ => nI 0)))]) → va_S A s.heap H1 locs →
      W p l e R s m args below meth c H1 locs (cells + 1) (slots + N) Q (F0 m (pc + 2) ls (.ref q :: rest))) : W p l e R s m args below meth c H locs cells slots Q (F0 m pc ls (.int (nI N) :: rest)) := by
  refine va_newa (atype := .int) (ty := .int) (N' := N) (a0 := (N, .inl (fun _ => nI 0))) hx hb harr rfl hE.1 hP hD hS hA (fun cA => rfl) (nI_pos (by omega)) (nI_clamp (by omega)) (by show N * 4 ≤ 536870912; omega) hcells hslots hdg (fun q cA H1 hK hP1 hD1 hS1 => ?_)
  have h1 : s.vm.findClass ("[" ++ (FieldType.int).toString) = some cA := (hK.2 2 _ rfl).2
  have h2 : s.vm.findClass ("[" ++ (FieldType.int).toString) = some E.2.1 := (hE.1.2 0 _ rfl).2
  have e9 : cA = E.2.1 := Option.some.inj (h1.symm.trans h2)
  subst e9
  exact kk q H1 hP1 hD1 hS1
theorem rwAc (hx : p.tables.exec = Jvm.exec) (hb : c.code = cc) (hE : en E A s s.heap) (harr : (Cond.arrayClass .char).before args s = true) (hP : va_P E.1 vwCl w H) (hD : va_D A w) (hS : va_S A s.heap H locs) (hA : ∀ q, s.heap.size ≤ q → A q)
    {N : Nat} (hN : N < 2 ^ 20) (hcells : cells + 1 ≤ R.cells) (hslots : slots + N ≤ R.slots) (hdg : decode cc pc = .ok (.newarray .char, 2))
    (kk : ∀ (q : Nat) (H1 : Heap), va_P E.1 vwCl (w ++ [(q, .inl (E.2.2.1, N, .inl (fun _ => nI 0)))]) H1 → va_D A (w ++ [(q, .inl (E.2.2.1, N, .inl (fun _ => nI 0)))]) → va_S A s.heap H1 locs →
      W p l e R s m args below meth c H1 locs (cells + 1) (slots + N) Q (F0 m (pc + 2) ls (.ref q :: rest))) : W p l e R s m args below meth c H locs cells slots Q (F0 m pc ls (.int (nI N) :: rest)) := by
  refine va_newa (atype := .char) (ty := .char) (N' := N) (a0 := (N, .inl (fun _ => nI 0))) hx hb harr rfl hE.1 hP hD hS hA (fun cA => rfl) (nI_pos (by omega)) (nI_clamp (by omega)) (by show N * 2 ≤ 536870912; omega) hcells hslots hdg (fun q cA H1 hK hP1 hD1 hS1 => ?_)
  have h1 : s.vm.findClass ("[" ++ (FieldType.char).toString) = some cA := (hK.2 2 _ rfl).2
  have h2 : s.vm.findClass ("[" ++ (FieldType.char).toString) = some E.2.2.1 := (hE.1.2 1 _ rfl).2
  have e9 : cA = E.2.2.1 := Option.some.inj (h1.symm.trans h2)
  subst e9
  exact kk q H1 hP1 hD1 hS1
/-- the first n numbers of a table copied to the begin of an array -/
theorem rwT (S : CallFix p m c cc nL s args bw own) (hls : ls.size = nL) (hlk : Cond.methodLink own idx arraycopyName ∈ bw) (hR : 1 ≤ R.frames ∧ 32 ≤ R.locals) (hW : (rest.map fun v => v.category).sum ≤ 4) {D : va_G} {cl : List vw_C} {tys : List (ClassId × FieldType)} (hK : va_K D cl tys s) (hP : va_P D cl w H) (hD : va_D A w) (hS : va_S A s.heap H locs)
    {t n0 : Nat} {f : Nat → Int32} (hT9 : va_T .int t n0 (fun k => .int (f k)) A s s.heap) (q1 : Nat) {a : Nat} {cA : ClassId} {n1 : Nat} {g : Nat → Int32} (ha1 : w[q1]? = some (a, .inl (cA, n1, .inl g))) (ht : tys[0]? = some (cA, .int)) {n : Nat} (h3 : n < 2 ^ 31) (h4 : n ≤ n0) (h5 : n ≤ n1) (hdg : decode cc pc = .ok (.invokestatic idx, 3))
    (kk : ∀ (H1 : Heap) (locs1 : List Loc), va_P D cl (w.set q1 (a, .inl (cA, n1, .inl (va_cpy f g 0 0 n)))) H1 → va_D A (w.set q1 (a, .inl (cA, n1, .inl (va_cpy f g 0 0 n)))) → va_S A s.heap H1 locs1 → W p l e R s m args below meth c H1 locs1 cells slots Q (F0 m (pc + 3) ls rest)) : W p l e R s m args below meth c H locs cells slots Q (F0 m pc ls (.int (nI n) :: .int (nI 0) :: .ref a :: .int (nI 0) :: .ref t :: rest)) := by
  obtain ⟨tab, u1, u2, u3, u4, u5, u6, u7⟩ := hT9
  have ul : t < s.heap.size := (Array.getElem?_eq_some_iff.mp u1).1
  have c0 : H[t]? = some tab := by rw [hS.2.1 t ul u7]; exact u1
  have c1 : H[a]? = some (vp_cell cA (n1, .inl g)) := hP q1 _ ha1
  obtain ⟨v6, k0, v7, v8, v9⟩ := u2
  obtain ⟨-, k1, x1, x2, x3⟩ := (hK.2 0 _ ht).1 n1 (fun k => .int (g k))
  have z0 : (nI 0).toNatClampNeg = 0 := by decide
  have zn : (nI n).toNatClampNeg = n := nI_clamp h3
  have i0 : (nI 0).toInt = 0 := by decide
  have iN : (nI n).toInt = (n : Int) := nI_toInt h3
  intro T hT X
  obtain ⟨vm', X', step⟩ := X.arraycopy S.1 S.2.2.2.1 (S.2.2.2.2 _ hlk) (S.2.2.2.2 _ bw_30) (S.2.2.2.2 _ bw_29) (S.2.2.2.2 _ bw_4) (src := t) (dst := a) (cs := tab) (cd := vp_cell cA (n1, .inl g)) (srcPos := nI 0) (destPos := nI 0) (n := nI n) (by rw [hT]; exact c0) (by rw [hT]; exact c1)
    v6 (fun _ h => by cases h) u3 (fun h => by cases h) v7 x1 v9 x3 (by simp [refKind]) (by decide) (by decide) (nI_pos h3)
    (by rw [i0, iN]; omega)
    (by rw [i0, iN]; show ¬ _ > ((arrV cA n1 (fun k => .int (g k))).slots.size : Int); rw [arrV_size]; omega)
    (fun vm₁ _ i hi => by
      have e9 : tab.slots.getD ((nI 0).toNatClampNeg + i) .null = .int (f ((nI 0).toNatClampNeg + i)) := by
        rw [Array.getD_eq_getD_getElem?, u6 _ (by rw [z0]; rw [zn] at hi; omega)]
        rfl
      refine ⟨?_, ?_⟩
      · rw [e9]; rfl
      · rw [e9]; exact trivial)
    (g := F0 m pc ls (.int (nI n) :: .int (nI 0) :: .ref a :: .int (nI 0) :: .ref t :: rest)) rfl (by rw [S.2.2.1]; exact hls) (rest := rest) rfl (by rw [S.2.1]; exact hdg) hR.1 (Nat.le_trans (Nat.add_le_add_right (show 2 * 0 + _ ≤ 4 by omega) _) (Nat.le_trans (Nat.le_of_ble_eq_true rfl) hR.2))
  have e1 : copied tab (vp_cell cA (n1, .inl g)) (nI 0) (nI 0) (nI n) = vp_cell cA (n1, .inl (va_cpy f g (nI 0).toNatClampNeg (nI 0).toNatClampNeg (nI n).toNatClampNeg)) := va_copiedX (fun z => .int z) tab cA f g u6 (by rw [z0, zn]; omega)
  rw [z0, zn] at e1
  rw [e1] at X' step
  have hl : a < H.size := (Array.getElem?_eq_some_iff.mp c1).1
  have hheap : ((T.setVm vm').setCell a (vp_cell cA (n1, .inl (va_cpy f g 0 0 n)))).heap = H.setIfInBounds a (vp_cell cA (n1, .inl (va_cpy f g 0 0 n))) := by rw [← hT]; rfl
  have oq : ∀ q : Nat, q ≠ a → (H.setIfInBounds a (vp_cell cA (n1, .inl (va_cpy f g 0 0 n))))[q]? = H[q]? := fun q hq => by simp [Array.getElem?_setIfInBounds, Ne.symm hq]
  obtain ⟨t9, a9, b9⟩ := kk _ _ (hP.set hD ha1 (show (H.setIfInBounds a _)[a]? = some _ by simp [Array.getElem?_setIfInBounds, hl]) oq) (hD.set ha1) ⟨by simp; exact hS.1, fun q g1 g2 => by
      rw [oq q (fun e => g2 (by rw [e]; exact hD.2 q1 _ ha1))]
      exact hS.2.1 q g1 g2, fun q hq => by
      rcases List.mem_append.mp hq with h | h
      · exact hS.2.2 q h
      · obtain ⟨z, -, hz⟩ := List.mem_map.mp h
        rw [← hz]
        exact hD.2 q1 _ ha1⟩ _ hheap X'
  exact ⟨t9, step t9 a9, b9⟩
end RI
def f0 : Nat → Int32 := fun _ => nI 0
