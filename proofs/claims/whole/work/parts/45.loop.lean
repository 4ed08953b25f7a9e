/-! the law's start: what the machine gives; the loop -/
def tmS (i : Nat) : Term := .string RX2 (st_ix.getD i 0)
theorem fl_ex : ∀ i, i < 9 → Cond.exactly (tmS i) "java/lang/String" ∈ flatC (Jvm.Cond.and given_1 narrow_1) := by decide +kernel
theorem fl_co : ∀ i, i < 9 → Cond.eq (.field (tmS i) "java/lang/String" "coder" "B") (.int 0) ∈ flatC (Jvm.Cond.and given_1 narrow_1) := by decide +kernel
theorem fl_ar : ∀ i, i < 9 → Cond.arrayOf (.field (tmS i) "java/lang/String" "value" "[B") .byte ∈ flatC (Jvm.Cond.and given_1 narrow_1) := by decide +kernel
theorem fl_le : ∀ i, i < 9 → Cond.eq (.length (.field (tmS i) "java/lang/String" "value" "[B")) (.int (Int32.ofNat (lenS.getD i 0))) ∈ flatC (Jvm.Cond.and given_1 narrow_1) := by decide +kernel
theorem fl_el : ∀ i, i < 9 → ∀ j, j < lenS.getD i 0 → Cond.eq (.elem (.field (tmS i) "java/lang/String" "value" "[B") (.int (Int32.ofNat j))) (.int ((bytS.getD i []).getD j 0)) ∈ flatC (Jvm.Cond.and given_1 narrow_1) := by decide +kernel
theorem fl_ne : ∀ i, i < 9 → ∀ j, j < 9 → i ≠ j → Cond.not (Cond.eq (tmS i) (tmS j)) ∈ flatC (Jvm.Cond.and given_1 narrow_1) ∨ Cond.not (Cond.eq (tmS j) (tmS i)) ∈ flatC (Jvm.Cond.and given_1 narrow_1) := by decide +kernel
theorem len_sm : ∀ i, i < 9 → lenS.getD i 0 < 2 ^ 31 := by decide +kernel
theorem ta_F : Cond.arrayOf (.static RX7 "FIRST_SETTING" "[I") .int ∈ flatC (Jvm.Cond.and given_1 narrow_1) ∧ Cond.eq (.length (.static RX7 "FIRST_SETTING" "[I")) (.int (Int32.ofNat 4)) ∈ flatC (Jvm.Cond.and given_1 narrow_1) ∧ ∀ j, j < 4 → Cond.eq (.elem (.static RX7 "FIRST_SETTING" "[I") (.int (Int32.ofNat j))) (.int (([1, 1, 8, 10] : List Int32).getD j 0)) ∈ flatC (Jvm.Cond.and given_1 narrow_1) := by decide +kernel
theorem ta_L : Cond.arrayOf (.static RX7 "LEAST_SETTING" "[I") .int ∈ flatC (Jvm.Cond.and given_1 narrow_1) ∧ Cond.eq (.length (.static RX7 "LEAST_SETTING" "[I")) (.int (Int32.ofNat 4)) ∈ flatC (Jvm.Cond.and given_1 narrow_1) ∧ ∀ j, j < 4 → Cond.eq (.elem (.static RX7 "LEAST_SETTING" "[I") (.int (Int32.ofNat j))) (.int (([1, 0, 1, 0] : List Int32).getD j 0)) ∈ flatC (Jvm.Cond.and given_1 narrow_1) := by decide +kernel
theorem ta_M : Cond.arrayOf (.static RX7 "MOST_SETTING" "[I") .int ∈ flatC (Jvm.Cond.and given_1 narrow_1) ∧ Cond.eq (.length (.static RX7 "MOST_SETTING" "[I")) (.int (Int32.ofNat 4)) ∈ flatC (Jvm.Cond.and given_1 narrow_1) ∧ ∀ j, j < 4 → Cond.eq (.elem (.static RX7 "MOST_SETTING" "[I") (.int (Int32.ofNat j))) (.int (([5, 9, 40, 50] : List Int32).getD j 0)) ∈ flatC (Jvm.Cond.and given_1 narrow_1) := by decide +kernel
theorem st_CS : Cond.eq (.static RJ0 "COMPACT_STRINGS" "Z") (.int 1) ∈ flatC (Jvm.Cond.and given_1 narrow_1) := by decide +kernel
theorem st_SF : Cond.isRef (.static RJ3 "SIOOBE_FORMATTER" "Ljava/util/function/BiFunction;") ∈ flatC (Jvm.Cond.and given_1 narrow_1) := by decide +kernel
theorem st_tabOf {args : Array Value} {s : State} {n : String} {Ls : List Int32} (hl : (Cond.laysStatic RX7 n "[I").before args s = true) (hini : (Cond.initialized RX7).before args s = true) (hs : ∀ c ∈ flatC (Jvm.Cond.and given_1 narrow_1), c.before args s = true)
    (h : Cond.arrayOf (.static RX7 n "[I") .int ∈ flatC (Jvm.Cond.and given_1 narrow_1) ∧ Cond.eq (.length (.static RX7 n "[I")) (.int (Int32.ofNat 4)) ∈ flatC (Jvm.Cond.and given_1 narrow_1) ∧ ∀ j, j < 4 → Cond.eq (.elem (.static RX7 n "[I") (.int (Int32.ofNat j))) (.int (Ls.getD j 0)) ∈ flatC (Jvm.Cond.and given_1 narrow_1)) : st_tab n Ls (fun q => s.heap.size ≤ q) s s.heap := by
  have hA : ∀ a : Nat, a < s.heap.size → ¬ s.heap.size ≤ a := fun a h => Nat.not_le_of_lt h
  obtain ⟨t, ht, hT⟩ := va_Tof (tm := .static RX7 n "[I") (N := 4) (f := fun j => .int (Ls.getD j 0)) (A := fun q => s.heap.size ≤ q) (by decide) (hs _ h.1) (va_eqt (hs _ h.2.1)) (fun j hj => va_eqt (hs _ (h.2.2 j hj))) hA
  exact ⟨t, va_Zof hl hini ht hA, hT⟩
theorem en_start {args : Array Value} {s : State} (hts : ∀ w ∈ lw_tbl, w.before args s = true) (hg : (Jvm.Cond.and given_1 narrow_1).before args s = true) : ∃ E : EV, en E (fun q => s.heap.size ≤ q) s s.heap := by
  have hA : ∀ a : Nat, a < s.heap.size → ¬ s.heap.size ≤ a := fun a h => Nat.not_le_of_lt h
  have hs := flat_of_before _ hg
  have hw := bw_hts hts
  obtain ⟨c1, i1, k1⟩ := u_known hw inb_X1 (hw _ bw_130)
  obtain ⟨c2, i2, k2⟩ := u_known hw inb_X2 (hw _ bw_98)
  obtain ⟨c3, i3, k3⟩ := u_known hw inb_X3 (hw _ bw_82)
  obtain ⟨c4, i4, k4⟩ := u_known hw inb_X4 (hw _ bw_136)
  obtain ⟨c7, i7, k7⟩ := u_known hw inb_X7 (hw _ bw_74)
  obtain ⟨c8, i8, k8⟩ := u_known hw inb_X8 (hw _ bw_705)
  obtain ⟨cI, kI, compI, fI, gI, hI⟩ := Cond.arrayClass_spec (hw _ bw_96)
  obtain ⟨cC, kC, compC, fC, gC, hC⟩ := Cond.arrayClass_spec (hw _ bw_128)
  obtain ⟨adK, adV, hS9, hev⟩ := vk_Sof (N := 9) (tm := tmS) (len := lenS) (byt := bytS) (A := fun q => s.heap.size ≤ q) len_sm (fun i hi => hs _ (fl_ex i hi)) (fun i hi => hs _ (fl_co i hi)) (fun i hi => hs _ (fl_ar i hi)) (fun i hi => hs _ (fl_le i hi)) (fun i hi j hj => hs _ (fl_el i hi j hj)) (fun i j hi hj hne => (fl_ne i hi j hj hne).imp (fun h => hs _ h) (fun h => hs _ h)) hA
  refine ⟨((fun c => match c with | 0 => c1 | 1 => c2 | 2 => c3 | 3 => c4 | 4 => c7 | _ => c8, fun c => match c with | 0 => i1 | 1 => i2 | 2 => i3 | 3 => i4 | 4 => i7 | _ => i8), cI, cC, adK, adV), ⟨fun c q hq => ?_, fun k q hq => ?_⟩, ?_, fun i hi => ?_, ?_, ?_, ?_, hS9, ?_, ?_⟩
  · have hc : c < 6 := (List.getElem?_eq_some_iff.mp hq).1
    rcases (by omega : c = 0 ∨ c = 1 ∨ c = 2 ∨ c = 3 ∨ c = 4 ∨ c = 5) with e | e | e | e | e | e <;> subst e <;> cases hq
    · exact k1
    · exact k2
    · exact k3
    · exact k4
    · exact k7
    · exact k8
  · have hk : k < 2 := (List.getElem?_eq_some_iff.mp hq).1
    rcases (by omega : k = 0 ∨ k = 1) with e | e <;> subst e <;> cases hq
    · exact ⟨fun n z => ⟨fun k h => (by cases h), kI, gI, compI, hI⟩, fI⟩
    · exact ⟨fun n z => ⟨fun k h => (by cases h), kC, gC, compC, hC⟩, fC⟩
  · exact ⟨va_Nw.of rfl (hts _ (List.mem_of_getElem? (i := 193) (by decide +kernel))), va_Nw.of rfl (hts _ (List.mem_of_getElem? (i := 239) (by decide +kernel))), va_Nw.of rfl (hts _ (List.mem_of_getElem? (i := 287) (by decide +kernel))), va_Nw.of rfl (hts _ (List.mem_of_getElem? (i := 356) (by decide +kernel))), va_Nw.of rfl (hts _ (List.mem_of_getElem? (i := 380) (by decide +kernel))), va_Nw.of rfl (hts _ (List.mem_of_getElem? (i := 496) (by decide +kernel))), va_Nw.of rfl (hts _ (List.mem_of_getElem? (i := 531) (by decide +kernel))), va_Nw.of rfl (hts _ (List.mem_of_getElem? (i := 87) (by decide +kernel))), va_Nw.of rfl (hts _ (List.mem_of_getElem? (i := 196) (by decide +kernel))), va_Nw.of rfl (hts _ (List.mem_of_getElem? (i := 198) (by decide +kernel)))⟩
  · refine vk_R.of (A := args) ?_ (hev i hi)
    rcases (by omega : i = 0 ∨ i = 1 ∨ i = 2 ∨ i = 3 ∨ i = 4 ∨ i = 5 ∨ i = 6 ∨ i = 7 ∨ i = 8) with e | e | e | e | e | e | e | e | e <;> subst e
    · exact (hts _ (List.mem_of_getElem? (i := 571) (by decide +kernel)))
    · exact (hts _ (List.mem_of_getElem? (i := 572) (by decide +kernel)))
    · exact (hts _ (List.mem_of_getElem? (i := 573) (by decide +kernel)))
    · exact (hts _ (List.mem_of_getElem? (i := 574) (by decide +kernel)))
    · exact (hts _ (List.mem_of_getElem? (i := 575) (by decide +kernel)))
    · exact (hts _ (List.mem_of_getElem? (i := 576) (by decide +kernel)))
    · exact (hts _ (List.mem_of_getElem? (i := 577) (by decide +kernel)))
    · exact (hts _ (List.mem_of_getElem? (i := 578) (by decide +kernel)))
    · exact (hts _ (List.mem_of_getElem? (i := 579) (by decide +kernel)))
  · exact st_tabOf (hts _ (List.mem_of_getElem? (i := 88) (by decide +kernel))) (hw _ bw_58) hs ta_F
  · exact st_tabOf (hts _ (List.mem_of_getElem? (i := 197) (by decide +kernel))) (hw _ bw_58) hs ta_L
  · exact st_tabOf (hts _ (List.mem_of_getElem? (i := 199) (by decide +kernel))) (hw _ bw_58) hs ta_M
  · exact va_Zof (hts _ (List.mem_of_getElem? (i := 589) (by decide +kernel))) (hw _ bw_69) (va_eqi (hs _ st_CS)) hA
  · exact va_Zqof (hts _ (List.mem_of_getElem? (i := 605) (by decide +kernel))) (hw _ bw_71) (hs _ st_SF) hA
theorem gt_e {i LL : Nat} (hi : i ≤ 3072 + 6) (hL : LL ≤ 3072) : nI LL - nI 6 < nI i ↔ LL < i + 6 := by
  rw [i32_lt, pk_sub_toInt (by omega) (by omega), nI_toInt (by omega)]
  omega
/-- what the loop's head asks for -/
def lwK' (p : Program) (l : Launch) (e : Env) (s : State) (m : MethodId) (below : List Frame) (meth : Method) (c : Code) (Q : State → Prop) (E : EV) (A : Nat → Prop) (b9 i cells slots : Nat) (xo r rc r2 rc2 r3 rc3 d ch nu y q w q2 w2 mo st sp th so sv pd mu : Nat) : Prop :=
  ∀ (sf : Int32) (f : Nat → Int32) (fb : Nat → Int32) (ft : Nat → Int32) (L : Nat) (a : Int32) (b : Int32) (le : Int32) (co : Int32) (mi : Int32) (t : Nat → Int32) (u : Nat → Int32) (o : Nat) (z : Nat) (h : Nat → Int32) (sl : Nat → Int32) (ln : Nat) (sn : Nat) (ta : Nat) (sg : Int32) (g : Nat → Int32) (gp : Nat → Int32) (gh : Nat → Int32) (gs : Nat → Int32) (gv : Nat → Int32) (gt : Nat → Int32) (gu : Nat → Int32), LSt f g o z h sn gh sf sl gs gv L t gt ln mi → ∀ (H : Heap) (locs : List Loc), va_P E.1 vwCl [(xo, .inr (4, [.ref r, .ref r2, .ref r3, .ref d, .ref y, .ref q2, .int sf])), (r, .inr (2, [.ref rc])), (rc, .inl (E.2.1, 293, .inl f)), (r2, .inr (2, [.ref rc2])), (rc2, .inl (E.2.1, 293, .inl fb)), (r3, .inr (2, [.ref rc3])), (rc3, .inl (E.2.1, 293, .inl ft)), (d, .inr (1, [.ref ch, .ref nu, .int (nI L), .int a, .int b, .int le, .int co, .int mi])), (ch, .inl (E.2.2.1, 80, .inl t)), (nu, .inl (E.2.1, 4, .inl u)), (y, .inr (0, [.ref q, .int (nI o), .int (nI z)])), (q, .inr (3, [.ref w])), (w, .inl (E.2.1, 1758, .inl h)), (q2, .inr (3, [.ref w2])), (w2, .inl (E.2.1, 586, .inl sl)), (mo, .inr (5, [.ref st, .ref sp, .ref th, .int (nI sn), .ref so, .ref sv, .ref pd, .int (nI ln), .int (nI ta), .int sg, .ref mu])), (st, .inl (E.2.1, 293, .inl g)), (sp, .inl (E.2.1, 293, .inl gp)), (th, .inl (E.2.1, 1758, .inl gh)), (so, .inl (E.2.1, 586, .inl gs)), (sv, .inl (E.2.1, 2, .inl gv)), (pd, .inl (E.2.1, 80, .inl gt)), (mu, .inl (E.2.1, 4, .inl gu))] H → va_S A s.heap H locs → ∀ ls : Array Slot, lv_has ls 4 [(3, .int (nI i)), (2, .ref mo), (1, .ref xo), (0, .ref b9)] → W p l e room_1 s m #[Value.ref b9] below meth c H locs cells slots Q (F0 m 18 ls [])
section LOOP
variable {p : Program} {l : Launch} {e : Env} {s : State} {m : MethodId} {below : List Frame} {meth : Method} {c : Code} {Q : State → Prop} {E : EV} {A : Nat → Prop} {b9 LL : Nat} {xs : Nat → Int32} {cells slots : Nat}
variable {xo r rc r2 rc2 r3 rc3 d ch nu y q w q2 w2 mo st sp th so sv pd mu : Nat}
set_option maxHeartbeats 4000000 in
set_option maxRecDepth 100000 in
theorem lw_loop (S : CallFix p m c code 4 s #[Value.ref b9] bw RL) (hE : en E A s s.heap) (hA : ∀ q, s.heap.size ≤ q → A q) (hcs : cells ≤ room_1.cells ∧ slots ≤ room_1.slots) (hX : va_X b9 LL xs s s.heap) (hbl : b9 < s.heap.size) (hbA : ¬ A b9) (hLL : LL ≤ 3072) (hDa : va_Da A [xo, r, rc, r2, rc2, r3, rc3, d, ch, nu, y, q, w, q2, w2, mo, st, sp, th, so, sv, pd, mu])
    (hend : ∀ (H : Heap) (locs : List Loc), va_S A s.heap H locs → ∀ ls : Array Slot, W p l e room_1 s m #[Value.ref b9] below meth c H locs cells slots Q (F0 m 1014 ls [])) :
    ∀ (fuel i : Nat), LL + 6 - i < fuel → i ≤ LL → lwK' p l e s m below meth c Q E A b9 i cells slots xo r rc r2 rc2 r3 rc3 d ch nu y q w q2 w2 mo st sp th so sv pd mu := by
  have hx := S.1
  have hb := S.2.1
  have hown := S.2.2.2.1
  have hts := S.2.2.2.2
  intro fuel
  induction fuel with
  | zero => intro i h9; exact absurd h9 (Nat.not_lt_zero _)
  | succ fuel ih =>
    intro i hfu hiL sf f fb ft L a b le co mi t u o z h sl ln sn ta sg g gp gh gs gv gt gu h9 H locs hP hS ls hl
    refine lv_iload_n hx hb dL_law_18 rfl (lv_at hl 0 rfl) ?_
    refine lv_aload_n hx hb dL_law_19 rfl (lv_at hl 3 rfl) ?_
    refine va_slen hx hb hX hbl hbA hS dL_law_20 ?_
    refine lv_bipush (v := nI 6) hx hb dL_law_21 (by decide) ?_
    refine lv_isub hx hb dL_law_23 ?_
    refine lv_icmp_gt (tgt := 1014) hx hb dL_law_24 (by decide) (fun _ => hend H locs hS ls) (fun c1 => ?_)
    have hi : i + 6 ≤ LL := by
      rcases Nat.lt_or_ge LL (i + 6) with z | z
      · exact absurd ((gt_e (by omega) hLL).mpr z) c1
      · exact z
    refine lv_aload_n hx hb dL_law_27 rfl (lv_at hl 3 rfl) ?_
    refine lv_iload_n hx hb dL_law_28 rfl (lv_at hl 0 rfl) ?_
    refine lw_sld hx hb hX hbl hbA hS (show i < LL by omega) hLL dL_law_29 ?_
    refine lv_bipush (v := nI 31) hx hb dL_law_30 (by decide) ?_
    refine lv_iand hx hb dL_law_32 ?_
    have hk : lwK p l e s m below meth c Q E A b9 i cells slots xo r rc r2 rc2 r3 rc3 d ch nu y q w q2 w2 mo st sp th so sv pd mu := by
      intro sf f fb ft L a b le co mi t u o z h sl ln sn ta sg g gp gh gs gv gt gu h9 H locs hP hS ls hl
      refine rn_inc (a := i) (d := 6) (lv' := [(3, .int (nI (i + 6))), (2, .ref mo), (1, .ref xo), (0, .ref b9)]) hx hb dL_law_1008 hl (k := 0) rfl (by decide) (by decide) rfl (fun ls hl => ?_)
      refine lv_goto (tgt := 18) hx hb dL_law_1011 (by decide) ?_
      exact ih (i + 6) (by omega) (by omega) sf f fb ft L a b le co mi t u o z h sl ln sn ta sg g gp gh gs gv gt gu h9 H locs hP hS ls hl
    by_cases h_0 : xs i &&& nI 31 = nI 0
    · refine lv_tableIn (tgt := 168) hx hb dL_law_33 (by rw [h_0]; decide) (by rw [h_0]; decide) (by rw [h_0]; rfl) (by decide) ?_
      exact lw_c0 S hE hA hcs hX hbl hbA hLL hDa hi hk sf f fb ft L a b le co mi t u o z h sl ln sn ta sg g gp gh gs gv gt gu h9 H locs hP hS ls hl
    by_cases h_1 : xs i &&& nI 31 = nI 1
    · refine lv_tableIn (tgt := 201) hx hb dL_law_33 (by rw [h_1]; decide) (by rw [h_1]; decide) (by rw [h_1]; rfl) (by decide) ?_
      exact lw_c1 S hE hA hcs hX hbl hbA hLL hDa hi hk sf f fb ft L a b le co mi t u o z h sl ln sn ta sg g gp gh gs gv gt gu h9 H locs hP hS ls hl
    by_cases h_2 : xs i &&& nI 31 = nI 2
    · refine lv_tableIn (tgt := 264) hx hb dL_law_33 (by rw [h_2]; decide) (by rw [h_2]; decide) (by rw [h_2]; rfl) (by decide) ?_
      exact lw_c2 S hE hA hcs hX hbl hbA hLL hDa hi hk sf f fb ft L a b le co mi t u o z h sl ln sn ta sg g gp gh gs gv gt gu h9 H locs hP hS ls hl
    by_cases h_3 : xs i &&& nI 31 = nI 3
    · refine lv_tableIn (tgt := 287) hx hb dL_law_33 (by rw [h_3]; decide) (by rw [h_3]; decide) (by rw [h_3]; rfl) (by decide) ?_
      exact lw_c3 S hE hA hcs hX hbl hbA hLL hDa hi hk sf f fb ft L a b le co mi t u o z h sl ln sn ta sg g gp gh gs gv gt gu h9 H locs hP hS ls hl
    by_cases h_4 : xs i &&& nI 31 = nI 4
    · refine lv_tableIn (tgt := 330) hx hb dL_law_33 (by rw [h_4]; decide) (by rw [h_4]; decide) (by rw [h_4]; rfl) (by decide) ?_
      exact lw_c4 S hE hA hcs hX hbl hbA hLL hDa hi hk sf f fb ft L a b le co mi t u o z h sl ln sn ta sg g gp gh gs gv gt gu h9 H locs hP hS ls hl
    by_cases h_5 : xs i &&& nI 31 = nI 5
    · refine lv_tableIn (tgt := 373) hx hb dL_law_33 (by rw [h_5]; decide) (by rw [h_5]; decide) (by rw [h_5]; rfl) (by decide) ?_
      exact lw_c5 S hE hA hcs hX hbl hbA hLL hDa hi hk sf f fb ft L a b le co mi t u o z h sl ln sn ta sg g gp gh gs gv gt gu h9 H locs hP hS ls hl
    by_cases h_6 : xs i &&& nI 31 = nI 6
    · refine lv_tableIn (tgt := 406) hx hb dL_law_33 (by rw [h_6]; decide) (by rw [h_6]; decide) (by rw [h_6]; rfl) (by decide) ?_
      exact lw_c6 S hE hA hcs hX hbl hbA hLL hDa hi hk sf f fb ft L a b le co mi t u o z h sl ln sn ta sg g gp gh gs gv gt gu h9 H locs hP hS ls hl
    by_cases h_7 : xs i &&& nI 31 = nI 7
    · refine lv_tableIn (tgt := 439) hx hb dL_law_33 (by rw [h_7]; decide) (by rw [h_7]; decide) (by rw [h_7]; rfl) (by decide) ?_
      exact lw_c7 S hE hA hcs hX hbl hbA hLL hDa hi hk sf f fb ft L a b le co mi t u o z h sl ln sn ta sg g gp gh gs gv gt gu h9 H locs hP hS ls hl
    by_cases h_8 : xs i &&& nI 31 = nI 8
    · refine lv_tableIn (tgt := 462) hx hb dL_law_33 (by rw [h_8]; decide) (by rw [h_8]; decide) (by rw [h_8]; rfl) (by decide) ?_
      exact lw_c8 S hE hA hcs hX hbl hbA hLL hDa hi hk sf f fb ft L a b le co mi t u o z h sl ln sn ta sg g gp gh gs gv gt gu h9 H locs hP hS ls hl
    by_cases h_9 : xs i &&& nI 31 = nI 9
    · refine lv_tableIn (tgt := 475) hx hb dL_law_33 (by rw [h_9]; decide) (by rw [h_9]; decide) (by rw [h_9]; rfl) (by decide) ?_
      exact lw_c9 S hE hA hcs hX hbl hbA hLL hDa hi hk sf f fb ft L a b le co mi t u o z h sl ln sn ta sg g gp gh gs gv gt gu h9 H locs hP hS ls hl
    by_cases h_10 : xs i &&& nI 31 = nI 10
    · refine lv_tableIn (tgt := 498) hx hb dL_law_33 (by rw [h_10]; decide) (by rw [h_10]; decide) (by rw [h_10]; rfl) (by decide) ?_
      exact lw_c10 S hE hA hcs hX hbl hbA hLL hDa hi hk sf f fb ft L a b le co mi t u o z h sl ln sn ta sg g gp gh gs gv gt gu h9 H locs hP hS ls hl
    by_cases h_11 : xs i &&& nI 31 = nI 11
    · refine lv_tableIn (tgt := 511) hx hb dL_law_33 (by rw [h_11]; decide) (by rw [h_11]; decide) (by rw [h_11]; rfl) (by decide) ?_
      exact lw_c11 S hE hA hcs hX hbl hbA hLL hDa hi hk sf f fb ft L a b le co mi t u o z h sl ln sn ta sg g gp gh gs gv gt gu h9 H locs hP hS ls hl
    by_cases h_12 : xs i &&& nI 31 = nI 12
    · refine lv_tableIn (tgt := 524) hx hb dL_law_33 (by rw [h_12]; decide) (by rw [h_12]; decide) (by rw [h_12]; rfl) (by decide) ?_
      exact lw_c12 S hE hA hcs hX hbl hbA hLL hDa hi hk sf f fb ft L a b le co mi t u o z h sl ln sn ta sg g gp gh gs gv gt gu h9 H locs hP hS ls hl
    by_cases h_13 : xs i &&& nI 31 = nI 13
    · refine lv_tableIn (tgt := 557) hx hb dL_law_33 (by rw [h_13]; decide) (by rw [h_13]; decide) (by rw [h_13]; rfl) (by decide) ?_
      exact lw_c13 S hE hA hcs hX hbl hbA hLL hDa hi hk sf f fb ft L a b le co mi t u o z h sl ln sn ta sg g gp gh gs gv gt gu h9 H locs hP hS ls hl
    by_cases h_14 : xs i &&& nI 31 = nI 14
    · refine lv_tableIn (tgt := 580) hx hb dL_law_33 (by rw [h_14]; decide) (by rw [h_14]; decide) (by rw [h_14]; rfl) (by decide) ?_
      exact lw_c14 S hE hA hcs hX hbl hbA hLL hDa hi hk sf f fb ft L a b le co mi t u o z h sl ln sn ta sg g gp gh gs gv gt gu h9 H locs hP hS ls hl
    by_cases h_15 : xs i &&& nI 31 = nI 15
    · refine lv_tableIn (tgt := 613) hx hb dL_law_33 (by rw [h_15]; decide) (by rw [h_15]; decide) (by rw [h_15]; rfl) (by decide) ?_
      exact lw_c15 S hE hA hcs hX hbl hbA hLL hDa hi hk sf f fb ft L a b le co mi t u o z h sl ln sn ta sg g gp gh gs gv gt gu h9 H locs hP hS ls hl
    by_cases h_16 : xs i &&& nI 31 = nI 16
    · refine lv_tableIn (tgt := 656) hx hb dL_law_33 (by rw [h_16]; decide) (by rw [h_16]; decide) (by rw [h_16]; rfl) (by decide) ?_
      exact lw_c16 S hE hA hcs hX hbl hbA hLL hDa hi hk sf f fb ft L a b le co mi t u o z h sl ln sn ta sg g gp gh gs gv gt gu h9 H locs hP hS ls hl
    by_cases h_17 : xs i &&& nI 31 = nI 17
    · refine lv_tableIn (tgt := 689) hx hb dL_law_33 (by rw [h_17]; decide) (by rw [h_17]; decide) (by rw [h_17]; rfl) (by decide) ?_
      exact lw_c17 S hE hA hcs hX hbl hbA hLL hDa hi hk sf f fb ft L a b le co mi t u o z h sl ln sn ta sg g gp gh gs gv gt gu h9 H locs hP hS ls hl
    by_cases h_18 : xs i &&& nI 31 = nI 18
    · refine lv_tableIn (tgt := 712) hx hb dL_law_33 (by rw [h_18]; decide) (by rw [h_18]; decide) (by rw [h_18]; rfl) (by decide) ?_
      exact lw_c18 S hE hA hcs hX hbl hbA hLL hDa hi hk sf f fb ft L a b le co mi t u o z h sl ln sn ta sg g gp gh gs gv gt gu h9 H locs hP hS ls hl
    by_cases h_19 : xs i &&& nI 31 = nI 19
    · refine lv_tableIn (tgt := 745) hx hb dL_law_33 (by rw [h_19]; decide) (by rw [h_19]; decide) (by rw [h_19]; rfl) (by decide) ?_
      exact lw_c19 S hE hA hcs hX hbl hbA hLL hDa hi hk sf f fb ft L a b le co mi t u o z h sl ln sn ta sg g gp gh gs gv gt gu h9 H locs hP hS ls hl
    by_cases h_20 : xs i &&& nI 31 = nI 20
    · refine lv_tableIn (tgt := 788) hx hb dL_law_33 (by rw [h_20]; decide) (by rw [h_20]; decide) (by rw [h_20]; rfl) (by decide) ?_
      exact lw_c20 S hE hA hcs hX hbl hbA hLL hDa hi hk sf f fb ft L a b le co mi t u o z h sl ln sn ta sg g gp gh gs gv gt gu h9 H locs hP hS ls hl
    by_cases h_21 : xs i &&& nI 31 = nI 21
    · refine lv_tableIn (tgt := 811) hx hb dL_law_33 (by rw [h_21]; decide) (by rw [h_21]; decide) (by rw [h_21]; rfl) (by decide) ?_
      exact lw_c21 S hE hA hcs hX hbl hbA hLL hDa hi hk sf f fb ft L a b le co mi t u o z h sl ln sn ta sg g gp gh gs gv gt gu h9 H locs hP hS ls hl
    by_cases h_22 : xs i &&& nI 31 = nI 22
    · refine lv_tableIn (tgt := 844) hx hb dL_law_33 (by rw [h_22]; decide) (by rw [h_22]; decide) (by rw [h_22]; rfl) (by decide) ?_
      exact lw_c22 S hE hA hcs hX hbl hbA hLL hDa hi hk sf f fb ft L a b le co mi t u o z h sl ln sn ta sg g gp gh gs gv gt gu h9 H locs hP hS ls hl
    by_cases h_23 : xs i &&& nI 31 = nI 23
    · refine lv_tableIn (tgt := 857) hx hb dL_law_33 (by rw [h_23]; decide) (by rw [h_23]; decide) (by rw [h_23]; rfl) (by decide) ?_
      exact lw_c23 S hE hA hcs hX hbl hbA hLL hDa hi hk sf f fb ft L a b le co mi t u o z h sl ln sn ta sg g gp gh gs gv gt gu h9 H locs hP hS ls hl
    by_cases h_24 : xs i &&& nI 31 = nI 24
    · refine lv_tableIn (tgt := 910) hx hb dL_law_33 (by rw [h_24]; decide) (by rw [h_24]; decide) (by rw [h_24]; rfl) (by decide) ?_
      exact lw_c24 S hE hA hcs hX hbl hbA hLL hDa hi hk sf f fb ft L a b le co mi t u o z h sl ln sn ta sg g gp gh gs gv gt gu h9 H locs hP hS ls hl
    by_cases h_25 : xs i &&& nI 31 = nI 25
    · refine lv_tableIn (tgt := 923) hx hb dL_law_33 (by rw [h_25]; decide) (by rw [h_25]; decide) (by rw [h_25]; rfl) (by decide) ?_
      exact lw_c25 S hE hA hcs hX hbl hbA hLL hDa hi hk sf f fb ft L a b le co mi t u o z h sl ln sn ta sg g gp gh gs gv gt gu h9 H locs hP hS ls hl
    by_cases h_26 : xs i &&& nI 31 = nI 26
    · refine lv_tableIn (tgt := 936) hx hb dL_law_33 (by rw [h_26]; decide) (by rw [h_26]; decide) (by rw [h_26]; rfl) (by decide) ?_
      exact lw_c26 S hE hA hcs hX hbl hbA hLL hDa hi hk sf f fb ft L a b le co mi t u o z h sl ln sn ta sg g gp gh gs gv gt gu h9 H locs hP hS ls hl
    by_cases h_27 : xs i &&& nI 31 = nI 27
    · refine lv_tableIn (tgt := 949) hx hb dL_law_33 (by rw [h_27]; decide) (by rw [h_27]; decide) (by rw [h_27]; rfl) (by decide) ?_
      exact lw_c27 S hE hA hcs hX hbl hbA hLL hDa hi hk sf f fb ft L a b le co mi t u o z h sl ln sn ta sg g gp gh gs gv gt gu h9 H locs hP hS ls hl
    by_cases h_28 : xs i &&& nI 31 = nI 28
    · refine lv_tableIn (tgt := 962) hx hb dL_law_33 (by rw [h_28]; decide) (by rw [h_28]; decide) (by rw [h_28]; rfl) (by decide) ?_
      exact lw_c28 S hE hA hcs hX hbl hbA hLL hDa hi hk sf f fb ft L a b le co mi t u o z h sl ln sn ta sg g gp gh gs gv gt gu h9 H locs hP hS ls hl
    by_cases h_29 : xs i &&& nI 31 = nI 29
    · refine lv_tableIn (tgt := 985) hx hb dL_law_33 (by rw [h_29]; decide) (by rw [h_29]; decide) (by rw [h_29]; rfl) (by decide) ?_
      exact lw_c29 S hE hA hcs hX hbl hbA hLL hDa hi hk sf f fb ft L a b le co mi t u o z h sl ln sn ta sg g gp gh gs gv gt gu h9 H locs hP hS ls hl
    refine lv_tableOut (tgt := 1008) hx hb dL_law_33 (sw_out (lo := 0) (n := 30) ((lt_s (lt_s (lt_s (lt_s (lt_s (lt_s (lt_s (lt_s (lt_s (lt_s (lt_s (lt_s (lt_s (lt_s (lt_s (lt_s (lt_s (lt_s (lt_s (lt_s (lt_s (lt_s (lt_s (lt_s (lt_s (lt_s (lt_s (lt_s (lt_s (lt_s lt_0 h_0) h_1) h_2) h_3) h_4) h_5) h_6) h_7) h_8) h_9) h_10) h_11) h_12) h_13) h_14) h_15) h_16) h_17) h_18) h_19) h_20) h_21) h_22) h_23) h_24) h_25) h_26) h_27) h_28) h_29 : ∀ a, a < 30 → (fun a => ¬ xs i &&& nI 31 = nI (0 + a)) a))) (by decide) ?_
    exact hk sf f fb ft L a b le co mi t u o z h sl ln sn ta sg g gp gh gs gv gt gu h9 H locs hP hS ls hl
end LOOP
