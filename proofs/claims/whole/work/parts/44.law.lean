/-! the law's body: its cases -/
def LSt (f g : Nat → Int32) (o z : Nat) (h : Nat → Int32) (sn : Nat) (gh : Nat → Int32) (sf : Int32) (sl gs gv : Nat → Int32) (L : Nat) (t gt : Nat → Int32) (ln : Nat) (mi : Int32) : Prop :=
  Ok f g ∧ Hist o z h sn gh ∧ Slots sf sl gs gv ∧ TX L t gt ∧ ln = L ∧ bz mi
theorem R_st {n : Nat} {f g : Nat → Int32} (h : Rel n f g) : ¬ g 0 = 0 := by
  intro z
  have := (R_0 h).1
  rw [z, i32_z] at this; omega
theorem rcN_2 (sn : Nat) : rcN (-2) sn = sn := if_pos (by decide)
theorem rcN_1 (sn : Nat) : rcN (-1) sn = sn := if_pos (by decide)
theorem rcH_2 (sn : Nat) (gp gh : Nat → Int32) : rcH (-2) sn gp gh = gh := if_pos (by decide)
theorem rcH_1 (sn : Nat) (gp gh : Nat → Int32) : rcH (-1) sn gp gh = gh := if_pos (by decide)
theorem mSe_N (sn : Nat) (g gp gh : Nat → Int32) (x y : Int32) : mSeN sn g gp gh x y = rcN (mSeV sn g gp gh x y) sn ∧ mSeH sn g gp gh x y = rcH (mSeV sn g gp gh x y) sn (va_cpy g gp 0 0 293) gh := by
  unfold mSeN mSeV mSeH
  (repeat' split) <;> exact ⟨by first | rfl | exact (rcN_2 _).symm, by first | rfl | exact (rcH_2 _ _ _).symm⟩
theorem mTo_N (sn : Nat) (g gp gh : Nat → Int32) (n : Nat) (x : Int32) : mToN sn g gp gh n x = rcN (mToV sn g gp gh n x) sn ∧ mToH sn g gp gh n x = rcH (mToV sn g gp gh n x) sn (va_cpy g gp 0 0 293) gh := by
  unfold mToN mToV mToH
  (repeat' split) <;> exact ⟨by first | rfl | exact (rcN_1 _).symm, by first | rfl | exact (rcH_1 _ _ _).symm⟩
theorem mTr_N (sn : Nat) (g gp gh : Nat → Int32) (x y : Int32) : mTrN sn g gp gh x y = rcN (mTrV sn g gp gh x y) sn ∧ mTrH sn g gp gh x y = rcH (mTrV sn g gp gh x y) sn (va_cpy g gp 0 0 293) gh := by
  unfold mTrN mTrV mTrH
  (repeat' split) <;> exact ⟨by first | rfl | exact (rcN_2 _).symm, by first | rfl | exact (rcH_2 _ _ _).symm⟩
theorem mLp_N (sn : Nat) (g gp gh : Nat → Int32) (x : Int32) : mLpN sn g gp gh x = rcN (mLpV sn g gp gh x) sn ∧ mLpH sn g gp gh x = rcH (mLpV sn g gp gh x) sn (va_cpy g gp 0 0 293) gh := by
  unfold mLpN mLpV mLpH
  (repeat' split) <;> exact ⟨by first | rfl | exact (rcN_2 _).symm, by first | rfl | exact (rcH_2 _ _ _).symm⟩
theorem coP_bz {t : Nat → Int32} {L : Nat} {σ : SX} {f : Nat → Int32} (k1 : ∀ k, bz (foX t L σ k).2.2.2.2.2.1) (k2 : ∀ k, bz (foS t L σ k).2.2.2.2.1) : bz (coP t L σ f).2.2.2.2.1 := by
  unfold coP
  by_cases c : coN t L σ f < 80
  · rw [if_pos c]; exact k1 (coN t L σ f)
  · rw [if_neg c]; exact k2 80
theorem foS_bz {t : Nat → Int32} {L : Nat} {σ : SX} {f : Nat → Int32} (h : bz σ.2.2.2.2.1) : bz (crP t L σ f).2.2.2.2.1 := by
  have h0 : bz (ftS t L σ).2.2.2.2.1 := ftS_z h
  have h1 : bz (crS t L σ).2.2.2.2.1 := by
    unfold crS
    dsimp only
    exact h0
  unfold crP
  by_cases c : ftV t L σ = -6
  · rw [if_pos c]; exact coP_bz (fun k => foX_z h1 k) (fun k => foS_z h1 k)
  · rw [if_neg c]; exact h0
theorem lw_sld {p : Program} {l : Launch} {e : Env} {R : Room} {s : State} {m : MethodId} {args : Array Value} {below : List Frame} {meth : Method} {c : Code} {H : Heap} {locs : List Loc} {cells slots : Nat} {Q : State → Prop} {cc : ByteArray} {pc : Nat} {ls : Array Slot} {rest : List Value} {A : Nat → Prop}
    (hx : p.tables.exec = Jvm.exec) (hb : c.code = cc) {b LL : Nat} {xs : Nat → Int32} (hX : va_X b LL xs s s.heap) (hbl : b < s.heap.size) (hbA : ¬ A b) (hS : va_S A s.heap H locs) {k : Nat} (hk : k < LL) (hL : LL ≤ 3072) (hdg : decode cc pc = .ok (.iaload, 1))
    (kk : W p l e R s m args below meth c H locs cells slots Q (F0 m (pc + 1) ls (.int (xs k) :: rest))) : W p l e R s m args below meth c H locs cells slots Q (F0 m pc ls (.int (nI k) :: .ref b :: rest)) :=
  va_sld hx hb hX hbl hbA hS (vp_in_nI hk (by omega)) hdg (by rw [nI_clamp (by omega)]; exact kk)
section LAW
variable {p : Program} {l : Launch} {e : Env} {s : State} {m : MethodId} {below : List Frame} {meth : Method} {c : Code} {Q : State → Prop} {E : EV} {A : Nat → Prop} {b9 LL i : Nat} {xs : Nat → Int32} {cells slots : Nat}
variable {xo r rc r2 rc2 r3 rc3 d ch nu y q w q2 w2 mo st sp th so sv pd mu : Nat}
/-- what goes on behind a case -/
def lwK (p : Program) (l : Launch) (e : Env) (s : State) (m : MethodId) (below : List Frame) (meth : Method) (c : Code) (Q : State → Prop) (E : EV) (A : Nat → Prop) (b9 i cells slots : Nat) (xo r rc r2 rc2 r3 rc3 d ch nu y q w q2 w2 mo st sp th so sv pd mu : Nat) : Prop :=
  ∀ (sf : Int32) (f : Nat → Int32) (fb : Nat → Int32) (ft : Nat → Int32) (L : Nat) (a : Int32) (b : Int32) (le : Int32) (co : Int32) (mi : Int32) (t : Nat → Int32) (u : Nat → Int32) (o : Nat) (z : Nat) (h : Nat → Int32) (sl : Nat → Int32) (ln : Nat) (sn : Nat) (ta : Nat) (sg : Int32) (g : Nat → Int32) (gp : Nat → Int32) (gh : Nat → Int32) (gs : Nat → Int32) (gv : Nat → Int32) (gt : Nat → Int32) (gu : Nat → Int32), LSt f g o z h sn gh sf sl gs gv L t gt ln mi → ∀ (H : Heap) (locs : List Loc), va_P E.1 vwCl [(xo, .inr (4, [.ref r, .ref r2, .ref r3, .ref d, .ref y, .ref q2, .int sf])), (r, .inr (2, [.ref rc])), (rc, .inl (E.2.1, 293, .inl f)), (r2, .inr (2, [.ref rc2])), (rc2, .inl (E.2.1, 293, .inl fb)), (r3, .inr (2, [.ref rc3])), (rc3, .inl (E.2.1, 293, .inl ft)), (d, .inr (1, [.ref ch, .ref nu, .int (nI L), .int a, .int b, .int le, .int co, .int mi])), (ch, .inl (E.2.2.1, 80, .inl t)), (nu, .inl (E.2.1, 4, .inl u)), (y, .inr (0, [.ref q, .int (nI o), .int (nI z)])), (q, .inr (3, [.ref w])), (w, .inl (E.2.1, 1758, .inl h)), (q2, .inr (3, [.ref w2])), (w2, .inl (E.2.1, 586, .inl sl)), (mo, .inr (5, [.ref st, .ref sp, .ref th, .int (nI sn), .ref so, .ref sv, .ref pd, .int (nI ln), .int (nI ta), .int sg, .ref mu])), (st, .inl (E.2.1, 293, .inl g)), (sp, .inl (E.2.1, 293, .inl gp)), (th, .inl (E.2.1, 1758, .inl gh)), (so, .inl (E.2.1, 586, .inl gs)), (sv, .inl (E.2.1, 2, .inl gv)), (pd, .inl (E.2.1, 80, .inl gt)), (mu, .inl (E.2.1, 4, .inl gu))] H → va_S A s.heap H locs → ∀ ls : Array Slot, lv_has ls 4 [(3, .int (nI i)), (2, .ref mo), (1, .ref xo), (0, .ref b9)] → W p l e room_1 s m #[Value.ref b9] below meth c H locs cells slots Q (F0 m 1008 ls [])
set_option maxHeartbeats 4000000 in
set_option maxRecDepth 100000 in
theorem lw_c0 (S : CallFix p m c code 4 s #[Value.ref b9] bw RL) (hE : en E A s s.heap) (hA : ∀ q, s.heap.size ≤ q → A q) (hcs : cells ≤ room_1.cells ∧ slots ≤ room_1.slots) (hX : va_X b9 LL xs s s.heap) (hbl : b9 < s.heap.size) (hbA : ¬ A b9) (hLL : LL ≤ 3072) (hDa : va_Da A [xo, r, rc, r2, rc2, r3, rc3, d, ch, nu, y, q, w, q2, w2, mo, st, sp, th, so, sv, pd, mu]) (hi : i + 6 ≤ LL) (hk : lwK p l e s m below meth c Q E A b9 i cells slots xo r rc r2 rc2 r3 rc3 d ch nu y q w q2 w2 mo st sp th so sv pd mu) (sf : Int32) (f : Nat → Int32) (fb : Nat → Int32) (ft : Nat → Int32) (L : Nat) (a : Int32) (b : Int32) (le : Int32) (co : Int32) (mi : Int32) (t : Nat → Int32) (u : Nat → Int32) (o : Nat) (z : Nat) (h : Nat → Int32) (sl : Nat → Int32) (ln : Nat) (sn : Nat) (ta : Nat) (sg : Int32) (g : Nat → Int32) (gp : Nat → Int32) (gh : Nat → Int32) (gs : Nat → Int32) (gv : Nat → Int32) (gt : Nat → Int32) (gu : Nat → Int32) (h9 : LSt f g o z h sn gh sf sl gs gv L t gt ln mi) (H : Heap) (locs : List Loc) (hP : va_P E.1 vwCl [(xo, .inr (4, [.ref r, .ref r2, .ref r3, .ref d, .ref y, .ref q2, .int sf])), (r, .inr (2, [.ref rc])), (rc, .inl (E.2.1, 293, .inl f)), (r2, .inr (2, [.ref rc2])), (rc2, .inl (E.2.1, 293, .inl fb)), (r3, .inr (2, [.ref rc3])), (rc3, .inl (E.2.1, 293, .inl ft)), (d, .inr (1, [.ref ch, .ref nu, .int (nI L), .int a, .int b, .int le, .int co, .int mi])), (ch, .inl (E.2.2.1, 80, .inl t)), (nu, .inl (E.2.1, 4, .inl u)), (y, .inr (0, [.ref q, .int (nI o), .int (nI z)])), (q, .inr (3, [.ref w])), (w, .inl (E.2.1, 1758, .inl h)), (q2, .inr (3, [.ref w2])), (w2, .inl (E.2.1, 586, .inl sl)), (mo, .inr (5, [.ref st, .ref sp, .ref th, .int (nI sn), .ref so, .ref sv, .ref pd, .int (nI ln), .int (nI ta), .int sg, .ref mu])), (st, .inl (E.2.1, 293, .inl g)), (sp, .inl (E.2.1, 293, .inl gp)), (th, .inl (E.2.1, 1758, .inl gh)), (so, .inl (E.2.1, 586, .inl gs)), (sv, .inl (E.2.1, 2, .inl gv)), (pd, .inl (E.2.1, 80, .inl gt)), (mu, .inl (E.2.1, 4, .inl gu))] H) (hS : va_S A s.heap H locs) (ls : Array Slot) (hl : lv_has ls 4 [(3, .int (nI i)), (2, .ref mo), (1, .ref xo), (0, .ref b9)]) : W p l e room_1 s m #[Value.ref b9] below meth c H locs cells slots Q (F0 m 168 ls []) := by
  have hx := S.1
  have hb := S.2.1
  have hown := S.2.2.2.1
  have hts := S.2.2.2.2
  have hK := hE.1
  obtain ⟨⟨n, hR, hAg⟩, hH, hSl, hT, hln, hmi⟩ := h9
  have hln := hln.symm
  subst hln
  have hsn := hH.2.2.1.symm
  subst hsn
  have hf := R_12 hR
  have hf2 := R_4 hR
  have hn := R_n hR
  have hst := R_st hR
  have ho := hH.1
  have hz := hH.2.1
  have hL := hT.1
  refine lv_aload_n hx hb dL_law_168 rfl (lv_at hl 2 rfl) ?_
  refine lv_aload_n hx hb dL_law_169 rfl (lv_at hl 3 rfl) ?_
  refine lv_iload_n hx hb dL_law_170 rfl (lv_at hl 0 rfl) ?_
  refine lv_iconst (v := nI 1) hx hb dL_law_171 (by decide) ?_
  refine rn_add (a := i) (b := 1) hx hb dL_law_172 ?_
  refine lw_sld hx hb hX hbl hbA hS (show i + 1 < LL by omega) hLL dL_law_173 ?_
  refine lv_aload_n hx hb dL_law_174 rfl (lv_at hl 3 rfl) ?_
  refine lv_iload_n hx hb dL_law_175 rfl (lv_at hl 0 rfl) ?_
  refine lv_iconst (v := nI 2) hx hb dL_law_176 (by decide) ?_
  refine rn_add (a := i) (b := 2) hx hb dL_law_177 ?_
  refine lw_sld hx hb hX hbl hbA hS (show i + 2 < LL by omega) hLL dL_law_178 ?_
  refine rwV2 (rest := []) S (c_X7_set l E xo r r2 r3 d y q2 sf rc f rc2 fb q w o z h (xs (i + 1)) (xs (i + 2)) (by omega) (by omega)) cd_X7_set bw_182 ⟨Nat.le_of_ble_eq_true rfl, Nat.le_of_ble_eq_true rfl⟩ hcs hP (hDa.to rfl) hE hA hS [0, 1, 2, 3, 4, 10, 11, 12] rfl rfl [xo, r, rc, r2, rc2, y, q, w] rfl rfl (ci := 4) rfl (q0 := 0) rfl (Nat.le_of_ble_eq_true rfl) hl.1 dL_law_179 (fun H locs hP _ hS => ?_)
  have hP : va_P E.1 vwCl [(xo, .inr (4, [.ref r, .ref r2, .ref r3, .ref d, .ref y, .ref q2, .int sf])), (r, .inr (2, [.ref rc])), (rc, .inl (E.2.1, 293, .inl (cSw f (xs (i + 1)) (xs (i + 2))))), (r2, .inr (2, [.ref rc2])), (rc2, .inl (E.2.1, 293, .inl (cp293 f fb))), (r3, .inr (2, [.ref rc3])), (rc3, .inl (E.2.1, 293, .inl ft)), (d, .inr (1, [.ref ch, .ref nu, .int (nI L), .int a, .int b, .int le, .int co, .int mi])), (ch, .inl (E.2.2.1, 80, .inl t)), (nu, .inl (E.2.1, 4, .inl u)), (y, .inr (0, [.ref q, .int (nI (recO (cSv f (xs (i + 1)) (xs (i + 2))) o z)), .int (nI (recZ (cSv f (xs (i + 1)) (xs (i + 2))) z))])), (q, .inr (3, [.ref w])), (w, .inl (E.2.1, 1758, .inl (recH (cSv f (xs (i + 1)) (xs (i + 2))) (cp293 f fb) h o z))), (q2, .inr (3, [.ref w2])), (w2, .inl (E.2.1, 586, .inl sl)), (mo, .inr (5, [.ref st, .ref sp, .ref th, .int (nI z), .ref so, .ref sv, .ref pd, .int (nI L), .int (nI ta), .int sg, .ref mu])), (st, .inl (E.2.1, 293, .inl g)), (sp, .inl (E.2.1, 293, .inl gp)), (th, .inl (E.2.1, 1758, .inl gh)), (so, .inl (E.2.1, 586, .inl gs)), (sv, .inl (E.2.1, 2, .inl gv)), (pd, .inl (E.2.1, 80, .inl gt)), (mu, .inl (E.2.1, 4, .inl gu))] H := hP
  refine lv_aload_n hx hb dL_law_182 rfl (lv_at hl 1 rfl) ?_
  refine lv_aload_n hx hb dL_law_183 rfl (lv_at hl 3 rfl) ?_
  refine lv_iload_n hx hb dL_law_184 rfl (lv_at hl 0 rfl) ?_
  refine lv_iconst (v := nI 1) hx hb dL_law_185 (by decide) ?_
  refine rn_add (a := i) (b := 1) hx hb dL_law_186 ?_
  refine lw_sld hx hb hX hbl hbA hS (show i + 1 < LL by omega) hLL dL_law_187 ?_
  refine lv_aload_n hx hb dL_law_188 rfl (lv_at hl 3 rfl) ?_
  refine lv_iload_n hx hb dL_law_189 rfl (lv_at hl 0 rfl) ?_
  refine lv_iconst (v := nI 2) hx hb dL_law_190 (by decide) ?_
  refine rn_add (a := i) (b := 2) hx hb dL_law_191 ?_
  refine lw_sld hx hb hX hbl hbA hS (show i + 2 < LL by omega) hLL dL_law_192 ?_
  refine rwV2 (rest := [.int (cSv f (xs (i + 1)) (xs (i + 2)))]) S (c_X8_set l E mo st sp th so sv pd mu z L ta sg g gp gh (xs (i + 1)) (xs (i + 2)) (by omega)) cd_X8_set bw_770 ⟨Nat.le_of_ble_eq_true rfl, Nat.le_of_ble_eq_true rfl⟩ hcs hP (hDa.to rfl) hE hA hS [15, 16, 17, 18] rfl rfl [mo, st, sp, th] rfl rfl (ci := 5) rfl (q0 := 0) rfl (Nat.le_of_ble_eq_true rfl) hl.1 dL_law_193 (fun H locs hP _ hS => ?_)
  have hP : va_P E.1 vwCl [(xo, .inr (4, [.ref r, .ref r2, .ref r3, .ref d, .ref y, .ref q2, .int sf])), (r, .inr (2, [.ref rc])), (rc, .inl (E.2.1, 293, .inl (cSw f (xs (i + 1)) (xs (i + 2))))), (r2, .inr (2, [.ref rc2])), (rc2, .inl (E.2.1, 293, .inl (cp293 f fb))), (r3, .inr (2, [.ref rc3])), (rc3, .inl (E.2.1, 293, .inl ft)), (d, .inr (1, [.ref ch, .ref nu, .int (nI L), .int a, .int b, .int le, .int co, .int mi])), (ch, .inl (E.2.2.1, 80, .inl t)), (nu, .inl (E.2.1, 4, .inl u)), (y, .inr (0, [.ref q, .int (nI (recO (cSv f (xs (i + 1)) (xs (i + 2))) o z)), .int (nI (recZ (cSv f (xs (i + 1)) (xs (i + 2))) z))])), (q, .inr (3, [.ref w])), (w, .inl (E.2.1, 1758, .inl (recH (cSv f (xs (i + 1)) (xs (i + 2))) (cp293 f fb) h o z))), (q2, .inr (3, [.ref w2])), (w2, .inl (E.2.1, 586, .inl sl)), (mo, .inr (5, [.ref st, .ref sp, .ref th, .int (nI (mSeN z g gp gh (xs (i + 1)) (xs (i + 2)))), .ref so, .ref sv, .ref pd, .int (nI L), .int (nI ta), .int sg, .ref mu])), (st, .inl (E.2.1, 293, .inl (mSeG z g gp gh (xs (i + 1)) (xs (i + 2))))), (sp, .inl (E.2.1, 293, .inl (mSeP z g gp gh (xs (i + 1)) (xs (i + 2))))), (th, .inl (E.2.1, 1758, .inl (mSeH z g gp gh (xs (i + 1)) (xs (i + 2))))), (so, .inl (E.2.1, 586, .inl gs)), (sv, .inl (E.2.1, 2, .inl gv)), (pd, .inl (E.2.1, 80, .inl gt)), (mu, .inl (E.2.1, 4, .inl gu))] H := hP
  obtain ⟨e9, hO9⟩ := C_se hR hAg z gp gh (xs (i + 1)) (xs (i + 2))
  obtain ⟨eN, eH⟩ := mSe_N z g gp gh (xs (i + 1)) (xs (i + 2))
  refine lv_icmp_eq (tgt := 1008) hx hb dL_law_196 (by decide) (fun _ => ?_) (fun c9 => absurd e9 c9)
  exact hk sf (cSw f (xs (i + 1)) (xs (i + 2))) (cp293 f fb) ft L a b le co mi t u (recO (cSv f (xs (i + 1)) (xs (i + 2))) o z) (recZ (cSv f (xs (i + 1)) (xs (i + 2))) z) (recH (cSv f (xs (i + 1)) (xs (i + 2))) (cp293 f fb) h o z) sl L (mSeN z g gp gh (xs (i + 1)) (xs (i + 2))) ta sg (mSeG z g gp gh (xs (i + 1)) (xs (i + 2))) (mSeP z g gp gh (xs (i + 1)) (xs (i + 2))) (mSeH z g gp gh (xs (i + 1)) (xs (i + 2))) gs gv gt gu ⟨hO9, (by rw [eN, eH, ← e9]; exact Hist_ch fb gp hH ⟨n, hR, hAg⟩), hSl, hT, rfl, hmi⟩ _ _ hP hS _ hl
set_option maxHeartbeats 4000000 in
set_option maxRecDepth 100000 in
theorem lw_c1 (S : CallFix p m c code 4 s #[Value.ref b9] bw RL) (hE : en E A s s.heap) (hA : ∀ q, s.heap.size ≤ q → A q) (hcs : cells ≤ room_1.cells ∧ slots ≤ room_1.slots) (hX : va_X b9 LL xs s s.heap) (hbl : b9 < s.heap.size) (hbA : ¬ A b9) (hLL : LL ≤ 3072) (hDa : va_Da A [xo, r, rc, r2, rc2, r3, rc3, d, ch, nu, y, q, w, q2, w2, mo, st, sp, th, so, sv, pd, mu]) (hi : i + 6 ≤ LL) (hk : lwK p l e s m below meth c Q E A b9 i cells slots xo r rc r2 rc2 r3 rc3 d ch nu y q w q2 w2 mo st sp th so sv pd mu) (sf : Int32) (f : Nat → Int32) (fb : Nat → Int32) (ft : Nat → Int32) (L : Nat) (a : Int32) (b : Int32) (le : Int32) (co : Int32) (mi : Int32) (t : Nat → Int32) (u : Nat → Int32) (o : Nat) (z : Nat) (h : Nat → Int32) (sl : Nat → Int32) (ln : Nat) (sn : Nat) (ta : Nat) (sg : Int32) (g : Nat → Int32) (gp : Nat → Int32) (gh : Nat → Int32) (gs : Nat → Int32) (gv : Nat → Int32) (gt : Nat → Int32) (gu : Nat → Int32) (h9 : LSt f g o z h sn gh sf sl gs gv L t gt ln mi) (H : Heap) (locs : List Loc) (hP : va_P E.1 vwCl [(xo, .inr (4, [.ref r, .ref r2, .ref r3, .ref d, .ref y, .ref q2, .int sf])), (r, .inr (2, [.ref rc])), (rc, .inl (E.2.1, 293, .inl f)), (r2, .inr (2, [.ref rc2])), (rc2, .inl (E.2.1, 293, .inl fb)), (r3, .inr (2, [.ref rc3])), (rc3, .inl (E.2.1, 293, .inl ft)), (d, .inr (1, [.ref ch, .ref nu, .int (nI L), .int a, .int b, .int le, .int co, .int mi])), (ch, .inl (E.2.2.1, 80, .inl t)), (nu, .inl (E.2.1, 4, .inl u)), (y, .inr (0, [.ref q, .int (nI o), .int (nI z)])), (q, .inr (3, [.ref w])), (w, .inl (E.2.1, 1758, .inl h)), (q2, .inr (3, [.ref w2])), (w2, .inl (E.2.1, 586, .inl sl)), (mo, .inr (5, [.ref st, .ref sp, .ref th, .int (nI sn), .ref so, .ref sv, .ref pd, .int (nI ln), .int (nI ta), .int sg, .ref mu])), (st, .inl (E.2.1, 293, .inl g)), (sp, .inl (E.2.1, 293, .inl gp)), (th, .inl (E.2.1, 1758, .inl gh)), (so, .inl (E.2.1, 586, .inl gs)), (sv, .inl (E.2.1, 2, .inl gv)), (pd, .inl (E.2.1, 80, .inl gt)), (mu, .inl (E.2.1, 4, .inl gu))] H) (hS : va_S A s.heap H locs) (ls : Array Slot) (hl : lv_has ls 4 [(3, .int (nI i)), (2, .ref mo), (1, .ref xo), (0, .ref b9)]) : W p l e room_1 s m #[Value.ref b9] below meth c H locs cells slots Q (F0 m 201 ls []) := by
  have hx := S.1
  have hb := S.2.1
  have hown := S.2.2.2.1
  have hts := S.2.2.2.2
  have hK := hE.1
  obtain ⟨⟨n, hR, hAg⟩, hH, hSl, hT, hln, hmi⟩ := h9
  have hln := hln.symm
  subst hln
  have hsn := hH.2.2.1.symm
  subst hsn
  have hf := R_12 hR
  have hf2 := R_4 hR
  have hn := R_n hR
  have hst := R_st hR
  have ho := hH.1
  have hz := hH.2.1
  have hL := hT.1
  refine lv_aload_n hx hb dL_law_201 rfl (lv_at hl 2 rfl) ?_
  refine lv_aload_n hx hb dL_law_202 rfl (lv_at hl 3 rfl) ?_
  refine lv_iload_n hx hb dL_law_203 rfl (lv_at hl 0 rfl) ?_
  refine lv_iconst (v := nI 1) hx hb dL_law_204 (by decide) ?_
  refine rn_add (a := i) (b := 1) hx hb dL_law_205 ?_
  refine lw_sld hx hb hX hbl hbA hS (show i + 1 < LL by omega) hLL dL_law_206 ?_
  refine lv_aload_n hx hb dL_law_207 rfl (lv_at hl 3 rfl) ?_
  refine lv_iload_n hx hb dL_law_208 rfl (lv_at hl 0 rfl) ?_
  refine lv_iconst (v := nI 2) hx hb dL_law_209 (by decide) ?_
  refine rn_add (a := i) (b := 2) hx hb dL_law_210 ?_
  refine lw_sld hx hb hX hbl hbA hS (show i + 2 < LL by omega) hLL dL_law_211 ?_
  refine lv_aload_n hx hb dL_law_212 rfl (lv_at hl 3 rfl) ?_
  refine lv_iload_n hx hb dL_law_213 rfl (lv_at hl 0 rfl) ?_
  refine lv_iconst (v := nI 3) hx hb dL_law_214 (by decide) ?_
  refine rn_add (a := i) (b := 3) hx hb dL_law_215 ?_
  refine lw_sld hx hb hX hbl hbA hS (show i + 3 < LL by omega) hLL dL_law_216 ?_
  refine lv_aload_n hx hb dL_law_217 rfl (lv_at hl 3 rfl) ?_
  refine lv_iload_n hx hb dL_law_218 rfl (lv_at hl 0 rfl) ?_
  refine lv_iconst (v := nI 4) hx hb dL_law_219 (by decide) ?_
  refine rn_add (a := i) (b := 4) hx hb dL_law_220 ?_
  refine lw_sld hx hb hX hbl hbA hS (show i + 4 < LL by omega) hLL dL_law_221 ?_
  refine lv_aload_n hx hb dL_law_222 rfl (lv_at hl 3 rfl) ?_
  refine lv_iload_n hx hb dL_law_223 rfl (lv_at hl 0 rfl) ?_
  refine lv_iconst (v := nI 5) hx hb dL_law_224 (by decide) ?_
  refine rn_add (a := i) (b := 5) hx hb dL_law_225 ?_
  refine lw_sld hx hb hX hbl hbA hS (show i + 5 < LL by omega) hLL dL_law_226 ?_
  refine rwV5 (rest := []) S (c_X7_shot l E xo r r2 r3 d y q2 sf rc f rc2 fb q w o z h n (xs (i + 1)) (xs (i + 2)) (xs (i + 3)) (xs (i + 4)) (xs (i + 5)) hf (by omega) (by omega) (by omega)) cd_X7_shot bw_227 ⟨Nat.le_of_ble_eq_true rfl, Nat.le_of_ble_eq_true rfl⟩ hcs hP (hDa.to rfl) hE hA hS [0, 1, 2, 3, 4, 10, 11, 12] rfl rfl [xo, r, rc, r2, rc2, y, q, w] rfl rfl (ci := 4) rfl (q0 := 0) rfl (Nat.le_of_ble_eq_true rfl) hl.1 dL_law_227 (fun H locs hP _ hS => ?_)
  have hP : va_P E.1 vwCl [(xo, .inr (4, [.ref r, .ref r2, .ref r3, .ref d, .ref y, .ref q2, .int sf])), (r, .inr (2, [.ref rc])), (rc, .inl (E.2.1, 293, .inl (cAw f n (xs (i + 1)) (xs (i + 2)) (xs (i + 3)) (xs (i + 4)) (xs (i + 5))))), (r2, .inr (2, [.ref rc2])), (rc2, .inl (E.2.1, 293, .inl (cp293 f fb))), (r3, .inr (2, [.ref rc3])), (rc3, .inl (E.2.1, 293, .inl ft)), (d, .inr (1, [.ref ch, .ref nu, .int (nI L), .int a, .int b, .int le, .int co, .int mi])), (ch, .inl (E.2.2.1, 80, .inl t)), (nu, .inl (E.2.1, 4, .inl u)), (y, .inr (0, [.ref q, .int (nI (recO (cAv f n (xs (i + 1)) (xs (i + 2)) (xs (i + 3)) (xs (i + 4)) (xs (i + 5))) o z)), .int (nI (recZ (cAv f n (xs (i + 1)) (xs (i + 2)) (xs (i + 3)) (xs (i + 4)) (xs (i + 5))) z))])), (q, .inr (3, [.ref w])), (w, .inl (E.2.1, 1758, .inl (recH (cAv f n (xs (i + 1)) (xs (i + 2)) (xs (i + 3)) (xs (i + 4)) (xs (i + 5))) (cp293 f fb) h o z))), (q2, .inr (3, [.ref w2])), (w2, .inl (E.2.1, 586, .inl sl)), (mo, .inr (5, [.ref st, .ref sp, .ref th, .int (nI z), .ref so, .ref sv, .ref pd, .int (nI L), .int (nI ta), .int sg, .ref mu])), (st, .inl (E.2.1, 293, .inl g)), (sp, .inl (E.2.1, 293, .inl gp)), (th, .inl (E.2.1, 1758, .inl gh)), (so, .inl (E.2.1, 586, .inl gs)), (sv, .inl (E.2.1, 2, .inl gv)), (pd, .inl (E.2.1, 80, .inl gt)), (mu, .inl (E.2.1, 4, .inl gu))] H := hP
  refine lv_aload_n hx hb dL_law_230 rfl (lv_at hl 1 rfl) ?_
  refine lv_aload_n hx hb dL_law_231 rfl (lv_at hl 3 rfl) ?_
  refine lv_iload_n hx hb dL_law_232 rfl (lv_at hl 0 rfl) ?_
  refine lv_iconst (v := nI 1) hx hb dL_law_233 (by decide) ?_
  refine rn_add (a := i) (b := 1) hx hb dL_law_234 ?_
  refine lw_sld hx hb hX hbl hbA hS (show i + 1 < LL by omega) hLL dL_law_235 ?_
  refine lv_aload_n hx hb dL_law_236 rfl (lv_at hl 3 rfl) ?_
  refine lv_iload_n hx hb dL_law_237 rfl (lv_at hl 0 rfl) ?_
  refine lv_iconst (v := nI 2) hx hb dL_law_238 (by decide) ?_
  refine rn_add (a := i) (b := 2) hx hb dL_law_239 ?_
  refine lw_sld hx hb hX hbl hbA hS (show i + 2 < LL by omega) hLL dL_law_240 ?_
  refine lv_aload_n hx hb dL_law_241 rfl (lv_at hl 3 rfl) ?_
  refine lv_iload_n hx hb dL_law_242 rfl (lv_at hl 0 rfl) ?_
  refine lv_iconst (v := nI 3) hx hb dL_law_243 (by decide) ?_
  refine rn_add (a := i) (b := 3) hx hb dL_law_244 ?_
  refine lw_sld hx hb hX hbl hbA hS (show i + 3 < LL by omega) hLL dL_law_245 ?_
  refine lv_aload_n hx hb dL_law_246 rfl (lv_at hl 3 rfl) ?_
  refine lv_iload_n hx hb dL_law_247 rfl (lv_at hl 0 rfl) ?_
  refine lv_iconst (v := nI 4) hx hb dL_law_248 (by decide) ?_
  refine rn_add (a := i) (b := 4) hx hb dL_law_249 ?_
  refine lw_sld hx hb hX hbl hbA hS (show i + 4 < LL by omega) hLL dL_law_250 ?_
  refine lv_aload_n hx hb dL_law_251 rfl (lv_at hl 3 rfl) ?_
  refine lv_iload_n hx hb dL_law_252 rfl (lv_at hl 0 rfl) ?_
  refine lv_iconst (v := nI 5) hx hb dL_law_253 (by decide) ?_
  refine rn_add (a := i) (b := 5) hx hb dL_law_254 ?_
  refine lw_sld hx hb hX hbl hbA hS (show i + 5 < LL by omega) hLL dL_law_255 ?_
  refine rwV5 (rest := [.int (cAv f n (xs (i + 1)) (xs (i + 2)) (xs (i + 3)) (xs (i + 4)) (xs (i + 5)))]) S (c_X8_shot l E mo st sp th so sv pd mu z L ta sg g gp gh n (xs (i + 1)) (xs (i + 2)) (xs (i + 3)) (xs (i + 4)) (xs (i + 5)) hf2 (by omega) (by omega)) cd_X8_shot bw_781 ⟨Nat.le_of_ble_eq_true rfl, Nat.le_of_ble_eq_true rfl⟩ hcs hP (hDa.to rfl) hE hA hS [15, 16, 17, 18] rfl rfl [mo, st, sp, th] rfl rfl (ci := 5) rfl (q0 := 0) rfl (Nat.le_of_ble_eq_true rfl) hl.1 dL_law_256 (fun H locs hP _ hS => ?_)
  have hP : va_P E.1 vwCl [(xo, .inr (4, [.ref r, .ref r2, .ref r3, .ref d, .ref y, .ref q2, .int sf])), (r, .inr (2, [.ref rc])), (rc, .inl (E.2.1, 293, .inl (cAw f n (xs (i + 1)) (xs (i + 2)) (xs (i + 3)) (xs (i + 4)) (xs (i + 5))))), (r2, .inr (2, [.ref rc2])), (rc2, .inl (E.2.1, 293, .inl (cp293 f fb))), (r3, .inr (2, [.ref rc3])), (rc3, .inl (E.2.1, 293, .inl ft)), (d, .inr (1, [.ref ch, .ref nu, .int (nI L), .int a, .int b, .int le, .int co, .int mi])), (ch, .inl (E.2.2.1, 80, .inl t)), (nu, .inl (E.2.1, 4, .inl u)), (y, .inr (0, [.ref q, .int (nI (recO (cAv f n (xs (i + 1)) (xs (i + 2)) (xs (i + 3)) (xs (i + 4)) (xs (i + 5))) o z)), .int (nI (recZ (cAv f n (xs (i + 1)) (xs (i + 2)) (xs (i + 3)) (xs (i + 4)) (xs (i + 5))) z))])), (q, .inr (3, [.ref w])), (w, .inl (E.2.1, 1758, .inl (recH (cAv f n (xs (i + 1)) (xs (i + 2)) (xs (i + 3)) (xs (i + 4)) (xs (i + 5))) (cp293 f fb) h o z))), (q2, .inr (3, [.ref w2])), (w2, .inl (E.2.1, 586, .inl sl)), (mo, .inr (5, [.ref st, .ref sp, .ref th, .int (nI (rcN (mAv g n (xs (i + 1)) (xs (i + 2)) (xs (i + 3)) (xs (i + 4)) (xs (i + 5))) z)), .ref so, .ref sv, .ref pd, .int (nI L), .int (nI ta), .int sg, .ref mu])), (st, .inl (E.2.1, 293, .inl (mAw g n (xs (i + 1)) (xs (i + 2)) (xs (i + 3)) (xs (i + 4)) (xs (i + 5))))), (sp, .inl (E.2.1, 293, .inl (va_cpy g gp 0 0 293))), (th, .inl (E.2.1, 1758, .inl (rcH (mAv g n (xs (i + 1)) (xs (i + 2)) (xs (i + 3)) (xs (i + 4)) (xs (i + 5))) z (va_cpy g gp 0 0 293) gh))), (so, .inl (E.2.1, 586, .inl gs)), (sv, .inl (E.2.1, 2, .inl gv)), (pd, .inl (E.2.1, 80, .inl gt)), (mu, .inl (E.2.1, 4, .inl gu))] H := hP
  obtain ⟨e9, hO9⟩ := C_sh hR hAg (xs (i + 1)) (xs (i + 2)) (xs (i + 3)) (xs (i + 4)) (xs (i + 5))
  refine lv_icmp_eq (tgt := 1008) hx hb dL_law_259 (by decide) (fun _ => ?_) (fun c9 => absurd e9 c9)
  exact hk sf (cAw f n (xs (i + 1)) (xs (i + 2)) (xs (i + 3)) (xs (i + 4)) (xs (i + 5))) (cp293 f fb) ft L a b le co mi t u (recO (cAv f n (xs (i + 1)) (xs (i + 2)) (xs (i + 3)) (xs (i + 4)) (xs (i + 5))) o z) (recZ (cAv f n (xs (i + 1)) (xs (i + 2)) (xs (i + 3)) (xs (i + 4)) (xs (i + 5))) z) (recH (cAv f n (xs (i + 1)) (xs (i + 2)) (xs (i + 3)) (xs (i + 4)) (xs (i + 5))) (cp293 f fb) h o z) sl L (rcN (mAv g n (xs (i + 1)) (xs (i + 2)) (xs (i + 3)) (xs (i + 4)) (xs (i + 5))) z) ta sg (mAw g n (xs (i + 1)) (xs (i + 2)) (xs (i + 3)) (xs (i + 4)) (xs (i + 5))) (va_cpy g gp 0 0 293) (rcH (mAv g n (xs (i + 1)) (xs (i + 2)) (xs (i + 3)) (xs (i + 4)) (xs (i + 5))) z (va_cpy g gp 0 0 293) gh) gs gv gt gu ⟨hO9, (by rw [← e9]; exact Hist_ch fb gp hH ⟨n, hR, hAg⟩), hSl, hT, rfl, hmi⟩ _ _ hP hS _ hl
set_option maxHeartbeats 4000000 in
set_option maxRecDepth 100000 in
theorem lw_c2 (S : CallFix p m c code 4 s #[Value.ref b9] bw RL) (hE : en E A s s.heap) (hA : ∀ q, s.heap.size ≤ q → A q) (hcs : cells ≤ room_1.cells ∧ slots ≤ room_1.slots) (hX : va_X b9 LL xs s s.heap) (hbl : b9 < s.heap.size) (hbA : ¬ A b9) (hLL : LL ≤ 3072) (hDa : va_Da A [xo, r, rc, r2, rc2, r3, rc3, d, ch, nu, y, q, w, q2, w2, mo, st, sp, th, so, sv, pd, mu]) (hi : i + 6 ≤ LL) (hk : lwK p l e s m below meth c Q E A b9 i cells slots xo r rc r2 rc2 r3 rc3 d ch nu y q w q2 w2 mo st sp th so sv pd mu) (sf : Int32) (f : Nat → Int32) (fb : Nat → Int32) (ft : Nat → Int32) (L : Nat) (a : Int32) (b : Int32) (le : Int32) (co : Int32) (mi : Int32) (t : Nat → Int32) (u : Nat → Int32) (o : Nat) (z : Nat) (h : Nat → Int32) (sl : Nat → Int32) (ln : Nat) (sn : Nat) (ta : Nat) (sg : Int32) (g : Nat → Int32) (gp : Nat → Int32) (gh : Nat → Int32) (gs : Nat → Int32) (gv : Nat → Int32) (gt : Nat → Int32) (gu : Nat → Int32) (h9 : LSt f g o z h sn gh sf sl gs gv L t gt ln mi) (H : Heap) (locs : List Loc) (hP : va_P E.1 vwCl [(xo, .inr (4, [.ref r, .ref r2, .ref r3, .ref d, .ref y, .ref q2, .int sf])), (r, .inr (2, [.ref rc])), (rc, .inl (E.2.1, 293, .inl f)), (r2, .inr (2, [.ref rc2])), (rc2, .inl (E.2.1, 293, .inl fb)), (r3, .inr (2, [.ref rc3])), (rc3, .inl (E.2.1, 293, .inl ft)), (d, .inr (1, [.ref ch, .ref nu, .int (nI L), .int a, .int b, .int le, .int co, .int mi])), (ch, .inl (E.2.2.1, 80, .inl t)), (nu, .inl (E.2.1, 4, .inl u)), (y, .inr (0, [.ref q, .int (nI o), .int (nI z)])), (q, .inr (3, [.ref w])), (w, .inl (E.2.1, 1758, .inl h)), (q2, .inr (3, [.ref w2])), (w2, .inl (E.2.1, 586, .inl sl)), (mo, .inr (5, [.ref st, .ref sp, .ref th, .int (nI sn), .ref so, .ref sv, .ref pd, .int (nI ln), .int (nI ta), .int sg, .ref mu])), (st, .inl (E.2.1, 293, .inl g)), (sp, .inl (E.2.1, 293, .inl gp)), (th, .inl (E.2.1, 1758, .inl gh)), (so, .inl (E.2.1, 586, .inl gs)), (sv, .inl (E.2.1, 2, .inl gv)), (pd, .inl (E.2.1, 80, .inl gt)), (mu, .inl (E.2.1, 4, .inl gu))] H) (hS : va_S A s.heap H locs) (ls : Array Slot) (hl : lv_has ls 4 [(3, .int (nI i)), (2, .ref mo), (1, .ref xo), (0, .ref b9)]) : W p l e room_1 s m #[Value.ref b9] below meth c H locs cells slots Q (F0 m 264 ls []) := by
  have hx := S.1
  have hb := S.2.1
  have hown := S.2.2.2.1
  have hts := S.2.2.2.2
  have hK := hE.1
  obtain ⟨⟨n, hR, hAg⟩, hH, hSl, hT, hln, hmi⟩ := h9
  have hln := hln.symm
  subst hln
  have hsn := hH.2.2.1.symm
  subst hsn
  have hf := R_12 hR
  have hf2 := R_4 hR
  have hn := R_n hR
  have hst := R_st hR
  have ho := hH.1
  have hz := hH.2.1
  have hL := hT.1
  refine lv_aload_n hx hb dL_law_264 rfl (lv_at hl 2 rfl) ?_
  refine lv_aload_n hx hb dL_law_265 rfl (lv_at hl 3 rfl) ?_
  refine lv_iload_n hx hb dL_law_266 rfl (lv_at hl 0 rfl) ?_
  refine lv_iconst (v := nI 1) hx hb dL_law_267 (by decide) ?_
  refine rn_add (a := i) (b := 1) hx hb dL_law_268 ?_
  refine lw_sld hx hb hX hbl hbA hS (show i + 1 < LL by omega) hLL dL_law_269 ?_
  refine rwV1 (rest := []) S (c_X7_takeOut l E xo r r2 r3 d y q2 sf rc f rc2 fb q w o z h n (xs (i + 1)) hf (by omega) (by omega) (by omega)) cd_X7_takeOut bw_265 ⟨Nat.le_of_ble_eq_true rfl, Nat.le_of_ble_eq_true rfl⟩ hcs hP (hDa.to rfl) hE hA hS [0, 1, 2, 3, 4, 10, 11, 12] rfl rfl [xo, r, rc, r2, rc2, y, q, w] rfl rfl (ci := 4) rfl (q0 := 0) rfl (Nat.le_of_ble_eq_true rfl) hl.1 dL_law_270 (fun H locs hP _ hS => ?_)
  have hP : va_P E.1 vwCl [(xo, .inr (4, [.ref r, .ref r2, .ref r3, .ref d, .ref y, .ref q2, .int sf])), (r, .inr (2, [.ref rc])), (rc, .inl (E.2.1, 293, .inl (cDw f n (xs (i + 1))))), (r2, .inr (2, [.ref rc2])), (rc2, .inl (E.2.1, 293, .inl (cp293 f fb))), (r3, .inr (2, [.ref rc3])), (rc3, .inl (E.2.1, 293, .inl ft)), (d, .inr (1, [.ref ch, .ref nu, .int (nI L), .int a, .int b, .int le, .int co, .int mi])), (ch, .inl (E.2.2.1, 80, .inl t)), (nu, .inl (E.2.1, 4, .inl u)), (y, .inr (0, [.ref q, .int (nI (recO (cDv f n (xs (i + 1))) o z)), .int (nI (recZ (cDv f n (xs (i + 1))) z))])), (q, .inr (3, [.ref w])), (w, .inl (E.2.1, 1758, .inl (recH (cDv f n (xs (i + 1))) (cp293 f fb) h o z))), (q2, .inr (3, [.ref w2])), (w2, .inl (E.2.1, 586, .inl sl)), (mo, .inr (5, [.ref st, .ref sp, .ref th, .int (nI z), .ref so, .ref sv, .ref pd, .int (nI L), .int (nI ta), .int sg, .ref mu])), (st, .inl (E.2.1, 293, .inl g)), (sp, .inl (E.2.1, 293, .inl gp)), (th, .inl (E.2.1, 1758, .inl gh)), (so, .inl (E.2.1, 586, .inl gs)), (sv, .inl (E.2.1, 2, .inl gv)), (pd, .inl (E.2.1, 80, .inl gt)), (mu, .inl (E.2.1, 4, .inl gu))] H := hP
  refine lv_aload_n hx hb dL_law_273 rfl (lv_at hl 1 rfl) ?_
  refine lv_aload_n hx hb dL_law_274 rfl (lv_at hl 3 rfl) ?_
  refine lv_iload_n hx hb dL_law_275 rfl (lv_at hl 0 rfl) ?_
  refine lv_iconst (v := nI 1) hx hb dL_law_276 (by decide) ?_
  refine rn_add (a := i) (b := 1) hx hb dL_law_277 ?_
  refine lw_sld hx hb hX hbl hbA hS (show i + 1 < LL by omega) hLL dL_law_278 ?_
  refine rwV1 (rest := [.int (cDv f n (xs (i + 1)))]) S (c_X8_takeOut l E mo st sp th so sv pd mu z L ta sg g gp gh n (xs (i + 1)) hf2 (by omega) (by omega)) cd_X8_takeOut bw_804 ⟨Nat.le_of_ble_eq_true rfl, Nat.le_of_ble_eq_true rfl⟩ hcs hP (hDa.to rfl) hE hA hS [15, 16, 17, 18] rfl rfl [mo, st, sp, th] rfl rfl (ci := 5) rfl (q0 := 0) rfl (Nat.le_of_ble_eq_true rfl) hl.1 dL_law_279 (fun H locs hP _ hS => ?_)
  have hP : va_P E.1 vwCl [(xo, .inr (4, [.ref r, .ref r2, .ref r3, .ref d, .ref y, .ref q2, .int sf])), (r, .inr (2, [.ref rc])), (rc, .inl (E.2.1, 293, .inl (cDw f n (xs (i + 1))))), (r2, .inr (2, [.ref rc2])), (rc2, .inl (E.2.1, 293, .inl (cp293 f fb))), (r3, .inr (2, [.ref rc3])), (rc3, .inl (E.2.1, 293, .inl ft)), (d, .inr (1, [.ref ch, .ref nu, .int (nI L), .int a, .int b, .int le, .int co, .int mi])), (ch, .inl (E.2.2.1, 80, .inl t)), (nu, .inl (E.2.1, 4, .inl u)), (y, .inr (0, [.ref q, .int (nI (recO (cDv f n (xs (i + 1))) o z)), .int (nI (recZ (cDv f n (xs (i + 1))) z))])), (q, .inr (3, [.ref w])), (w, .inl (E.2.1, 1758, .inl (recH (cDv f n (xs (i + 1))) (cp293 f fb) h o z))), (q2, .inr (3, [.ref w2])), (w2, .inl (E.2.1, 586, .inl sl)), (mo, .inr (5, [.ref st, .ref sp, .ref th, .int (nI (mToN z g gp gh n (xs (i + 1)))), .ref so, .ref sv, .ref pd, .int (nI L), .int (nI ta), .int sg, .ref mu])), (st, .inl (E.2.1, 293, .inl (mToG z g gp gh n (xs (i + 1))))), (sp, .inl (E.2.1, 293, .inl (mToP z g gp gh n (xs (i + 1))))), (th, .inl (E.2.1, 1758, .inl (mToH z g gp gh n (xs (i + 1))))), (so, .inl (E.2.1, 586, .inl gs)), (sv, .inl (E.2.1, 2, .inl gv)), (pd, .inl (E.2.1, 80, .inl gt)), (mu, .inl (E.2.1, 4, .inl gu))] H := hP
  obtain ⟨e9, hO9⟩ := C_do hR hAg z gp gh (xs (i + 1))
  obtain ⟨eN, eH⟩ := mTo_N z g gp gh n (xs (i + 1))
  refine lv_icmp_eq (tgt := 1008) hx hb dL_law_282 (by decide) (fun _ => ?_) (fun c9 => absurd e9 c9)
  exact hk sf (cDw f n (xs (i + 1))) (cp293 f fb) ft L a b le co mi t u (recO (cDv f n (xs (i + 1))) o z) (recZ (cDv f n (xs (i + 1))) z) (recH (cDv f n (xs (i + 1))) (cp293 f fb) h o z) sl L (mToN z g gp gh n (xs (i + 1))) ta sg (mToG z g gp gh n (xs (i + 1))) (mToP z g gp gh n (xs (i + 1))) (mToH z g gp gh n (xs (i + 1))) gs gv gt gu ⟨hO9, (by rw [eN, eH, ← e9]; exact Hist_ch fb gp hH ⟨n, hR, hAg⟩), hSl, hT, rfl, hmi⟩ _ _ hP hS _ hl
set_option maxHeartbeats 4000000 in
set_option maxRecDepth 100000 in
theorem lw_c3 (S : CallFix p m c code 4 s #[Value.ref b9] bw RL) (hE : en E A s s.heap) (hA : ∀ q, s.heap.size ≤ q → A q) (hcs : cells ≤ room_1.cells ∧ slots ≤ room_1.slots) (hX : va_X b9 LL xs s s.heap) (hbl : b9 < s.heap.size) (hbA : ¬ A b9) (hLL : LL ≤ 3072) (hDa : va_Da A [xo, r, rc, r2, rc2, r3, rc3, d, ch, nu, y, q, w, q2, w2, mo, st, sp, th, so, sv, pd, mu]) (hi : i + 6 ≤ LL) (hk : lwK p l e s m below meth c Q E A b9 i cells slots xo r rc r2 rc2 r3 rc3 d ch nu y q w q2 w2 mo st sp th so sv pd mu) (sf : Int32) (f : Nat → Int32) (fb : Nat → Int32) (ft : Nat → Int32) (L : Nat) (a : Int32) (b : Int32) (le : Int32) (co : Int32) (mi : Int32) (t : Nat → Int32) (u : Nat → Int32) (o : Nat) (z : Nat) (h : Nat → Int32) (sl : Nat → Int32) (ln : Nat) (sn : Nat) (ta : Nat) (sg : Int32) (g : Nat → Int32) (gp : Nat → Int32) (gh : Nat → Int32) (gs : Nat → Int32) (gv : Nat → Int32) (gt : Nat → Int32) (gu : Nat → Int32) (h9 : LSt f g o z h sn gh sf sl gs gv L t gt ln mi) (H : Heap) (locs : List Loc) (hP : va_P E.1 vwCl [(xo, .inr (4, [.ref r, .ref r2, .ref r3, .ref d, .ref y, .ref q2, .int sf])), (r, .inr (2, [.ref rc])), (rc, .inl (E.2.1, 293, .inl f)), (r2, .inr (2, [.ref rc2])), (rc2, .inl (E.2.1, 293, .inl fb)), (r3, .inr (2, [.ref rc3])), (rc3, .inl (E.2.1, 293, .inl ft)), (d, .inr (1, [.ref ch, .ref nu, .int (nI L), .int a, .int b, .int le, .int co, .int mi])), (ch, .inl (E.2.2.1, 80, .inl t)), (nu, .inl (E.2.1, 4, .inl u)), (y, .inr (0, [.ref q, .int (nI o), .int (nI z)])), (q, .inr (3, [.ref w])), (w, .inl (E.2.1, 1758, .inl h)), (q2, .inr (3, [.ref w2])), (w2, .inl (E.2.1, 586, .inl sl)), (mo, .inr (5, [.ref st, .ref sp, .ref th, .int (nI sn), .ref so, .ref sv, .ref pd, .int (nI ln), .int (nI ta), .int sg, .ref mu])), (st, .inl (E.2.1, 293, .inl g)), (sp, .inl (E.2.1, 293, .inl gp)), (th, .inl (E.2.1, 1758, .inl gh)), (so, .inl (E.2.1, 586, .inl gs)), (sv, .inl (E.2.1, 2, .inl gv)), (pd, .inl (E.2.1, 80, .inl gt)), (mu, .inl (E.2.1, 4, .inl gu))] H) (hS : va_S A s.heap H locs) (ls : Array Slot) (hl : lv_has ls 4 [(3, .int (nI i)), (2, .ref mo), (1, .ref xo), (0, .ref b9)]) : W p l e room_1 s m #[Value.ref b9] below meth c H locs cells slots Q (F0 m 287 ls []) := by
  have hx := S.1
  have hb := S.2.1
  have hown := S.2.2.2.1
  have hts := S.2.2.2.2
  have hK := hE.1
  obtain ⟨⟨n, hR, hAg⟩, hH, hSl, hT, hln, hmi⟩ := h9
  have hln := hln.symm
  subst hln
  have hsn := hH.2.2.1.symm
  subst hsn
  have hf := R_12 hR
  have hf2 := R_4 hR
  have hn := R_n hR
  have hst := R_st hR
  have ho := hH.1
  have hz := hH.2.1
  have hL := hT.1
  refine lv_aload_n hx hb dL_law_287 rfl (lv_at hl 2 rfl) ?_
  refine lv_aload_n hx hb dL_law_288 rfl (lv_at hl 3 rfl) ?_
  refine lv_iload_n hx hb dL_law_289 rfl (lv_at hl 0 rfl) ?_
  refine lv_iconst (v := nI 1) hx hb dL_law_290 (by decide) ?_
  refine rn_add (a := i) (b := 1) hx hb dL_law_291 ?_
  refine lw_sld hx hb hX hbl hbA hS (show i + 1 < LL by omega) hLL dL_law_292 ?_
  refine lv_aload_n hx hb dL_law_293 rfl (lv_at hl 3 rfl) ?_
  refine lv_iload_n hx hb dL_law_294 rfl (lv_at hl 0 rfl) ?_
  refine lv_iconst (v := nI 2) hx hb dL_law_295 (by decide) ?_
  refine rn_add (a := i) (b := 2) hx hb dL_law_296 ?_
  refine lw_sld hx hb hX hbl hbA hS (show i + 2 < LL by omega) hLL dL_law_297 ?_
  refine lv_aload_n hx hb dL_law_298 rfl (lv_at hl 3 rfl) ?_
  refine lv_iload_n hx hb dL_law_299 rfl (lv_at hl 0 rfl) ?_
  refine lv_iconst (v := nI 3) hx hb dL_law_300 (by decide) ?_
  refine rn_add (a := i) (b := 3) hx hb dL_law_301 ?_
  refine lw_sld hx hb hX hbl hbA hS (show i + 3 < LL by omega) hLL dL_law_302 ?_
  refine rwV3 (rest := []) S (c_X7_light l E xo r r2 r3 d y q2 sf rc f rc2 fb q w o z h n (xs (i + 1)) (xs (i + 2)) (xs (i + 3)) hf (by omega) (by omega) (by omega)) cd_X7_light bw_280 ⟨Nat.le_of_ble_eq_true rfl, Nat.le_of_ble_eq_true rfl⟩ hcs hP (hDa.to rfl) hE hA hS [0, 1, 2, 3, 4, 10, 11, 12] rfl rfl [xo, r, rc, r2, rc2, y, q, w] rfl rfl (ci := 4) rfl (q0 := 0) rfl (Nat.le_of_ble_eq_true rfl) hl.1 dL_law_303 (fun H locs hP _ hS => ?_)
  have hP : va_P E.1 vwCl [(xo, .inr (4, [.ref r, .ref r2, .ref r3, .ref d, .ref y, .ref q2, .int sf])), (r, .inr (2, [.ref rc])), (rc, .inl (E.2.1, 293, .inl (cLw f n (xs (i + 1)) (xs (i + 2)) (xs (i + 3))))), (r2, .inr (2, [.ref rc2])), (rc2, .inl (E.2.1, 293, .inl (cp293 f fb))), (r3, .inr (2, [.ref rc3])), (rc3, .inl (E.2.1, 293, .inl ft)), (d, .inr (1, [.ref ch, .ref nu, .int (nI L), .int a, .int b, .int le, .int co, .int mi])), (ch, .inl (E.2.2.1, 80, .inl t)), (nu, .inl (E.2.1, 4, .inl u)), (y, .inr (0, [.ref q, .int (nI (recO (cLv f n (xs (i + 1)) (xs (i + 2)) (xs (i + 3))) o z)), .int (nI (recZ (cLv f n (xs (i + 1)) (xs (i + 2)) (xs (i + 3))) z))])), (q, .inr (3, [.ref w])), (w, .inl (E.2.1, 1758, .inl (recH (cLv f n (xs (i + 1)) (xs (i + 2)) (xs (i + 3))) (cp293 f fb) h o z))), (q2, .inr (3, [.ref w2])), (w2, .inl (E.2.1, 586, .inl sl)), (mo, .inr (5, [.ref st, .ref sp, .ref th, .int (nI z), .ref so, .ref sv, .ref pd, .int (nI L), .int (nI ta), .int sg, .ref mu])), (st, .inl (E.2.1, 293, .inl g)), (sp, .inl (E.2.1, 293, .inl gp)), (th, .inl (E.2.1, 1758, .inl gh)), (so, .inl (E.2.1, 586, .inl gs)), (sv, .inl (E.2.1, 2, .inl gv)), (pd, .inl (E.2.1, 80, .inl gt)), (mu, .inl (E.2.1, 4, .inl gu))] H := hP
  refine lv_aload_n hx hb dL_law_306 rfl (lv_at hl 1 rfl) ?_
  refine lv_aload_n hx hb dL_law_307 rfl (lv_at hl 3 rfl) ?_
  refine lv_iload_n hx hb dL_law_308 rfl (lv_at hl 0 rfl) ?_
  refine lv_iconst (v := nI 1) hx hb dL_law_309 (by decide) ?_
  refine rn_add (a := i) (b := 1) hx hb dL_law_310 ?_
  refine lw_sld hx hb hX hbl hbA hS (show i + 1 < LL by omega) hLL dL_law_311 ?_
  refine lv_aload_n hx hb dL_law_312 rfl (lv_at hl 3 rfl) ?_
  refine lv_iload_n hx hb dL_law_313 rfl (lv_at hl 0 rfl) ?_
  refine lv_iconst (v := nI 2) hx hb dL_law_314 (by decide) ?_
  refine rn_add (a := i) (b := 2) hx hb dL_law_315 ?_
  refine lw_sld hx hb hX hbl hbA hS (show i + 2 < LL by omega) hLL dL_law_316 ?_
  refine lv_aload_n hx hb dL_law_317 rfl (lv_at hl 3 rfl) ?_
  refine lv_iload_n hx hb dL_law_318 rfl (lv_at hl 0 rfl) ?_
  refine lv_iconst (v := nI 3) hx hb dL_law_319 (by decide) ?_
  refine rn_add (a := i) (b := 3) hx hb dL_law_320 ?_
  refine lw_sld hx hb hX hbl hbA hS (show i + 3 < LL by omega) hLL dL_law_321 ?_
  refine rwV3 (rest := [.int (cLv f n (xs (i + 1)) (xs (i + 2)) (xs (i + 3)))]) S (c_X8_light l E mo st sp th so sv pd mu z L ta sg g gp gh n (xs (i + 1)) (xs (i + 2)) (xs (i + 3)) hf2 (by omega) (by omega)) cd_X8_light bw_816 ⟨Nat.le_of_ble_eq_true rfl, Nat.le_of_ble_eq_true rfl⟩ hcs hP (hDa.to rfl) hE hA hS [15, 16, 17, 18] rfl rfl [mo, st, sp, th] rfl rfl (ci := 5) rfl (q0 := 0) rfl (Nat.le_of_ble_eq_true rfl) hl.1 dL_law_322 (fun H locs hP _ hS => ?_)
  have hP : va_P E.1 vwCl [(xo, .inr (4, [.ref r, .ref r2, .ref r3, .ref d, .ref y, .ref q2, .int sf])), (r, .inr (2, [.ref rc])), (rc, .inl (E.2.1, 293, .inl (cLw f n (xs (i + 1)) (xs (i + 2)) (xs (i + 3))))), (r2, .inr (2, [.ref rc2])), (rc2, .inl (E.2.1, 293, .inl (cp293 f fb))), (r3, .inr (2, [.ref rc3])), (rc3, .inl (E.2.1, 293, .inl ft)), (d, .inr (1, [.ref ch, .ref nu, .int (nI L), .int a, .int b, .int le, .int co, .int mi])), (ch, .inl (E.2.2.1, 80, .inl t)), (nu, .inl (E.2.1, 4, .inl u)), (y, .inr (0, [.ref q, .int (nI (recO (cLv f n (xs (i + 1)) (xs (i + 2)) (xs (i + 3))) o z)), .int (nI (recZ (cLv f n (xs (i + 1)) (xs (i + 2)) (xs (i + 3))) z))])), (q, .inr (3, [.ref w])), (w, .inl (E.2.1, 1758, .inl (recH (cLv f n (xs (i + 1)) (xs (i + 2)) (xs (i + 3))) (cp293 f fb) h o z))), (q2, .inr (3, [.ref w2])), (w2, .inl (E.2.1, 586, .inl sl)), (mo, .inr (5, [.ref st, .ref sp, .ref th, .int (nI (rcN (mLv g n (xs (i + 1)) (xs (i + 2)) (xs (i + 3))) z)), .ref so, .ref sv, .ref pd, .int (nI L), .int (nI ta), .int sg, .ref mu])), (st, .inl (E.2.1, 293, .inl (mLw g n (xs (i + 1)) (xs (i + 2)) (xs (i + 3))))), (sp, .inl (E.2.1, 293, .inl (va_cpy g gp 0 0 293))), (th, .inl (E.2.1, 1758, .inl (rcH (mLv g n (xs (i + 1)) (xs (i + 2)) (xs (i + 3))) z (va_cpy g gp 0 0 293) gh))), (so, .inl (E.2.1, 586, .inl gs)), (sv, .inl (E.2.1, 2, .inl gv)), (pd, .inl (E.2.1, 80, .inl gt)), (mu, .inl (E.2.1, 4, .inl gu))] H := hP
  obtain ⟨e9, hO9⟩ := C_li hR hAg (xs (i + 1)) (xs (i + 2)) (xs (i + 3))
  refine lv_icmp_eq (tgt := 1008) hx hb dL_law_325 (by decide) (fun _ => ?_) (fun c9 => absurd e9 c9)
  exact hk sf (cLw f n (xs (i + 1)) (xs (i + 2)) (xs (i + 3))) (cp293 f fb) ft L a b le co mi t u (recO (cLv f n (xs (i + 1)) (xs (i + 2)) (xs (i + 3))) o z) (recZ (cLv f n (xs (i + 1)) (xs (i + 2)) (xs (i + 3))) z) (recH (cLv f n (xs (i + 1)) (xs (i + 2)) (xs (i + 3))) (cp293 f fb) h o z) sl L (rcN (mLv g n (xs (i + 1)) (xs (i + 2)) (xs (i + 3))) z) ta sg (mLw g n (xs (i + 1)) (xs (i + 2)) (xs (i + 3))) (va_cpy g gp 0 0 293) (rcH (mLv g n (xs (i + 1)) (xs (i + 2)) (xs (i + 3))) z (va_cpy g gp 0 0 293) gh) gs gv gt gu ⟨hO9, (by rw [← e9]; exact Hist_ch fb gp hH ⟨n, hR, hAg⟩), hSl, hT, rfl, hmi⟩ _ _ hP hS _ hl
set_option maxHeartbeats 4000000 in
set_option maxRecDepth 100000 in
theorem lw_c4 (S : CallFix p m c code 4 s #[Value.ref b9] bw RL) (hE : en E A s s.heap) (hA : ∀ q, s.heap.size ≤ q → A q) (hcs : cells ≤ room_1.cells ∧ slots ≤ room_1.slots) (hX : va_X b9 LL xs s s.heap) (hbl : b9 < s.heap.size) (hbA : ¬ A b9) (hLL : LL ≤ 3072) (hDa : va_Da A [xo, r, rc, r2, rc2, r3, rc3, d, ch, nu, y, q, w, q2, w2, mo, st, sp, th, so, sv, pd, mu]) (hi : i + 6 ≤ LL) (hk : lwK p l e s m below meth c Q E A b9 i cells slots xo r rc r2 rc2 r3 rc3 d ch nu y q w q2 w2 mo st sp th so sv pd mu) (sf : Int32) (f : Nat → Int32) (fb : Nat → Int32) (ft : Nat → Int32) (L : Nat) (a : Int32) (b : Int32) (le : Int32) (co : Int32) (mi : Int32) (t : Nat → Int32) (u : Nat → Int32) (o : Nat) (z : Nat) (h : Nat → Int32) (sl : Nat → Int32) (ln : Nat) (sn : Nat) (ta : Nat) (sg : Int32) (g : Nat → Int32) (gp : Nat → Int32) (gh : Nat → Int32) (gs : Nat → Int32) (gv : Nat → Int32) (gt : Nat → Int32) (gu : Nat → Int32) (h9 : LSt f g o z h sn gh sf sl gs gv L t gt ln mi) (H : Heap) (locs : List Loc) (hP : va_P E.1 vwCl [(xo, .inr (4, [.ref r, .ref r2, .ref r3, .ref d, .ref y, .ref q2, .int sf])), (r, .inr (2, [.ref rc])), (rc, .inl (E.2.1, 293, .inl f)), (r2, .inr (2, [.ref rc2])), (rc2, .inl (E.2.1, 293, .inl fb)), (r3, .inr (2, [.ref rc3])), (rc3, .inl (E.2.1, 293, .inl ft)), (d, .inr (1, [.ref ch, .ref nu, .int (nI L), .int a, .int b, .int le, .int co, .int mi])), (ch, .inl (E.2.2.1, 80, .inl t)), (nu, .inl (E.2.1, 4, .inl u)), (y, .inr (0, [.ref q, .int (nI o), .int (nI z)])), (q, .inr (3, [.ref w])), (w, .inl (E.2.1, 1758, .inl h)), (q2, .inr (3, [.ref w2])), (w2, .inl (E.2.1, 586, .inl sl)), (mo, .inr (5, [.ref st, .ref sp, .ref th, .int (nI sn), .ref so, .ref sv, .ref pd, .int (nI ln), .int (nI ta), .int sg, .ref mu])), (st, .inl (E.2.1, 293, .inl g)), (sp, .inl (E.2.1, 293, .inl gp)), (th, .inl (E.2.1, 1758, .inl gh)), (so, .inl (E.2.1, 586, .inl gs)), (sv, .inl (E.2.1, 2, .inl gv)), (pd, .inl (E.2.1, 80, .inl gt)), (mu, .inl (E.2.1, 4, .inl gu))] H) (hS : va_S A s.heap H locs) (ls : Array Slot) (hl : lv_has ls 4 [(3, .int (nI i)), (2, .ref mo), (1, .ref xo), (0, .ref b9)]) : W p l e room_1 s m #[Value.ref b9] below meth c H locs cells slots Q (F0 m 330 ls []) := by
  have hx := S.1
  have hb := S.2.1
  have hown := S.2.2.2.1
  have hts := S.2.2.2.2
  have hK := hE.1
  obtain ⟨⟨n, hR, hAg⟩, hH, hSl, hT, hln, hmi⟩ := h9
  have hln := hln.symm
  subst hln
  have hsn := hH.2.2.1.symm
  subst hsn
  have hf := R_12 hR
  have hf2 := R_4 hR
  have hn := R_n hR
  have hst := R_st hR
  have ho := hH.1
  have hz := hH.2.1
  have hL := hT.1
  refine lv_aload_n hx hb dL_law_330 rfl (lv_at hl 2 rfl) ?_
  refine lv_aload_n hx hb dL_law_331 rfl (lv_at hl 3 rfl) ?_
  refine lv_iload_n hx hb dL_law_332 rfl (lv_at hl 0 rfl) ?_
  refine lv_iconst (v := nI 1) hx hb dL_law_333 (by decide) ?_
  refine rn_add (a := i) (b := 1) hx hb dL_law_334 ?_
  refine lw_sld hx hb hX hbl hbA hS (show i + 1 < LL by omega) hLL dL_law_335 ?_
  refine lv_aload_n hx hb dL_law_336 rfl (lv_at hl 3 rfl) ?_
  refine lv_iload_n hx hb dL_law_337 rfl (lv_at hl 0 rfl) ?_
  refine lv_iconst (v := nI 2) hx hb dL_law_338 (by decide) ?_
  refine rn_add (a := i) (b := 2) hx hb dL_law_339 ?_
  refine lw_sld hx hb hX hbl hbA hS (show i + 2 < LL by omega) hLL dL_law_340 ?_
  refine lv_aload_n hx hb dL_law_341 rfl (lv_at hl 3 rfl) ?_
  refine lv_iload_n hx hb dL_law_342 rfl (lv_at hl 0 rfl) ?_
  refine lv_iconst (v := nI 3) hx hb dL_law_343 (by decide) ?_
  refine rn_add (a := i) (b := 3) hx hb dL_law_344 ?_
  refine lw_sld hx hb hX hbl hbA hS (show i + 3 < LL by omega) hLL dL_law_345 ?_
  refine rwV3 (rest := []) S (c_X7_wish l E xo r r2 r3 d y q2 sf rc f rc2 fb q w o z h n (xs (i + 1)) (xs (i + 2)) (xs (i + 3)) hf (by omega) (by omega) (by omega)) cd_X7_wish bw_291 ⟨Nat.le_of_ble_eq_true rfl, Nat.le_of_ble_eq_true rfl⟩ hcs hP (hDa.to rfl) hE hA hS [0, 1, 2, 3, 4, 10, 11, 12] rfl rfl [xo, r, rc, r2, rc2, y, q, w] rfl rfl (ci := 4) rfl (q0 := 0) rfl (Nat.le_of_ble_eq_true rfl) hl.1 dL_law_346 (fun H locs hP _ hS => ?_)
  have hP : va_P E.1 vwCl [(xo, .inr (4, [.ref r, .ref r2, .ref r3, .ref d, .ref y, .ref q2, .int sf])), (r, .inr (2, [.ref rc])), (rc, .inl (E.2.1, 293, .inl (cWw f n (xs (i + 1)) (xs (i + 2)) (xs (i + 3))))), (r2, .inr (2, [.ref rc2])), (rc2, .inl (E.2.1, 293, .inl (cp293 f fb))), (r3, .inr (2, [.ref rc3])), (rc3, .inl (E.2.1, 293, .inl ft)), (d, .inr (1, [.ref ch, .ref nu, .int (nI L), .int a, .int b, .int le, .int co, .int mi])), (ch, .inl (E.2.2.1, 80, .inl t)), (nu, .inl (E.2.1, 4, .inl u)), (y, .inr (0, [.ref q, .int (nI (recO (cWv f n (xs (i + 1)) (xs (i + 2)) (xs (i + 3))) o z)), .int (nI (recZ (cWv f n (xs (i + 1)) (xs (i + 2)) (xs (i + 3))) z))])), (q, .inr (3, [.ref w])), (w, .inl (E.2.1, 1758, .inl (recH (cWv f n (xs (i + 1)) (xs (i + 2)) (xs (i + 3))) (cp293 f fb) h o z))), (q2, .inr (3, [.ref w2])), (w2, .inl (E.2.1, 586, .inl sl)), (mo, .inr (5, [.ref st, .ref sp, .ref th, .int (nI z), .ref so, .ref sv, .ref pd, .int (nI L), .int (nI ta), .int sg, .ref mu])), (st, .inl (E.2.1, 293, .inl g)), (sp, .inl (E.2.1, 293, .inl gp)), (th, .inl (E.2.1, 1758, .inl gh)), (so, .inl (E.2.1, 586, .inl gs)), (sv, .inl (E.2.1, 2, .inl gv)), (pd, .inl (E.2.1, 80, .inl gt)), (mu, .inl (E.2.1, 4, .inl gu))] H := hP
  refine lv_aload_n hx hb dL_law_349 rfl (lv_at hl 1 rfl) ?_
  refine lv_aload_n hx hb dL_law_350 rfl (lv_at hl 3 rfl) ?_
  refine lv_iload_n hx hb dL_law_351 rfl (lv_at hl 0 rfl) ?_
  refine lv_iconst (v := nI 1) hx hb dL_law_352 (by decide) ?_
  refine rn_add (a := i) (b := 1) hx hb dL_law_353 ?_
  refine lw_sld hx hb hX hbl hbA hS (show i + 1 < LL by omega) hLL dL_law_354 ?_
  refine lv_aload_n hx hb dL_law_355 rfl (lv_at hl 3 rfl) ?_
  refine lv_iload_n hx hb dL_law_356 rfl (lv_at hl 0 rfl) ?_
  refine lv_iconst (v := nI 2) hx hb dL_law_357 (by decide) ?_
  refine rn_add (a := i) (b := 2) hx hb dL_law_358 ?_
  refine lw_sld hx hb hX hbl hbA hS (show i + 2 < LL by omega) hLL dL_law_359 ?_
  refine lv_aload_n hx hb dL_law_360 rfl (lv_at hl 3 rfl) ?_
  refine lv_iload_n hx hb dL_law_361 rfl (lv_at hl 0 rfl) ?_
  refine lv_iconst (v := nI 3) hx hb dL_law_362 (by decide) ?_
  refine rn_add (a := i) (b := 3) hx hb dL_law_363 ?_
  refine lw_sld hx hb hX hbl hbA hS (show i + 3 < LL by omega) hLL dL_law_364 ?_
  refine rwV3 (rest := [.int (cWv f n (xs (i + 1)) (xs (i + 2)) (xs (i + 3)))]) S (c_X8_wish l E mo st sp th so sv pd mu z L ta sg g gp gh n (xs (i + 1)) (xs (i + 2)) (xs (i + 3)) hf2 (by omega) (by omega)) cd_X8_wish bw_831 ⟨Nat.le_of_ble_eq_true rfl, Nat.le_of_ble_eq_true rfl⟩ hcs hP (hDa.to rfl) hE hA hS [15, 16, 17, 18] rfl rfl [mo, st, sp, th] rfl rfl (ci := 5) rfl (q0 := 0) rfl (Nat.le_of_ble_eq_true rfl) hl.1 dL_law_365 (fun H locs hP _ hS => ?_)
  have hP : va_P E.1 vwCl [(xo, .inr (4, [.ref r, .ref r2, .ref r3, .ref d, .ref y, .ref q2, .int sf])), (r, .inr (2, [.ref rc])), (rc, .inl (E.2.1, 293, .inl (cWw f n (xs (i + 1)) (xs (i + 2)) (xs (i + 3))))), (r2, .inr (2, [.ref rc2])), (rc2, .inl (E.2.1, 293, .inl (cp293 f fb))), (r3, .inr (2, [.ref rc3])), (rc3, .inl (E.2.1, 293, .inl ft)), (d, .inr (1, [.ref ch, .ref nu, .int (nI L), .int a, .int b, .int le, .int co, .int mi])), (ch, .inl (E.2.2.1, 80, .inl t)), (nu, .inl (E.2.1, 4, .inl u)), (y, .inr (0, [.ref q, .int (nI (recO (cWv f n (xs (i + 1)) (xs (i + 2)) (xs (i + 3))) o z)), .int (nI (recZ (cWv f n (xs (i + 1)) (xs (i + 2)) (xs (i + 3))) z))])), (q, .inr (3, [.ref w])), (w, .inl (E.2.1, 1758, .inl (recH (cWv f n (xs (i + 1)) (xs (i + 2)) (xs (i + 3))) (cp293 f fb) h o z))), (q2, .inr (3, [.ref w2])), (w2, .inl (E.2.1, 586, .inl sl)), (mo, .inr (5, [.ref st, .ref sp, .ref th, .int (nI (rcN (mWv g n (xs (i + 1)) (xs (i + 2)) (xs (i + 3))) z)), .ref so, .ref sv, .ref pd, .int (nI L), .int (nI ta), .int sg, .ref mu])), (st, .inl (E.2.1, 293, .inl (mWw g n (xs (i + 1)) (xs (i + 2)) (xs (i + 3))))), (sp, .inl (E.2.1, 293, .inl (va_cpy g gp 0 0 293))), (th, .inl (E.2.1, 1758, .inl (rcH (mWv g n (xs (i + 1)) (xs (i + 2)) (xs (i + 3))) z (va_cpy g gp 0 0 293) gh))), (so, .inl (E.2.1, 586, .inl gs)), (sv, .inl (E.2.1, 2, .inl gv)), (pd, .inl (E.2.1, 80, .inl gt)), (mu, .inl (E.2.1, 4, .inl gu))] H := hP
  obtain ⟨e9, hO9⟩ := C_wi hR hAg (xs (i + 1)) (xs (i + 2)) (xs (i + 3))
  refine lv_icmp_eq (tgt := 1008) hx hb dL_law_368 (by decide) (fun _ => ?_) (fun c9 => absurd e9 c9)
  exact hk sf (cWw f n (xs (i + 1)) (xs (i + 2)) (xs (i + 3))) (cp293 f fb) ft L a b le co mi t u (recO (cWv f n (xs (i + 1)) (xs (i + 2)) (xs (i + 3))) o z) (recZ (cWv f n (xs (i + 1)) (xs (i + 2)) (xs (i + 3))) z) (recH (cWv f n (xs (i + 1)) (xs (i + 2)) (xs (i + 3))) (cp293 f fb) h o z) sl L (rcN (mWv g n (xs (i + 1)) (xs (i + 2)) (xs (i + 3))) z) ta sg (mWw g n (xs (i + 1)) (xs (i + 2)) (xs (i + 3))) (va_cpy g gp 0 0 293) (rcH (mWv g n (xs (i + 1)) (xs (i + 2)) (xs (i + 3))) z (va_cpy g gp 0 0 293) gh) gs gv gt gu ⟨hO9, (by rw [← e9]; exact Hist_ch fb gp hH ⟨n, hR, hAg⟩), hSl, hT, rfl, hmi⟩ _ _ hP hS _ hl
set_option maxHeartbeats 4000000 in
set_option maxRecDepth 100000 in
theorem lw_c5 (S : CallFix p m c code 4 s #[Value.ref b9] bw RL) (hE : en E A s s.heap) (hA : ∀ q, s.heap.size ≤ q → A q) (hcs : cells ≤ room_1.cells ∧ slots ≤ room_1.slots) (hX : va_X b9 LL xs s s.heap) (hbl : b9 < s.heap.size) (hbA : ¬ A b9) (hLL : LL ≤ 3072) (hDa : va_Da A [xo, r, rc, r2, rc2, r3, rc3, d, ch, nu, y, q, w, q2, w2, mo, st, sp, th, so, sv, pd, mu]) (hi : i + 6 ≤ LL) (hk : lwK p l e s m below meth c Q E A b9 i cells slots xo r rc r2 rc2 r3 rc3 d ch nu y q w q2 w2 mo st sp th so sv pd mu) (sf : Int32) (f : Nat → Int32) (fb : Nat → Int32) (ft : Nat → Int32) (L : Nat) (a : Int32) (b : Int32) (le : Int32) (co : Int32) (mi : Int32) (t : Nat → Int32) (u : Nat → Int32) (o : Nat) (z : Nat) (h : Nat → Int32) (sl : Nat → Int32) (ln : Nat) (sn : Nat) (ta : Nat) (sg : Int32) (g : Nat → Int32) (gp : Nat → Int32) (gh : Nat → Int32) (gs : Nat → Int32) (gv : Nat → Int32) (gt : Nat → Int32) (gu : Nat → Int32) (h9 : LSt f g o z h sn gh sf sl gs gv L t gt ln mi) (H : Heap) (locs : List Loc) (hP : va_P E.1 vwCl [(xo, .inr (4, [.ref r, .ref r2, .ref r3, .ref d, .ref y, .ref q2, .int sf])), (r, .inr (2, [.ref rc])), (rc, .inl (E.2.1, 293, .inl f)), (r2, .inr (2, [.ref rc2])), (rc2, .inl (E.2.1, 293, .inl fb)), (r3, .inr (2, [.ref rc3])), (rc3, .inl (E.2.1, 293, .inl ft)), (d, .inr (1, [.ref ch, .ref nu, .int (nI L), .int a, .int b, .int le, .int co, .int mi])), (ch, .inl (E.2.2.1, 80, .inl t)), (nu, .inl (E.2.1, 4, .inl u)), (y, .inr (0, [.ref q, .int (nI o), .int (nI z)])), (q, .inr (3, [.ref w])), (w, .inl (E.2.1, 1758, .inl h)), (q2, .inr (3, [.ref w2])), (w2, .inl (E.2.1, 586, .inl sl)), (mo, .inr (5, [.ref st, .ref sp, .ref th, .int (nI sn), .ref so, .ref sv, .ref pd, .int (nI ln), .int (nI ta), .int sg, .ref mu])), (st, .inl (E.2.1, 293, .inl g)), (sp, .inl (E.2.1, 293, .inl gp)), (th, .inl (E.2.1, 1758, .inl gh)), (so, .inl (E.2.1, 586, .inl gs)), (sv, .inl (E.2.1, 2, .inl gv)), (pd, .inl (E.2.1, 80, .inl gt)), (mu, .inl (E.2.1, 4, .inl gu))] H) (hS : va_S A s.heap H locs) (ls : Array Slot) (hl : lv_has ls 4 [(3, .int (nI i)), (2, .ref mo), (1, .ref xo), (0, .ref b9)]) : W p l e room_1 s m #[Value.ref b9] below meth c H locs cells slots Q (F0 m 373 ls []) := by
  have hx := S.1
  have hb := S.2.1
  have hown := S.2.2.2.1
  have hts := S.2.2.2.2
  have hK := hE.1
  obtain ⟨⟨n, hR, hAg⟩, hH, hSl, hT, hln, hmi⟩ := h9
  have hln := hln.symm
  subst hln
  have hsn := hH.2.2.1.symm
  subst hsn
  have hf := R_12 hR
  have hf2 := R_4 hR
  have hn := R_n hR
  have hst := R_st hR
  have ho := hH.1
  have hz := hH.2.1
  have hL := hT.1
  refine lv_aload_n hx hb dL_law_373 rfl (lv_at hl 2 rfl) ?_
  refine lv_aload_n hx hb dL_law_374 rfl (lv_at hl 3 rfl) ?_
  refine lv_iload_n hx hb dL_law_375 rfl (lv_at hl 0 rfl) ?_
  refine lv_iconst (v := nI 1) hx hb dL_law_376 (by decide) ?_
  refine rn_add (a := i) (b := 1) hx hb dL_law_377 ?_
  refine lw_sld hx hb hX hbl hbA hS (show i + 1 < LL by omega) hLL dL_law_378 ?_
  refine lv_aload_n hx hb dL_law_379 rfl (lv_at hl 3 rfl) ?_
  refine lv_iload_n hx hb dL_law_380 rfl (lv_at hl 0 rfl) ?_
  refine lv_iconst (v := nI 2) hx hb dL_law_381 (by decide) ?_
  refine rn_add (a := i) (b := 2) hx hb dL_law_382 ?_
  refine lw_sld hx hb hX hbl hbA hS (show i + 2 < LL by omega) hLL dL_law_383 ?_
  refine rwV2 (rest := []) S (c_X7_move l E xo r r2 r3 d y q2 sf rc f rc2 fb q w o z h n (xs (i + 1)) (xs (i + 2)) hf (by omega) (by omega) (by omega)) cd_X7_move bw_298 ⟨Nat.le_of_ble_eq_true rfl, Nat.le_of_ble_eq_true rfl⟩ hcs hP (hDa.to rfl) hE hA hS [0, 1, 2, 3, 4, 10, 11, 12] rfl rfl [xo, r, rc, r2, rc2, y, q, w] rfl rfl (ci := 4) rfl (q0 := 0) rfl (Nat.le_of_ble_eq_true rfl) hl.1 dL_law_384 (fun H locs hP _ hS => ?_)
  have hP : va_P E.1 vwCl [(xo, .inr (4, [.ref r, .ref r2, .ref r3, .ref d, .ref y, .ref q2, .int sf])), (r, .inr (2, [.ref rc])), (rc, .inl (E.2.1, 293, .inl (cMw f n (xs (i + 1)) (xs (i + 2))))), (r2, .inr (2, [.ref rc2])), (rc2, .inl (E.2.1, 293, .inl (cp293 f fb))), (r3, .inr (2, [.ref rc3])), (rc3, .inl (E.2.1, 293, .inl ft)), (d, .inr (1, [.ref ch, .ref nu, .int (nI L), .int a, .int b, .int le, .int co, .int mi])), (ch, .inl (E.2.2.1, 80, .inl t)), (nu, .inl (E.2.1, 4, .inl u)), (y, .inr (0, [.ref q, .int (nI (recO (cMv f n (xs (i + 1)) (xs (i + 2))) o z)), .int (nI (recZ (cMv f n (xs (i + 1)) (xs (i + 2))) z))])), (q, .inr (3, [.ref w])), (w, .inl (E.2.1, 1758, .inl (recH (cMv f n (xs (i + 1)) (xs (i + 2))) (cp293 f fb) h o z))), (q2, .inr (3, [.ref w2])), (w2, .inl (E.2.1, 586, .inl sl)), (mo, .inr (5, [.ref st, .ref sp, .ref th, .int (nI z), .ref so, .ref sv, .ref pd, .int (nI L), .int (nI ta), .int sg, .ref mu])), (st, .inl (E.2.1, 293, .inl g)), (sp, .inl (E.2.1, 293, .inl gp)), (th, .inl (E.2.1, 1758, .inl gh)), (so, .inl (E.2.1, 586, .inl gs)), (sv, .inl (E.2.1, 2, .inl gv)), (pd, .inl (E.2.1, 80, .inl gt)), (mu, .inl (E.2.1, 4, .inl gu))] H := hP
  refine lv_aload_n hx hb dL_law_387 rfl (lv_at hl 1 rfl) ?_
  refine lv_aload_n hx hb dL_law_388 rfl (lv_at hl 3 rfl) ?_
  refine lv_iload_n hx hb dL_law_389 rfl (lv_at hl 0 rfl) ?_
  refine lv_iconst (v := nI 1) hx hb dL_law_390 (by decide) ?_
  refine rn_add (a := i) (b := 1) hx hb dL_law_391 ?_
  refine lw_sld hx hb hX hbl hbA hS (show i + 1 < LL by omega) hLL dL_law_392 ?_
  refine lv_aload_n hx hb dL_law_393 rfl (lv_at hl 3 rfl) ?_
  refine lv_iload_n hx hb dL_law_394 rfl (lv_at hl 0 rfl) ?_
  refine lv_iconst (v := nI 2) hx hb dL_law_395 (by decide) ?_
  refine rn_add (a := i) (b := 2) hx hb dL_law_396 ?_
  refine lw_sld hx hb hX hbl hbA hS (show i + 2 < LL by omega) hLL dL_law_397 ?_
  refine rwV2 (rest := [.int (cMv f n (xs (i + 1)) (xs (i + 2)))]) S (c_X8_move l E mo st sp th so sv pd mu z L ta sg g gp gh n (xs (i + 1)) (xs (i + 2)) hf2 (by omega) (by omega)) cd_X8_move bw_839 ⟨Nat.le_of_ble_eq_true rfl, Nat.le_of_ble_eq_true rfl⟩ hcs hP (hDa.to rfl) hE hA hS [15, 16, 17, 18] rfl rfl [mo, st, sp, th] rfl rfl (ci := 5) rfl (q0 := 0) rfl (Nat.le_of_ble_eq_true rfl) hl.1 dL_law_398 (fun H locs hP _ hS => ?_)
  have hP : va_P E.1 vwCl [(xo, .inr (4, [.ref r, .ref r2, .ref r3, .ref d, .ref y, .ref q2, .int sf])), (r, .inr (2, [.ref rc])), (rc, .inl (E.2.1, 293, .inl (cMw f n (xs (i + 1)) (xs (i + 2))))), (r2, .inr (2, [.ref rc2])), (rc2, .inl (E.2.1, 293, .inl (cp293 f fb))), (r3, .inr (2, [.ref rc3])), (rc3, .inl (E.2.1, 293, .inl ft)), (d, .inr (1, [.ref ch, .ref nu, .int (nI L), .int a, .int b, .int le, .int co, .int mi])), (ch, .inl (E.2.2.1, 80, .inl t)), (nu, .inl (E.2.1, 4, .inl u)), (y, .inr (0, [.ref q, .int (nI (recO (cMv f n (xs (i + 1)) (xs (i + 2))) o z)), .int (nI (recZ (cMv f n (xs (i + 1)) (xs (i + 2))) z))])), (q, .inr (3, [.ref w])), (w, .inl (E.2.1, 1758, .inl (recH (cMv f n (xs (i + 1)) (xs (i + 2))) (cp293 f fb) h o z))), (q2, .inr (3, [.ref w2])), (w2, .inl (E.2.1, 586, .inl sl)), (mo, .inr (5, [.ref st, .ref sp, .ref th, .int (nI (rcN (mMv g n (xs (i + 1)) (xs (i + 2))) z)), .ref so, .ref sv, .ref pd, .int (nI L), .int (nI ta), .int sg, .ref mu])), (st, .inl (E.2.1, 293, .inl (mMw g n (xs (i + 1)) (xs (i + 2))))), (sp, .inl (E.2.1, 293, .inl (va_cpy g gp 0 0 293))), (th, .inl (E.2.1, 1758, .inl (rcH (mMv g n (xs (i + 1)) (xs (i + 2))) z (va_cpy g gp 0 0 293) gh))), (so, .inl (E.2.1, 586, .inl gs)), (sv, .inl (E.2.1, 2, .inl gv)), (pd, .inl (E.2.1, 80, .inl gt)), (mu, .inl (E.2.1, 4, .inl gu))] H := hP
  obtain ⟨e9, hO9⟩ := C_mo hR hAg (xs (i + 1)) (xs (i + 2))
  refine lv_icmp_eq (tgt := 1008) hx hb dL_law_401 (by decide) (fun _ => ?_) (fun c9 => absurd e9 c9)
  exact hk sf (cMw f n (xs (i + 1)) (xs (i + 2))) (cp293 f fb) ft L a b le co mi t u (recO (cMv f n (xs (i + 1)) (xs (i + 2))) o z) (recZ (cMv f n (xs (i + 1)) (xs (i + 2))) z) (recH (cMv f n (xs (i + 1)) (xs (i + 2))) (cp293 f fb) h o z) sl L (rcN (mMv g n (xs (i + 1)) (xs (i + 2))) z) ta sg (mMw g n (xs (i + 1)) (xs (i + 2))) (va_cpy g gp 0 0 293) (rcH (mMv g n (xs (i + 1)) (xs (i + 2))) z (va_cpy g gp 0 0 293) gh) gs gv gt gu ⟨hO9, (by rw [← e9]; exact Hist_ch fb gp hH ⟨n, hR, hAg⟩), hSl, hT, rfl, hmi⟩ _ _ hP hS _ hl
set_option maxHeartbeats 4000000 in
set_option maxRecDepth 100000 in
theorem lw_c6 (S : CallFix p m c code 4 s #[Value.ref b9] bw RL) (hE : en E A s s.heap) (hA : ∀ q, s.heap.size ≤ q → A q) (hcs : cells ≤ room_1.cells ∧ slots ≤ room_1.slots) (hX : va_X b9 LL xs s s.heap) (hbl : b9 < s.heap.size) (hbA : ¬ A b9) (hLL : LL ≤ 3072) (hDa : va_Da A [xo, r, rc, r2, rc2, r3, rc3, d, ch, nu, y, q, w, q2, w2, mo, st, sp, th, so, sv, pd, mu]) (hi : i + 6 ≤ LL) (hk : lwK p l e s m below meth c Q E A b9 i cells slots xo r rc r2 rc2 r3 rc3 d ch nu y q w q2 w2 mo st sp th so sv pd mu) (sf : Int32) (f : Nat → Int32) (fb : Nat → Int32) (ft : Nat → Int32) (L : Nat) (a : Int32) (b : Int32) (le : Int32) (co : Int32) (mi : Int32) (t : Nat → Int32) (u : Nat → Int32) (o : Nat) (z : Nat) (h : Nat → Int32) (sl : Nat → Int32) (ln : Nat) (sn : Nat) (ta : Nat) (sg : Int32) (g : Nat → Int32) (gp : Nat → Int32) (gh : Nat → Int32) (gs : Nat → Int32) (gv : Nat → Int32) (gt : Nat → Int32) (gu : Nat → Int32) (h9 : LSt f g o z h sn gh sf sl gs gv L t gt ln mi) (H : Heap) (locs : List Loc) (hP : va_P E.1 vwCl [(xo, .inr (4, [.ref r, .ref r2, .ref r3, .ref d, .ref y, .ref q2, .int sf])), (r, .inr (2, [.ref rc])), (rc, .inl (E.2.1, 293, .inl f)), (r2, .inr (2, [.ref rc2])), (rc2, .inl (E.2.1, 293, .inl fb)), (r3, .inr (2, [.ref rc3])), (rc3, .inl (E.2.1, 293, .inl ft)), (d, .inr (1, [.ref ch, .ref nu, .int (nI L), .int a, .int b, .int le, .int co, .int mi])), (ch, .inl (E.2.2.1, 80, .inl t)), (nu, .inl (E.2.1, 4, .inl u)), (y, .inr (0, [.ref q, .int (nI o), .int (nI z)])), (q, .inr (3, [.ref w])), (w, .inl (E.2.1, 1758, .inl h)), (q2, .inr (3, [.ref w2])), (w2, .inl (E.2.1, 586, .inl sl)), (mo, .inr (5, [.ref st, .ref sp, .ref th, .int (nI sn), .ref so, .ref sv, .ref pd, .int (nI ln), .int (nI ta), .int sg, .ref mu])), (st, .inl (E.2.1, 293, .inl g)), (sp, .inl (E.2.1, 293, .inl gp)), (th, .inl (E.2.1, 1758, .inl gh)), (so, .inl (E.2.1, 586, .inl gs)), (sv, .inl (E.2.1, 2, .inl gv)), (pd, .inl (E.2.1, 80, .inl gt)), (mu, .inl (E.2.1, 4, .inl gu))] H) (hS : va_S A s.heap H locs) (ls : Array Slot) (hl : lv_has ls 4 [(3, .int (nI i)), (2, .ref mo), (1, .ref xo), (0, .ref b9)]) : W p l e room_1 s m #[Value.ref b9] below meth c H locs cells slots Q (F0 m 406 ls []) := by
  have hx := S.1
  have hb := S.2.1
  have hown := S.2.2.2.1
  have hts := S.2.2.2.2
  have hK := hE.1
  obtain ⟨⟨n, hR, hAg⟩, hH, hSl, hT, hln, hmi⟩ := h9
  have hln := hln.symm
  subst hln
  have hsn := hH.2.2.1.symm
  subst hsn
  have hf := R_12 hR
  have hf2 := R_4 hR
  have hn := R_n hR
  have hst := R_st hR
  have ho := hH.1
  have hz := hH.2.1
  have hL := hT.1
  refine lv_aload_n hx hb dL_law_406 rfl (lv_at hl 2 rfl) ?_
  refine lv_aload_n hx hb dL_law_407 rfl (lv_at hl 3 rfl) ?_
  refine lv_iload_n hx hb dL_law_408 rfl (lv_at hl 0 rfl) ?_
  refine lv_iconst (v := nI 1) hx hb dL_law_409 (by decide) ?_
  refine rn_add (a := i) (b := 1) hx hb dL_law_410 ?_
  refine lw_sld hx hb hX hbl hbA hS (show i + 1 < LL by omega) hLL dL_law_411 ?_
  refine lv_aload_n hx hb dL_law_412 rfl (lv_at hl 3 rfl) ?_
  refine lv_iload_n hx hb dL_law_413 rfl (lv_at hl 0 rfl) ?_
  refine lv_iconst (v := nI 2) hx hb dL_law_414 (by decide) ?_
  refine rn_add (a := i) (b := 2) hx hb dL_law_415 ?_
  refine lw_sld hx hb hX hbl hbA hS (show i + 2 < LL by omega) hLL dL_law_416 ?_
  refine rwV2 (rest := []) S (c_X7_split l E xo r r2 r3 d y q2 sf rc f rc2 fb q w o z h n (xs (i + 1)) (xs (i + 2)) hf (by omega) (by omega) (by omega)) cd_X7_split bw_312 ⟨Nat.le_of_ble_eq_true rfl, Nat.le_of_ble_eq_true rfl⟩ hcs hP (hDa.to rfl) hE hA hS [0, 1, 2, 3, 4, 10, 11, 12] rfl rfl [xo, r, rc, r2, rc2, y, q, w] rfl rfl (ci := 4) rfl (q0 := 0) rfl (Nat.le_of_ble_eq_true rfl) hl.1 dL_law_417 (fun H locs hP _ hS => ?_)
  have hP : va_P E.1 vwCl [(xo, .inr (4, [.ref r, .ref r2, .ref r3, .ref d, .ref y, .ref q2, .int sf])), (r, .inr (2, [.ref rc])), (rc, .inl (E.2.1, 293, .inl (cPw f n (xs (i + 1)) (xs (i + 2))))), (r2, .inr (2, [.ref rc2])), (rc2, .inl (E.2.1, 293, .inl (cp293 f fb))), (r3, .inr (2, [.ref rc3])), (rc3, .inl (E.2.1, 293, .inl ft)), (d, .inr (1, [.ref ch, .ref nu, .int (nI L), .int a, .int b, .int le, .int co, .int mi])), (ch, .inl (E.2.2.1, 80, .inl t)), (nu, .inl (E.2.1, 4, .inl u)), (y, .inr (0, [.ref q, .int (nI (recO (cPv f n (xs (i + 1)) (xs (i + 2))) o z)), .int (nI (recZ (cPv f n (xs (i + 1)) (xs (i + 2))) z))])), (q, .inr (3, [.ref w])), (w, .inl (E.2.1, 1758, .inl (recH (cPv f n (xs (i + 1)) (xs (i + 2))) (cp293 f fb) h o z))), (q2, .inr (3, [.ref w2])), (w2, .inl (E.2.1, 586, .inl sl)), (mo, .inr (5, [.ref st, .ref sp, .ref th, .int (nI z), .ref so, .ref sv, .ref pd, .int (nI L), .int (nI ta), .int sg, .ref mu])), (st, .inl (E.2.1, 293, .inl g)), (sp, .inl (E.2.1, 293, .inl gp)), (th, .inl (E.2.1, 1758, .inl gh)), (so, .inl (E.2.1, 586, .inl gs)), (sv, .inl (E.2.1, 2, .inl gv)), (pd, .inl (E.2.1, 80, .inl gt)), (mu, .inl (E.2.1, 4, .inl gu))] H := hP
  refine lv_aload_n hx hb dL_law_420 rfl (lv_at hl 1 rfl) ?_
  refine lv_aload_n hx hb dL_law_421 rfl (lv_at hl 3 rfl) ?_
  refine lv_iload_n hx hb dL_law_422 rfl (lv_at hl 0 rfl) ?_
  refine lv_iconst (v := nI 1) hx hb dL_law_423 (by decide) ?_
  refine rn_add (a := i) (b := 1) hx hb dL_law_424 ?_
  refine lw_sld hx hb hX hbl hbA hS (show i + 1 < LL by omega) hLL dL_law_425 ?_
  refine lv_aload_n hx hb dL_law_426 rfl (lv_at hl 3 rfl) ?_
  refine lv_iload_n hx hb dL_law_427 rfl (lv_at hl 0 rfl) ?_
  refine lv_iconst (v := nI 2) hx hb dL_law_428 (by decide) ?_
  refine rn_add (a := i) (b := 2) hx hb dL_law_429 ?_
  refine lw_sld hx hb hX hbl hbA hS (show i + 2 < LL by omega) hLL dL_law_430 ?_
  refine rwV2 (rest := [.int (cPv f n (xs (i + 1)) (xs (i + 2)))]) S (c_X8_split l E mo st sp th so sv pd mu z L ta sg g gp gh n (xs (i + 1)) (xs (i + 2)) hf2 (by omega) (by omega)) cd_X8_split bw_854 ⟨Nat.le_of_ble_eq_true rfl, Nat.le_of_ble_eq_true rfl⟩ hcs hP (hDa.to rfl) hE hA hS [15, 16, 17, 18] rfl rfl [mo, st, sp, th] rfl rfl (ci := 5) rfl (q0 := 0) rfl (Nat.le_of_ble_eq_true rfl) hl.1 dL_law_431 (fun H locs hP _ hS => ?_)
  have hP : va_P E.1 vwCl [(xo, .inr (4, [.ref r, .ref r2, .ref r3, .ref d, .ref y, .ref q2, .int sf])), (r, .inr (2, [.ref rc])), (rc, .inl (E.2.1, 293, .inl (cPw f n (xs (i + 1)) (xs (i + 2))))), (r2, .inr (2, [.ref rc2])), (rc2, .inl (E.2.1, 293, .inl (cp293 f fb))), (r3, .inr (2, [.ref rc3])), (rc3, .inl (E.2.1, 293, .inl ft)), (d, .inr (1, [.ref ch, .ref nu, .int (nI L), .int a, .int b, .int le, .int co, .int mi])), (ch, .inl (E.2.2.1, 80, .inl t)), (nu, .inl (E.2.1, 4, .inl u)), (y, .inr (0, [.ref q, .int (nI (recO (cPv f n (xs (i + 1)) (xs (i + 2))) o z)), .int (nI (recZ (cPv f n (xs (i + 1)) (xs (i + 2))) z))])), (q, .inr (3, [.ref w])), (w, .inl (E.2.1, 1758, .inl (recH (cPv f n (xs (i + 1)) (xs (i + 2))) (cp293 f fb) h o z))), (q2, .inr (3, [.ref w2])), (w2, .inl (E.2.1, 586, .inl sl)), (mo, .inr (5, [.ref st, .ref sp, .ref th, .int (nI (rcN (mPv g n (xs (i + 1)) (xs (i + 2))) z)), .ref so, .ref sv, .ref pd, .int (nI L), .int (nI ta), .int sg, .ref mu])), (st, .inl (E.2.1, 293, .inl (mPw g n (xs (i + 1)) (xs (i + 2))))), (sp, .inl (E.2.1, 293, .inl (va_cpy g gp 0 0 293))), (th, .inl (E.2.1, 1758, .inl (rcH (mPv g n (xs (i + 1)) (xs (i + 2))) z (va_cpy g gp 0 0 293) gh))), (so, .inl (E.2.1, 586, .inl gs)), (sv, .inl (E.2.1, 2, .inl gv)), (pd, .inl (E.2.1, 80, .inl gt)), (mu, .inl (E.2.1, 4, .inl gu))] H := hP
  obtain ⟨e9, hO9⟩ := C_sp hR hAg (xs (i + 1)) (xs (i + 2))
  refine lv_icmp_eq (tgt := 1008) hx hb dL_law_434 (by decide) (fun _ => ?_) (fun c9 => absurd e9 c9)
  exact hk sf (cPw f n (xs (i + 1)) (xs (i + 2))) (cp293 f fb) ft L a b le co mi t u (recO (cPv f n (xs (i + 1)) (xs (i + 2))) o z) (recZ (cPv f n (xs (i + 1)) (xs (i + 2))) z) (recH (cPv f n (xs (i + 1)) (xs (i + 2))) (cp293 f fb) h o z) sl L (rcN (mPv g n (xs (i + 1)) (xs (i + 2))) z) ta sg (mPw g n (xs (i + 1)) (xs (i + 2))) (va_cpy g gp 0 0 293) (rcH (mPv g n (xs (i + 1)) (xs (i + 2))) z (va_cpy g gp 0 0 293) gh) gs gv gt gu ⟨hO9, (by rw [← e9]; exact Hist_ch fb gp hH ⟨n, hR, hAg⟩), hSl, hT, rfl, hmi⟩ _ _ hP hS _ hl
set_option maxHeartbeats 4000000 in
set_option maxRecDepth 100000 in
theorem lw_c7 (S : CallFix p m c code 4 s #[Value.ref b9] bw RL) (hE : en E A s s.heap) (hA : ∀ q, s.heap.size ≤ q → A q) (hcs : cells ≤ room_1.cells ∧ slots ≤ room_1.slots) (hX : va_X b9 LL xs s s.heap) (hbl : b9 < s.heap.size) (hbA : ¬ A b9) (hLL : LL ≤ 3072) (hDa : va_Da A [xo, r, rc, r2, rc2, r3, rc3, d, ch, nu, y, q, w, q2, w2, mo, st, sp, th, so, sv, pd, mu]) (hi : i + 6 ≤ LL) (hk : lwK p l e s m below meth c Q E A b9 i cells slots xo r rc r2 rc2 r3 rc3 d ch nu y q w q2 w2 mo st sp th so sv pd mu) (sf : Int32) (f : Nat → Int32) (fb : Nat → Int32) (ft : Nat → Int32) (L : Nat) (a : Int32) (b : Int32) (le : Int32) (co : Int32) (mi : Int32) (t : Nat → Int32) (u : Nat → Int32) (o : Nat) (z : Nat) (h : Nat → Int32) (sl : Nat → Int32) (ln : Nat) (sn : Nat) (ta : Nat) (sg : Int32) (g : Nat → Int32) (gp : Nat → Int32) (gh : Nat → Int32) (gs : Nat → Int32) (gv : Nat → Int32) (gt : Nat → Int32) (gu : Nat → Int32) (h9 : LSt f g o z h sn gh sf sl gs gv L t gt ln mi) (H : Heap) (locs : List Loc) (hP : va_P E.1 vwCl [(xo, .inr (4, [.ref r, .ref r2, .ref r3, .ref d, .ref y, .ref q2, .int sf])), (r, .inr (2, [.ref rc])), (rc, .inl (E.2.1, 293, .inl f)), (r2, .inr (2, [.ref rc2])), (rc2, .inl (E.2.1, 293, .inl fb)), (r3, .inr (2, [.ref rc3])), (rc3, .inl (E.2.1, 293, .inl ft)), (d, .inr (1, [.ref ch, .ref nu, .int (nI L), .int a, .int b, .int le, .int co, .int mi])), (ch, .inl (E.2.2.1, 80, .inl t)), (nu, .inl (E.2.1, 4, .inl u)), (y, .inr (0, [.ref q, .int (nI o), .int (nI z)])), (q, .inr (3, [.ref w])), (w, .inl (E.2.1, 1758, .inl h)), (q2, .inr (3, [.ref w2])), (w2, .inl (E.2.1, 586, .inl sl)), (mo, .inr (5, [.ref st, .ref sp, .ref th, .int (nI sn), .ref so, .ref sv, .ref pd, .int (nI ln), .int (nI ta), .int sg, .ref mu])), (st, .inl (E.2.1, 293, .inl g)), (sp, .inl (E.2.1, 293, .inl gp)), (th, .inl (E.2.1, 1758, .inl gh)), (so, .inl (E.2.1, 586, .inl gs)), (sv, .inl (E.2.1, 2, .inl gv)), (pd, .inl (E.2.1, 80, .inl gt)), (mu, .inl (E.2.1, 4, .inl gu))] H) (hS : va_S A s.heap H locs) (ls : Array Slot) (hl : lv_has ls 4 [(3, .int (nI i)), (2, .ref mo), (1, .ref xo), (0, .ref b9)]) : W p l e room_1 s m #[Value.ref b9] below meth c H locs cells slots Q (F0 m 439 ls []) := by
  have hx := S.1
  have hb := S.2.1
  have hown := S.2.2.2.1
  have hts := S.2.2.2.2
  have hK := hE.1
  obtain ⟨⟨n, hR, hAg⟩, hH, hSl, hT, hln, hmi⟩ := h9
  have hln := hln.symm
  subst hln
  have hsn := hH.2.2.1.symm
  subst hsn
  have hf := R_12 hR
  have hf2 := R_4 hR
  have hn := R_n hR
  have hst := R_st hR
  have ho := hH.1
  have hz := hH.2.1
  have hL := hT.1
  refine lv_aload_n hx hb dL_law_439 rfl (lv_at hl 2 rfl) ?_
  refine lv_aload_n hx hb dL_law_440 rfl (lv_at hl 3 rfl) ?_
  refine lv_iload_n hx hb dL_law_441 rfl (lv_at hl 0 rfl) ?_
  refine lv_iconst (v := nI 1) hx hb dL_law_442 (by decide) ?_
  refine rn_add (a := i) (b := 1) hx hb dL_law_443 ?_
  refine lw_sld hx hb hX hbl hbA hS (show i + 1 < LL by omega) hLL dL_law_444 ?_
  refine rwV1 (rest := []) S (c_X7_join l E xo r r2 r3 d y q2 sf rc f rc2 fb q w o z h n (xs (i + 1)) hf (by omega) (by omega) (by omega)) cd_X7_join bw_319 ⟨Nat.le_of_ble_eq_true rfl, Nat.le_of_ble_eq_true rfl⟩ hcs hP (hDa.to rfl) hE hA hS [0, 1, 2, 3, 4, 10, 11, 12] rfl rfl [xo, r, rc, r2, rc2, y, q, w] rfl rfl (ci := 4) rfl (q0 := 0) rfl (Nat.le_of_ble_eq_true rfl) hl.1 dL_law_445 (fun H locs hP _ hS => ?_)
  have hP : va_P E.1 vwCl [(xo, .inr (4, [.ref r, .ref r2, .ref r3, .ref d, .ref y, .ref q2, .int sf])), (r, .inr (2, [.ref rc])), (rc, .inl (E.2.1, 293, .inl (cJw f n (xs (i + 1))))), (r2, .inr (2, [.ref rc2])), (rc2, .inl (E.2.1, 293, .inl (cp293 f fb))), (r3, .inr (2, [.ref rc3])), (rc3, .inl (E.2.1, 293, .inl ft)), (d, .inr (1, [.ref ch, .ref nu, .int (nI L), .int a, .int b, .int le, .int co, .int mi])), (ch, .inl (E.2.2.1, 80, .inl t)), (nu, .inl (E.2.1, 4, .inl u)), (y, .inr (0, [.ref q, .int (nI (recO (cJv f n (xs (i + 1))) o z)), .int (nI (recZ (cJv f n (xs (i + 1))) z))])), (q, .inr (3, [.ref w])), (w, .inl (E.2.1, 1758, .inl (recH (cJv f n (xs (i + 1))) (cp293 f fb) h o z))), (q2, .inr (3, [.ref w2])), (w2, .inl (E.2.1, 586, .inl sl)), (mo, .inr (5, [.ref st, .ref sp, .ref th, .int (nI z), .ref so, .ref sv, .ref pd, .int (nI L), .int (nI ta), .int sg, .ref mu])), (st, .inl (E.2.1, 293, .inl g)), (sp, .inl (E.2.1, 293, .inl gp)), (th, .inl (E.2.1, 1758, .inl gh)), (so, .inl (E.2.1, 586, .inl gs)), (sv, .inl (E.2.1, 2, .inl gv)), (pd, .inl (E.2.1, 80, .inl gt)), (mu, .inl (E.2.1, 4, .inl gu))] H := hP
  refine lv_aload_n hx hb dL_law_448 rfl (lv_at hl 1 rfl) ?_
  refine lv_aload_n hx hb dL_law_449 rfl (lv_at hl 3 rfl) ?_
  refine lv_iload_n hx hb dL_law_450 rfl (lv_at hl 0 rfl) ?_
  refine lv_iconst (v := nI 1) hx hb dL_law_451 (by decide) ?_
  refine rn_add (a := i) (b := 1) hx hb dL_law_452 ?_
  refine lw_sld hx hb hX hbl hbA hS (show i + 1 < LL by omega) hLL dL_law_453 ?_
  refine rwV1 (rest := [.int (cJv f n (xs (i + 1)))]) S (c_X8_join l E mo st sp th so sv pd mu z L ta sg g gp gh n (xs (i + 1)) hf2 (by omega) (by omega)) cd_X8_join bw_862 ⟨Nat.le_of_ble_eq_true rfl, Nat.le_of_ble_eq_true rfl⟩ hcs hP (hDa.to rfl) hE hA hS [15, 16, 17, 18] rfl rfl [mo, st, sp, th] rfl rfl (ci := 5) rfl (q0 := 0) rfl (Nat.le_of_ble_eq_true rfl) hl.1 dL_law_454 (fun H locs hP _ hS => ?_)
  have hP : va_P E.1 vwCl [(xo, .inr (4, [.ref r, .ref r2, .ref r3, .ref d, .ref y, .ref q2, .int sf])), (r, .inr (2, [.ref rc])), (rc, .inl (E.2.1, 293, .inl (cJw f n (xs (i + 1))))), (r2, .inr (2, [.ref rc2])), (rc2, .inl (E.2.1, 293, .inl (cp293 f fb))), (r3, .inr (2, [.ref rc3])), (rc3, .inl (E.2.1, 293, .inl ft)), (d, .inr (1, [.ref ch, .ref nu, .int (nI L), .int a, .int b, .int le, .int co, .int mi])), (ch, .inl (E.2.2.1, 80, .inl t)), (nu, .inl (E.2.1, 4, .inl u)), (y, .inr (0, [.ref q, .int (nI (recO (cJv f n (xs (i + 1))) o z)), .int (nI (recZ (cJv f n (xs (i + 1))) z))])), (q, .inr (3, [.ref w])), (w, .inl (E.2.1, 1758, .inl (recH (cJv f n (xs (i + 1))) (cp293 f fb) h o z))), (q2, .inr (3, [.ref w2])), (w2, .inl (E.2.1, 586, .inl sl)), (mo, .inr (5, [.ref st, .ref sp, .ref th, .int (nI (rcN (mJv g n (xs (i + 1))) z)), .ref so, .ref sv, .ref pd, .int (nI L), .int (nI ta), .int sg, .ref mu])), (st, .inl (E.2.1, 293, .inl (mJw g n (xs (i + 1))))), (sp, .inl (E.2.1, 293, .inl (va_cpy g gp 0 0 293))), (th, .inl (E.2.1, 1758, .inl (rcH (mJv g n (xs (i + 1))) z (va_cpy g gp 0 0 293) gh))), (so, .inl (E.2.1, 586, .inl gs)), (sv, .inl (E.2.1, 2, .inl gv)), (pd, .inl (E.2.1, 80, .inl gt)), (mu, .inl (E.2.1, 4, .inl gu))] H := hP
  obtain ⟨e9, hO9⟩ := C_jo hR hAg (xs (i + 1))
  refine lv_icmp_eq (tgt := 1008) hx hb dL_law_457 (by decide) (fun _ => ?_) (fun c9 => absurd e9 c9)
  exact hk sf (cJw f n (xs (i + 1))) (cp293 f fb) ft L a b le co mi t u (recO (cJv f n (xs (i + 1))) o z) (recZ (cJv f n (xs (i + 1))) z) (recH (cJv f n (xs (i + 1))) (cp293 f fb) h o z) sl L (rcN (mJv g n (xs (i + 1))) z) ta sg (mJw g n (xs (i + 1))) (va_cpy g gp 0 0 293) (rcH (mJv g n (xs (i + 1))) z (va_cpy g gp 0 0 293) gh) gs gv gt gu ⟨hO9, (by rw [← e9]; exact Hist_ch fb gp hH ⟨n, hR, hAg⟩), hSl, hT, rfl, hmi⟩ _ _ hP hS _ hl
set_option maxHeartbeats 4000000 in
set_option maxRecDepth 100000 in
theorem lw_c8 (S : CallFix p m c code 4 s #[Value.ref b9] bw RL) (hE : en E A s s.heap) (hA : ∀ q, s.heap.size ≤ q → A q) (hcs : cells ≤ room_1.cells ∧ slots ≤ room_1.slots) (hX : va_X b9 LL xs s s.heap) (hbl : b9 < s.heap.size) (hbA : ¬ A b9) (hLL : LL ≤ 3072) (hDa : va_Da A [xo, r, rc, r2, rc2, r3, rc3, d, ch, nu, y, q, w, q2, w2, mo, st, sp, th, so, sv, pd, mu]) (hi : i + 6 ≤ LL) (hk : lwK p l e s m below meth c Q E A b9 i cells slots xo r rc r2 rc2 r3 rc3 d ch nu y q w q2 w2 mo st sp th so sv pd mu) (sf : Int32) (f : Nat → Int32) (fb : Nat → Int32) (ft : Nat → Int32) (L : Nat) (a : Int32) (b : Int32) (le : Int32) (co : Int32) (mi : Int32) (t : Nat → Int32) (u : Nat → Int32) (o : Nat) (z : Nat) (h : Nat → Int32) (sl : Nat → Int32) (ln : Nat) (sn : Nat) (ta : Nat) (sg : Int32) (g : Nat → Int32) (gp : Nat → Int32) (gh : Nat → Int32) (gs : Nat → Int32) (gv : Nat → Int32) (gt : Nat → Int32) (gu : Nat → Int32) (h9 : LSt f g o z h sn gh sf sl gs gv L t gt ln mi) (H : Heap) (locs : List Loc) (hP : va_P E.1 vwCl [(xo, .inr (4, [.ref r, .ref r2, .ref r3, .ref d, .ref y, .ref q2, .int sf])), (r, .inr (2, [.ref rc])), (rc, .inl (E.2.1, 293, .inl f)), (r2, .inr (2, [.ref rc2])), (rc2, .inl (E.2.1, 293, .inl fb)), (r3, .inr (2, [.ref rc3])), (rc3, .inl (E.2.1, 293, .inl ft)), (d, .inr (1, [.ref ch, .ref nu, .int (nI L), .int a, .int b, .int le, .int co, .int mi])), (ch, .inl (E.2.2.1, 80, .inl t)), (nu, .inl (E.2.1, 4, .inl u)), (y, .inr (0, [.ref q, .int (nI o), .int (nI z)])), (q, .inr (3, [.ref w])), (w, .inl (E.2.1, 1758, .inl h)), (q2, .inr (3, [.ref w2])), (w2, .inl (E.2.1, 586, .inl sl)), (mo, .inr (5, [.ref st, .ref sp, .ref th, .int (nI sn), .ref so, .ref sv, .ref pd, .int (nI ln), .int (nI ta), .int sg, .ref mu])), (st, .inl (E.2.1, 293, .inl g)), (sp, .inl (E.2.1, 293, .inl gp)), (th, .inl (E.2.1, 1758, .inl gh)), (so, .inl (E.2.1, 586, .inl gs)), (sv, .inl (E.2.1, 2, .inl gv)), (pd, .inl (E.2.1, 80, .inl gt)), (mu, .inl (E.2.1, 4, .inl gu))] H) (hS : va_S A s.heap H locs) (ls : Array Slot) (hl : lv_has ls 4 [(3, .int (nI i)), (2, .ref mo), (1, .ref xo), (0, .ref b9)]) : W p l e room_1 s m #[Value.ref b9] below meth c H locs cells slots Q (F0 m 462 ls []) := by
  have hx := S.1
  have hb := S.2.1
  have hown := S.2.2.2.1
  have hts := S.2.2.2.2
  have hK := hE.1
  obtain ⟨⟨n, hR, hAg⟩, hH, hSl, hT, hln, hmi⟩ := h9
  have hln := hln.symm
  subst hln
  have hsn := hH.2.2.1.symm
  subst hsn
  have hf := R_12 hR
  have hf2 := R_4 hR
  have hn := R_n hR
  have hst := R_st hR
  have ho := hH.1
  have hz := hH.2.1
  have hL := hT.1
  refine lv_aload_n hx hb dL_law_462 rfl (lv_at hl 2 rfl) ?_
  refine rwV0 (rest := []) S (c_X7_print l E xo r r2 r3 d y q2 sf rc f rc2 fb q w o z h n hf (by omega) (by omega) (by omega)) cd_X7_print bw_329 ⟨Nat.le_of_ble_eq_true rfl, Nat.le_of_ble_eq_true rfl⟩ hcs hP (hDa.to rfl) hE hA hS [0, 1, 2, 3, 4, 10, 11, 12] rfl rfl [xo, r, rc, r2, rc2, y, q, w] rfl rfl (ci := 4) rfl (q0 := 0) rfl (Nat.le_of_ble_eq_true rfl) hl.1 dL_law_463 (fun H locs hP _ hS => ?_)
  have hP : va_P E.1 vwCl [(xo, .inr (4, [.ref r, .ref r2, .ref r3, .ref d, .ref y, .ref q2, .int sf])), (r, .inr (2, [.ref rc])), (rc, .inl (E.2.1, 293, .inl (cKw f n))), (r2, .inr (2, [.ref rc2])), (rc2, .inl (E.2.1, 293, .inl (cp293 f fb))), (r3, .inr (2, [.ref rc3])), (rc3, .inl (E.2.1, 293, .inl ft)), (d, .inr (1, [.ref ch, .ref nu, .int (nI L), .int a, .int b, .int le, .int co, .int mi])), (ch, .inl (E.2.2.1, 80, .inl t)), (nu, .inl (E.2.1, 4, .inl u)), (y, .inr (0, [.ref q, .int (nI (recO (cKv f n) o z)), .int (nI (recZ (cKv f n) z))])), (q, .inr (3, [.ref w])), (w, .inl (E.2.1, 1758, .inl (recH (cKv f n) (cp293 f fb) h o z))), (q2, .inr (3, [.ref w2])), (w2, .inl (E.2.1, 586, .inl sl)), (mo, .inr (5, [.ref st, .ref sp, .ref th, .int (nI z), .ref so, .ref sv, .ref pd, .int (nI L), .int (nI ta), .int sg, .ref mu])), (st, .inl (E.2.1, 293, .inl g)), (sp, .inl (E.2.1, 293, .inl gp)), (th, .inl (E.2.1, 1758, .inl gh)), (so, .inl (E.2.1, 586, .inl gs)), (sv, .inl (E.2.1, 2, .inl gv)), (pd, .inl (E.2.1, 80, .inl gt)), (mu, .inl (E.2.1, 4, .inl gu))] H := hP
  refine lv_aload_n hx hb dL_law_466 rfl (lv_at hl 1 rfl) ?_
  refine rwV0 (rest := [.int (cKv f n)]) S (c_X8_print l E mo st sp th so sv pd mu z L ta sg g gp gh n hf2 (by omega) (by omega)) cd_X8_print bw_874 ⟨Nat.le_of_ble_eq_true rfl, Nat.le_of_ble_eq_true rfl⟩ hcs hP (hDa.to rfl) hE hA hS [15, 16, 17, 18] rfl rfl [mo, st, sp, th] rfl rfl (ci := 5) rfl (q0 := 0) rfl (Nat.le_of_ble_eq_true rfl) hl.1 dL_law_467 (fun H locs hP _ hS => ?_)
  have hP : va_P E.1 vwCl [(xo, .inr (4, [.ref r, .ref r2, .ref r3, .ref d, .ref y, .ref q2, .int sf])), (r, .inr (2, [.ref rc])), (rc, .inl (E.2.1, 293, .inl (cKw f n))), (r2, .inr (2, [.ref rc2])), (rc2, .inl (E.2.1, 293, .inl (cp293 f fb))), (r3, .inr (2, [.ref rc3])), (rc3, .inl (E.2.1, 293, .inl ft)), (d, .inr (1, [.ref ch, .ref nu, .int (nI L), .int a, .int b, .int le, .int co, .int mi])), (ch, .inl (E.2.2.1, 80, .inl t)), (nu, .inl (E.2.1, 4, .inl u)), (y, .inr (0, [.ref q, .int (nI (recO (cKv f n) o z)), .int (nI (recZ (cKv f n) z))])), (q, .inr (3, [.ref w])), (w, .inl (E.2.1, 1758, .inl (recH (cKv f n) (cp293 f fb) h o z))), (q2, .inr (3, [.ref w2])), (w2, .inl (E.2.1, 586, .inl sl)), (mo, .inr (5, [.ref st, .ref sp, .ref th, .int (nI (rcN (mKv g n) z)), .ref so, .ref sv, .ref pd, .int (nI L), .int (nI ta), .int sg, .ref mu])), (st, .inl (E.2.1, 293, .inl (mQw g n))), (sp, .inl (E.2.1, 293, .inl (va_cpy g gp 0 0 293))), (th, .inl (E.2.1, 1758, .inl (rcH (mKv g n) z (va_cpy g gp 0 0 293) gh))), (so, .inl (E.2.1, 586, .inl gs)), (sv, .inl (E.2.1, 2, .inl gv)), (pd, .inl (E.2.1, 80, .inl gt)), (mu, .inl (E.2.1, 4, .inl gu))] H := hP
  obtain ⟨e9, hO9⟩ := C_pr hR hAg 
  refine lv_icmp_eq (tgt := 1008) hx hb dL_law_470 (by decide) (fun _ => ?_) (fun c9 => absurd e9 c9)
  exact hk sf (cKw f n) (cp293 f fb) ft L a b le co mi t u (recO (cKv f n) o z) (recZ (cKv f n) z) (recH (cKv f n) (cp293 f fb) h o z) sl L (rcN (mKv g n) z) ta sg (mQw g n) (va_cpy g gp 0 0 293) (rcH (mKv g n) z (va_cpy g gp 0 0 293) gh) gs gv gt gu ⟨hO9, (by rw [← e9]; exact Hist_ch fb gp hH ⟨n, hR, hAg⟩), hSl, hT, rfl, hmi⟩ _ _ hP hS _ hl
set_option maxHeartbeats 4000000 in
set_option maxRecDepth 100000 in
theorem lw_c9 (S : CallFix p m c code 4 s #[Value.ref b9] bw RL) (hE : en E A s s.heap) (hA : ∀ q, s.heap.size ≤ q → A q) (hcs : cells ≤ room_1.cells ∧ slots ≤ room_1.slots) (hX : va_X b9 LL xs s s.heap) (hbl : b9 < s.heap.size) (hbA : ¬ A b9) (hLL : LL ≤ 3072) (hDa : va_Da A [xo, r, rc, r2, rc2, r3, rc3, d, ch, nu, y, q, w, q2, w2, mo, st, sp, th, so, sv, pd, mu]) (hi : i + 6 ≤ LL) (hk : lwK p l e s m below meth c Q E A b9 i cells slots xo r rc r2 rc2 r3 rc3 d ch nu y q w q2 w2 mo st sp th so sv pd mu) (sf : Int32) (f : Nat → Int32) (fb : Nat → Int32) (ft : Nat → Int32) (L : Nat) (a : Int32) (b : Int32) (le : Int32) (co : Int32) (mi : Int32) (t : Nat → Int32) (u : Nat → Int32) (o : Nat) (z : Nat) (h : Nat → Int32) (sl : Nat → Int32) (ln : Nat) (sn : Nat) (ta : Nat) (sg : Int32) (g : Nat → Int32) (gp : Nat → Int32) (gh : Nat → Int32) (gs : Nat → Int32) (gv : Nat → Int32) (gt : Nat → Int32) (gu : Nat → Int32) (h9 : LSt f g o z h sn gh sf sl gs gv L t gt ln mi) (H : Heap) (locs : List Loc) (hP : va_P E.1 vwCl [(xo, .inr (4, [.ref r, .ref r2, .ref r3, .ref d, .ref y, .ref q2, .int sf])), (r, .inr (2, [.ref rc])), (rc, .inl (E.2.1, 293, .inl f)), (r2, .inr (2, [.ref rc2])), (rc2, .inl (E.2.1, 293, .inl fb)), (r3, .inr (2, [.ref rc3])), (rc3, .inl (E.2.1, 293, .inl ft)), (d, .inr (1, [.ref ch, .ref nu, .int (nI L), .int a, .int b, .int le, .int co, .int mi])), (ch, .inl (E.2.2.1, 80, .inl t)), (nu, .inl (E.2.1, 4, .inl u)), (y, .inr (0, [.ref q, .int (nI o), .int (nI z)])), (q, .inr (3, [.ref w])), (w, .inl (E.2.1, 1758, .inl h)), (q2, .inr (3, [.ref w2])), (w2, .inl (E.2.1, 586, .inl sl)), (mo, .inr (5, [.ref st, .ref sp, .ref th, .int (nI sn), .ref so, .ref sv, .ref pd, .int (nI ln), .int (nI ta), .int sg, .ref mu])), (st, .inl (E.2.1, 293, .inl g)), (sp, .inl (E.2.1, 293, .inl gp)), (th, .inl (E.2.1, 1758, .inl gh)), (so, .inl (E.2.1, 586, .inl gs)), (sv, .inl (E.2.1, 2, .inl gv)), (pd, .inl (E.2.1, 80, .inl gt)), (mu, .inl (E.2.1, 4, .inl gu))] H) (hS : va_S A s.heap H locs) (ls : Array Slot) (hl : lv_has ls 4 [(3, .int (nI i)), (2, .ref mo), (1, .ref xo), (0, .ref b9)]) : W p l e room_1 s m #[Value.ref b9] below meth c H locs cells slots Q (F0 m 475 ls []) := by
  have hx := S.1
  have hb := S.2.1
  have hown := S.2.2.2.1
  have hts := S.2.2.2.2
  have hK := hE.1
  obtain ⟨⟨n, hR, hAg⟩, hH, hSl, hT, hln, hmi⟩ := h9
  have hln := hln.symm
  subst hln
  have hsn := hH.2.2.1.symm
  subst hsn
  have hf := R_12 hR
  have hf2 := R_4 hR
  have hn := R_n hR
  have hst := R_st hR
  have ho := hH.1
  have hz := hH.2.1
  have hL := hT.1
  refine lv_aload_n hx hb dL_law_475 rfl (lv_at hl 2 rfl) ?_
  refine lv_aload_n hx hb dL_law_476 rfl (lv_at hl 3 rfl) ?_
  refine lv_iload_n hx hb dL_law_477 rfl (lv_at hl 0 rfl) ?_
  refine lv_iconst (v := nI 1) hx hb dL_law_478 (by decide) ?_
  refine rn_add (a := i) (b := 1) hx hb dL_law_479 ?_
  refine lw_sld hx hb hX hbl hbA hS (show i + 1 < LL by omega) hLL dL_law_480 ?_
  refine rwV1 (rest := []) S (c_X7_correct l E xo r r2 r3 d y q2 sf rc f rc2 fb q w o z h n (xs (i + 1)) hf (by omega) (by omega) (by omega)) cd_X7_correct bw_368 ⟨Nat.le_of_ble_eq_true rfl, Nat.le_of_ble_eq_true rfl⟩ hcs hP (hDa.to rfl) hE hA hS [0, 1, 2, 3, 4, 10, 11, 12] rfl rfl [xo, r, rc, r2, rc2, y, q, w] rfl rfl (ci := 4) rfl (q0 := 0) rfl (Nat.le_of_ble_eq_true rfl) hl.1 dL_law_481 (fun H locs hP _ hS => ?_)
  have hP : va_P E.1 vwCl [(xo, .inr (4, [.ref r, .ref r2, .ref r3, .ref d, .ref y, .ref q2, .int sf])), (r, .inr (2, [.ref rc])), (rc, .inl (E.2.1, 293, .inl (cCw f n (xs (i + 1))))), (r2, .inr (2, [.ref rc2])), (rc2, .inl (E.2.1, 293, .inl (cp293 f fb))), (r3, .inr (2, [.ref rc3])), (rc3, .inl (E.2.1, 293, .inl ft)), (d, .inr (1, [.ref ch, .ref nu, .int (nI L), .int a, .int b, .int le, .int co, .int mi])), (ch, .inl (E.2.2.1, 80, .inl t)), (nu, .inl (E.2.1, 4, .inl u)), (y, .inr (0, [.ref q, .int (nI (recO (cCv f n (xs (i + 1))) o z)), .int (nI (recZ (cCv f n (xs (i + 1))) z))])), (q, .inr (3, [.ref w])), (w, .inl (E.2.1, 1758, .inl (recH (cCv f n (xs (i + 1))) (cp293 f fb) h o z))), (q2, .inr (3, [.ref w2])), (w2, .inl (E.2.1, 586, .inl sl)), (mo, .inr (5, [.ref st, .ref sp, .ref th, .int (nI z), .ref so, .ref sv, .ref pd, .int (nI L), .int (nI ta), .int sg, .ref mu])), (st, .inl (E.2.1, 293, .inl g)), (sp, .inl (E.2.1, 293, .inl gp)), (th, .inl (E.2.1, 1758, .inl gh)), (so, .inl (E.2.1, 586, .inl gs)), (sv, .inl (E.2.1, 2, .inl gv)), (pd, .inl (E.2.1, 80, .inl gt)), (mu, .inl (E.2.1, 4, .inl gu))] H := hP
  refine lv_aload_n hx hb dL_law_484 rfl (lv_at hl 1 rfl) ?_
  refine lv_aload_n hx hb dL_law_485 rfl (lv_at hl 3 rfl) ?_
  refine lv_iload_n hx hb dL_law_486 rfl (lv_at hl 0 rfl) ?_
  refine lv_iconst (v := nI 1) hx hb dL_law_487 (by decide) ?_
  refine rn_add (a := i) (b := 1) hx hb dL_law_488 ?_
  refine lw_sld hx hb hX hbl hbA hS (show i + 1 < LL by omega) hLL dL_law_489 ?_
  refine rwV1 (rest := [.int (cCv f n (xs (i + 1)))]) S (c_X8_correct l E mo st sp th so sv pd mu z L ta sg g gp gh n (xs (i + 1)) hf2 (by omega) (by omega) hst) cd_X8_correct bw_928 ⟨Nat.le_of_ble_eq_true rfl, Nat.le_of_ble_eq_true rfl⟩ hcs hP (hDa.to rfl) hE hA hS [15, 16, 17, 18] rfl rfl [mo, st, sp, th] rfl rfl (ci := 5) rfl (q0 := 0) rfl (Nat.le_of_ble_eq_true rfl) hl.1 dL_law_490 (fun H locs hP _ hS => ?_)
  have hP : va_P E.1 vwCl [(xo, .inr (4, [.ref r, .ref r2, .ref r3, .ref d, .ref y, .ref q2, .int sf])), (r, .inr (2, [.ref rc])), (rc, .inl (E.2.1, 293, .inl (cCw f n (xs (i + 1))))), (r2, .inr (2, [.ref rc2])), (rc2, .inl (E.2.1, 293, .inl (cp293 f fb))), (r3, .inr (2, [.ref rc3])), (rc3, .inl (E.2.1, 293, .inl ft)), (d, .inr (1, [.ref ch, .ref nu, .int (nI L), .int a, .int b, .int le, .int co, .int mi])), (ch, .inl (E.2.2.1, 80, .inl t)), (nu, .inl (E.2.1, 4, .inl u)), (y, .inr (0, [.ref q, .int (nI (recO (cCv f n (xs (i + 1))) o z)), .int (nI (recZ (cCv f n (xs (i + 1))) z))])), (q, .inr (3, [.ref w])), (w, .inl (E.2.1, 1758, .inl (recH (cCv f n (xs (i + 1))) (cp293 f fb) h o z))), (q2, .inr (3, [.ref w2])), (w2, .inl (E.2.1, 586, .inl sl)), (mo, .inr (5, [.ref st, .ref sp, .ref th, .int (nI (rcN (mCv g n (xs (i + 1))) z)), .ref so, .ref sv, .ref pd, .int (nI L), .int (nI ta), .int sg, .ref mu])), (st, .inl (E.2.1, 293, .inl (mCw g n (xs (i + 1))))), (sp, .inl (E.2.1, 293, .inl (va_cpy g gp 0 0 293))), (th, .inl (E.2.1, 1758, .inl (rcH (mCv g n (xs (i + 1))) z (va_cpy g gp 0 0 293) gh))), (so, .inl (E.2.1, 586, .inl gs)), (sv, .inl (E.2.1, 2, .inl gv)), (pd, .inl (E.2.1, 80, .inl gt)), (mu, .inl (E.2.1, 4, .inl gu))] H := hP
  obtain ⟨e9, hO9⟩ := C_cr hR hAg (xs (i + 1))
  refine lv_icmp_eq (tgt := 1008) hx hb dL_law_493 (by decide) (fun _ => ?_) (fun c9 => absurd e9 c9)
  exact hk sf (cCw f n (xs (i + 1))) (cp293 f fb) ft L a b le co mi t u (recO (cCv f n (xs (i + 1))) o z) (recZ (cCv f n (xs (i + 1))) z) (recH (cCv f n (xs (i + 1))) (cp293 f fb) h o z) sl L (rcN (mCv g n (xs (i + 1))) z) ta sg (mCw g n (xs (i + 1))) (va_cpy g gp 0 0 293) (rcH (mCv g n (xs (i + 1))) z (va_cpy g gp 0 0 293) gh) gs gv gt gu ⟨hO9, (by rw [← e9]; exact Hist_ch fb gp hH ⟨n, hR, hAg⟩), hSl, hT, rfl, hmi⟩ _ _ hP hS _ hl
set_option maxHeartbeats 4000000 in
set_option maxRecDepth 100000 in
theorem lw_c10 (S : CallFix p m c code 4 s #[Value.ref b9] bw RL) (hE : en E A s s.heap) (hA : ∀ q, s.heap.size ≤ q → A q) (hcs : cells ≤ room_1.cells ∧ slots ≤ room_1.slots) (hX : va_X b9 LL xs s s.heap) (hbl : b9 < s.heap.size) (hbA : ¬ A b9) (hLL : LL ≤ 3072) (hDa : va_Da A [xo, r, rc, r2, rc2, r3, rc3, d, ch, nu, y, q, w, q2, w2, mo, st, sp, th, so, sv, pd, mu]) (hi : i + 6 ≤ LL) (hk : lwK p l e s m below meth c Q E A b9 i cells slots xo r rc r2 rc2 r3 rc3 d ch nu y q w q2 w2 mo st sp th so sv pd mu) (sf : Int32) (f : Nat → Int32) (fb : Nat → Int32) (ft : Nat → Int32) (L : Nat) (a : Int32) (b : Int32) (le : Int32) (co : Int32) (mi : Int32) (t : Nat → Int32) (u : Nat → Int32) (o : Nat) (z : Nat) (h : Nat → Int32) (sl : Nat → Int32) (ln : Nat) (sn : Nat) (ta : Nat) (sg : Int32) (g : Nat → Int32) (gp : Nat → Int32) (gh : Nat → Int32) (gs : Nat → Int32) (gv : Nat → Int32) (gt : Nat → Int32) (gu : Nat → Int32) (h9 : LSt f g o z h sn gh sf sl gs gv L t gt ln mi) (H : Heap) (locs : List Loc) (hP : va_P E.1 vwCl [(xo, .inr (4, [.ref r, .ref r2, .ref r3, .ref d, .ref y, .ref q2, .int sf])), (r, .inr (2, [.ref rc])), (rc, .inl (E.2.1, 293, .inl f)), (r2, .inr (2, [.ref rc2])), (rc2, .inl (E.2.1, 293, .inl fb)), (r3, .inr (2, [.ref rc3])), (rc3, .inl (E.2.1, 293, .inl ft)), (d, .inr (1, [.ref ch, .ref nu, .int (nI L), .int a, .int b, .int le, .int co, .int mi])), (ch, .inl (E.2.2.1, 80, .inl t)), (nu, .inl (E.2.1, 4, .inl u)), (y, .inr (0, [.ref q, .int (nI o), .int (nI z)])), (q, .inr (3, [.ref w])), (w, .inl (E.2.1, 1758, .inl h)), (q2, .inr (3, [.ref w2])), (w2, .inl (E.2.1, 586, .inl sl)), (mo, .inr (5, [.ref st, .ref sp, .ref th, .int (nI sn), .ref so, .ref sv, .ref pd, .int (nI ln), .int (nI ta), .int sg, .ref mu])), (st, .inl (E.2.1, 293, .inl g)), (sp, .inl (E.2.1, 293, .inl gp)), (th, .inl (E.2.1, 1758, .inl gh)), (so, .inl (E.2.1, 586, .inl gs)), (sv, .inl (E.2.1, 2, .inl gv)), (pd, .inl (E.2.1, 80, .inl gt)), (mu, .inl (E.2.1, 4, .inl gu))] H) (hS : va_S A s.heap H locs) (ls : Array Slot) (hl : lv_has ls 4 [(3, .int (nI i)), (2, .ref mo), (1, .ref xo), (0, .ref b9)]) : W p l e room_1 s m #[Value.ref b9] below meth c H locs cells slots Q (F0 m 498 ls []) := by
  have hx := S.1
  have hb := S.2.1
  have hown := S.2.2.2.1
  have hts := S.2.2.2.2
  have hK := hE.1
  obtain ⟨⟨n, hR, hAg⟩, hH, hSl, hT, hln, hmi⟩ := h9
  have hln := hln.symm
  subst hln
  have hsn := hH.2.2.1.symm
  subst hsn
  have hf := R_12 hR
  have hf2 := R_4 hR
  have hn := R_n hR
  have hst := R_st hR
  have ho := hH.1
  have hz := hH.2.1
  have hL := hT.1
  refine lv_aload_n hx hb dL_law_498 rfl (lv_at hl 2 rfl) ?_
  refine rwV0 (rest := []) S (c_X7_correctAll l E xo r r2 r3 d y q2 sf rc f rc2 fb q w o z h n hf (by omega) (by omega) (by omega)) cd_X7_correctAll bw_381 ⟨Nat.le_of_ble_eq_true rfl, Nat.le_of_ble_eq_true rfl⟩ hcs hP (hDa.to rfl) hE hA hS [0, 1, 2, 3, 4, 10, 11, 12] rfl rfl [xo, r, rc, r2, rc2, y, q, w] rfl rfl (ci := 4) rfl (q0 := 0) rfl (Nat.le_of_ble_eq_true rfl) hl.1 dL_law_499 (fun H locs hP _ hS => ?_)
  have hP : va_P E.1 vwCl [(xo, .inr (4, [.ref r, .ref r2, .ref r3, .ref d, .ref y, .ref q2, .int sf])), (r, .inr (2, [.ref rc])), (rc, .inl (E.2.1, 293, .inl (cZw f n))), (r2, .inr (2, [.ref rc2])), (rc2, .inl (E.2.1, 293, .inl (cp293 f fb))), (r3, .inr (2, [.ref rc3])), (rc3, .inl (E.2.1, 293, .inl ft)), (d, .inr (1, [.ref ch, .ref nu, .int (nI L), .int a, .int b, .int le, .int co, .int mi])), (ch, .inl (E.2.2.1, 80, .inl t)), (nu, .inl (E.2.1, 4, .inl u)), (y, .inr (0, [.ref q, .int (nI (recO (cZv f n) o z)), .int (nI (recZ (cZv f n) z))])), (q, .inr (3, [.ref w])), (w, .inl (E.2.1, 1758, .inl (recH (cZv f n) (cp293 f fb) h o z))), (q2, .inr (3, [.ref w2])), (w2, .inl (E.2.1, 586, .inl sl)), (mo, .inr (5, [.ref st, .ref sp, .ref th, .int (nI z), .ref so, .ref sv, .ref pd, .int (nI L), .int (nI ta), .int sg, .ref mu])), (st, .inl (E.2.1, 293, .inl g)), (sp, .inl (E.2.1, 293, .inl gp)), (th, .inl (E.2.1, 1758, .inl gh)), (so, .inl (E.2.1, 586, .inl gs)), (sv, .inl (E.2.1, 2, .inl gv)), (pd, .inl (E.2.1, 80, .inl gt)), (mu, .inl (E.2.1, 4, .inl gu))] H := hP
  refine lv_aload_n hx hb dL_law_502 rfl (lv_at hl 1 rfl) ?_
  refine rwV0 (rest := [.int (cZv f n)]) S (c_X8_correctAll l E mo st sp th so sv pd mu z L ta sg g gp gh n hf2 (by omega) (by omega) hst) cd_X8_correctAll bw_940 ⟨Nat.le_of_ble_eq_true rfl, Nat.le_of_ble_eq_true rfl⟩ hcs hP (hDa.to rfl) hE hA hS [15, 16, 17, 18] rfl rfl [mo, st, sp, th] rfl rfl (ci := 5) rfl (q0 := 0) rfl (Nat.le_of_ble_eq_true rfl) hl.1 dL_law_503 (fun H locs hP _ hS => ?_)
  have hP : va_P E.1 vwCl [(xo, .inr (4, [.ref r, .ref r2, .ref r3, .ref d, .ref y, .ref q2, .int sf])), (r, .inr (2, [.ref rc])), (rc, .inl (E.2.1, 293, .inl (cZw f n))), (r2, .inr (2, [.ref rc2])), (rc2, .inl (E.2.1, 293, .inl (cp293 f fb))), (r3, .inr (2, [.ref rc3])), (rc3, .inl (E.2.1, 293, .inl ft)), (d, .inr (1, [.ref ch, .ref nu, .int (nI L), .int a, .int b, .int le, .int co, .int mi])), (ch, .inl (E.2.2.1, 80, .inl t)), (nu, .inl (E.2.1, 4, .inl u)), (y, .inr (0, [.ref q, .int (nI (recO (cZv f n) o z)), .int (nI (recZ (cZv f n) z))])), (q, .inr (3, [.ref w])), (w, .inl (E.2.1, 1758, .inl (recH (cZv f n) (cp293 f fb) h o z))), (q2, .inr (3, [.ref w2])), (w2, .inl (E.2.1, 586, .inl sl)), (mo, .inr (5, [.ref st, .ref sp, .ref th, .int (nI (rcN (mZv g n) z)), .ref so, .ref sv, .ref pd, .int (nI L), .int (nI ta), .int sg, .ref mu])), (st, .inl (E.2.1, 293, .inl (mZw g n))), (sp, .inl (E.2.1, 293, .inl (va_cpy g gp 0 0 293))), (th, .inl (E.2.1, 1758, .inl (rcH (mZv g n) z (va_cpy g gp 0 0 293) gh))), (so, .inl (E.2.1, 586, .inl gs)), (sv, .inl (E.2.1, 2, .inl gv)), (pd, .inl (E.2.1, 80, .inl gt)), (mu, .inl (E.2.1, 4, .inl gu))] H := hP
  obtain ⟨e9, hO9⟩ := C_ca hR hAg 
  refine lv_icmp_eq (tgt := 1008) hx hb dL_law_506 (by decide) (fun _ => ?_) (fun c9 => absurd e9 c9)
  exact hk sf (cZw f n) (cp293 f fb) ft L a b le co mi t u (recO (cZv f n) o z) (recZ (cZv f n) z) (recH (cZv f n) (cp293 f fb) h o z) sl L (rcN (mZv g n) z) ta sg (mZw g n) (va_cpy g gp 0 0 293) (rcH (mZv g n) z (va_cpy g gp 0 0 293) gh) gs gv gt gu ⟨hO9, (by rw [← e9]; exact Hist_ch fb gp hH ⟨n, hR, hAg⟩), hSl, hT, rfl, hmi⟩ _ _ hP hS _ hl
set_option maxHeartbeats 4000000 in
set_option maxRecDepth 100000 in
theorem lw_c11 (S : CallFix p m c code 4 s #[Value.ref b9] bw RL) (hE : en E A s s.heap) (hA : ∀ q, s.heap.size ≤ q → A q) (hcs : cells ≤ room_1.cells ∧ slots ≤ room_1.slots) (hX : va_X b9 LL xs s s.heap) (hbl : b9 < s.heap.size) (hbA : ¬ A b9) (hLL : LL ≤ 3072) (hDa : va_Da A [xo, r, rc, r2, rc2, r3, rc3, d, ch, nu, y, q, w, q2, w2, mo, st, sp, th, so, sv, pd, mu]) (hi : i + 6 ≤ LL) (hk : lwK p l e s m below meth c Q E A b9 i cells slots xo r rc r2 rc2 r3 rc3 d ch nu y q w q2 w2 mo st sp th so sv pd mu) (sf : Int32) (f : Nat → Int32) (fb : Nat → Int32) (ft : Nat → Int32) (L : Nat) (a : Int32) (b : Int32) (le : Int32) (co : Int32) (mi : Int32) (t : Nat → Int32) (u : Nat → Int32) (o : Nat) (z : Nat) (h : Nat → Int32) (sl : Nat → Int32) (ln : Nat) (sn : Nat) (ta : Nat) (sg : Int32) (g : Nat → Int32) (gp : Nat → Int32) (gh : Nat → Int32) (gs : Nat → Int32) (gv : Nat → Int32) (gt : Nat → Int32) (gu : Nat → Int32) (h9 : LSt f g o z h sn gh sf sl gs gv L t gt ln mi) (H : Heap) (locs : List Loc) (hP : va_P E.1 vwCl [(xo, .inr (4, [.ref r, .ref r2, .ref r3, .ref d, .ref y, .ref q2, .int sf])), (r, .inr (2, [.ref rc])), (rc, .inl (E.2.1, 293, .inl f)), (r2, .inr (2, [.ref rc2])), (rc2, .inl (E.2.1, 293, .inl fb)), (r3, .inr (2, [.ref rc3])), (rc3, .inl (E.2.1, 293, .inl ft)), (d, .inr (1, [.ref ch, .ref nu, .int (nI L), .int a, .int b, .int le, .int co, .int mi])), (ch, .inl (E.2.2.1, 80, .inl t)), (nu, .inl (E.2.1, 4, .inl u)), (y, .inr (0, [.ref q, .int (nI o), .int (nI z)])), (q, .inr (3, [.ref w])), (w, .inl (E.2.1, 1758, .inl h)), (q2, .inr (3, [.ref w2])), (w2, .inl (E.2.1, 586, .inl sl)), (mo, .inr (5, [.ref st, .ref sp, .ref th, .int (nI sn), .ref so, .ref sv, .ref pd, .int (nI ln), .int (nI ta), .int sg, .ref mu])), (st, .inl (E.2.1, 293, .inl g)), (sp, .inl (E.2.1, 293, .inl gp)), (th, .inl (E.2.1, 1758, .inl gh)), (so, .inl (E.2.1, 586, .inl gs)), (sv, .inl (E.2.1, 2, .inl gv)), (pd, .inl (E.2.1, 80, .inl gt)), (mu, .inl (E.2.1, 4, .inl gu))] H) (hS : va_S A s.heap H locs) (ls : Array Slot) (hl : lv_has ls 4 [(3, .int (nI i)), (2, .ref mo), (1, .ref xo), (0, .ref b9)]) : W p l e room_1 s m #[Value.ref b9] below meth c H locs cells slots Q (F0 m 511 ls []) := by
  have hx := S.1
  have hb := S.2.1
  have hown := S.2.2.2.1
  have hts := S.2.2.2.2
  have hK := hE.1
  obtain ⟨⟨n, hR, hAg⟩, hH, hSl, hT, hln, hmi⟩ := h9
  have hln := hln.symm
  subst hln
  have hsn := hH.2.2.1.symm
  subst hsn
  have hf := R_12 hR
  have hf2 := R_4 hR
  have hn := R_n hR
  have hst := R_st hR
  have ho := hH.1
  have hz := hH.2.1
  have hL := hT.1
  refine lv_aload_n hx hb dL_law_511 rfl (lv_at hl 2 rfl) ?_
  refine rwV0 (rest := []) S (c_X7_card l E xo r r2 r3 d y q2 sf rc f rc2 fb q w o z h (by omega) (by omega)) cd_X7_card bw_389 ⟨Nat.le_of_ble_eq_true rfl, Nat.le_of_ble_eq_true rfl⟩ hcs hP (hDa.to rfl) hE hA hS [0, 1, 2, 3, 4, 10, 11, 12] rfl rfl [xo, r, rc, r2, rc2, y, q, w] rfl rfl (ci := 4) rfl (q0 := 0) rfl (Nat.le_of_ble_eq_true rfl) hl.1 dL_law_512 (fun H locs hP _ hS => ?_)
  have hP : va_P E.1 vwCl [(xo, .inr (4, [.ref r, .ref r2, .ref r3, .ref d, .ref y, .ref q2, .int sf])), (r, .inr (2, [.ref rc])), (rc, .inl (E.2.1, 293, .inl (cTw f))), (r2, .inr (2, [.ref rc2])), (rc2, .inl (E.2.1, 293, .inl (cp293 f fb))), (r3, .inr (2, [.ref rc3])), (rc3, .inl (E.2.1, 293, .inl ft)), (d, .inr (1, [.ref ch, .ref nu, .int (nI L), .int a, .int b, .int le, .int co, .int mi])), (ch, .inl (E.2.2.1, 80, .inl t)), (nu, .inl (E.2.1, 4, .inl u)), (y, .inr (0, [.ref q, .int (nI (recO (cTv f) o z)), .int (nI (recZ (cTv f) z))])), (q, .inr (3, [.ref w])), (w, .inl (E.2.1, 1758, .inl (recH (cTv f) (cp293 f fb) h o z))), (q2, .inr (3, [.ref w2])), (w2, .inl (E.2.1, 586, .inl sl)), (mo, .inr (5, [.ref st, .ref sp, .ref th, .int (nI z), .ref so, .ref sv, .ref pd, .int (nI L), .int (nI ta), .int sg, .ref mu])), (st, .inl (E.2.1, 293, .inl g)), (sp, .inl (E.2.1, 293, .inl gp)), (th, .inl (E.2.1, 1758, .inl gh)), (so, .inl (E.2.1, 586, .inl gs)), (sv, .inl (E.2.1, 2, .inl gv)), (pd, .inl (E.2.1, 80, .inl gt)), (mu, .inl (E.2.1, 4, .inl gu))] H := hP
  refine lv_aload_n hx hb dL_law_515 rfl (lv_at hl 1 rfl) ?_
  refine rwV0 (rest := [.int (cTv f)]) S (c_X8_card l E mo st sp th so sv pd mu z L ta sg g gp gh (by omega)) cd_X8_card bw_948 ⟨Nat.le_of_ble_eq_true rfl, Nat.le_of_ble_eq_true rfl⟩ hcs hP (hDa.to rfl) hE hA hS [15, 16, 17, 18] rfl rfl [mo, st, sp, th] rfl rfl (ci := 5) rfl (q0 := 0) rfl (Nat.le_of_ble_eq_true rfl) hl.1 dL_law_516 (fun H locs hP _ hS => ?_)
  have hP : va_P E.1 vwCl [(xo, .inr (4, [.ref r, .ref r2, .ref r3, .ref d, .ref y, .ref q2, .int sf])), (r, .inr (2, [.ref rc])), (rc, .inl (E.2.1, 293, .inl (cTw f))), (r2, .inr (2, [.ref rc2])), (rc2, .inl (E.2.1, 293, .inl (cp293 f fb))), (r3, .inr (2, [.ref rc3])), (rc3, .inl (E.2.1, 293, .inl ft)), (d, .inr (1, [.ref ch, .ref nu, .int (nI L), .int a, .int b, .int le, .int co, .int mi])), (ch, .inl (E.2.2.1, 80, .inl t)), (nu, .inl (E.2.1, 4, .inl u)), (y, .inr (0, [.ref q, .int (nI (recO (cTv f) o z)), .int (nI (recZ (cTv f) z))])), (q, .inr (3, [.ref w])), (w, .inl (E.2.1, 1758, .inl (recH (cTv f) (cp293 f fb) h o z))), (q2, .inr (3, [.ref w2])), (w2, .inl (E.2.1, 586, .inl sl)), (mo, .inr (5, [.ref st, .ref sp, .ref th, .int (nI (rcN (mTn g 3) z)), .ref so, .ref sv, .ref pd, .int (nI L), .int (nI ta), .int sg, .ref mu])), (st, .inl (E.2.1, 293, .inl (mTc g 3))), (sp, .inl (E.2.1, 293, .inl (va_cpy g gp 0 0 293))), (th, .inl (E.2.1, 1758, .inl (rcH (mTn g 3) z (va_cpy g gp 0 0 293) gh))), (so, .inl (E.2.1, 586, .inl gs)), (sv, .inl (E.2.1, 2, .inl gv)), (pd, .inl (E.2.1, 80, .inl gt)), (mu, .inl (E.2.1, 4, .inl gu))] H := hP
  obtain ⟨e9, hO9⟩ := C_cd hR hAg 
  refine lv_icmp_eq (tgt := 1008) hx hb dL_law_519 (by decide) (fun _ => ?_) (fun c9 => absurd e9 c9)
  exact hk sf (cTw f) (cp293 f fb) ft L a b le co mi t u (recO (cTv f) o z) (recZ (cTv f) z) (recH (cTv f) (cp293 f fb) h o z) sl L (rcN (mTn g 3) z) ta sg (mTc g 3) (va_cpy g gp 0 0 293) (rcH (mTn g 3) z (va_cpy g gp 0 0 293) gh) gs gv gt gu ⟨hO9, (by rw [← e9]; exact Hist_ch fb gp hH ⟨n, hR, hAg⟩), hSl, hT, rfl, hmi⟩ _ _ hP hS _ hl
set_option maxHeartbeats 4000000 in
set_option maxRecDepth 100000 in
theorem lw_c12 (S : CallFix p m c code 4 s #[Value.ref b9] bw RL) (hE : en E A s s.heap) (hA : ∀ q, s.heap.size ≤ q → A q) (hcs : cells ≤ room_1.cells ∧ slots ≤ room_1.slots) (hX : va_X b9 LL xs s s.heap) (hbl : b9 < s.heap.size) (hbA : ¬ A b9) (hLL : LL ≤ 3072) (hDa : va_Da A [xo, r, rc, r2, rc2, r3, rc3, d, ch, nu, y, q, w, q2, w2, mo, st, sp, th, so, sv, pd, mu]) (hi : i + 6 ≤ LL) (hk : lwK p l e s m below meth c Q E A b9 i cells slots xo r rc r2 rc2 r3 rc3 d ch nu y q w q2 w2 mo st sp th so sv pd mu) (sf : Int32) (f : Nat → Int32) (fb : Nat → Int32) (ft : Nat → Int32) (L : Nat) (a : Int32) (b : Int32) (le : Int32) (co : Int32) (mi : Int32) (t : Nat → Int32) (u : Nat → Int32) (o : Nat) (z : Nat) (h : Nat → Int32) (sl : Nat → Int32) (ln : Nat) (sn : Nat) (ta : Nat) (sg : Int32) (g : Nat → Int32) (gp : Nat → Int32) (gh : Nat → Int32) (gs : Nat → Int32) (gv : Nat → Int32) (gt : Nat → Int32) (gu : Nat → Int32) (h9 : LSt f g o z h sn gh sf sl gs gv L t gt ln mi) (H : Heap) (locs : List Loc) (hP : va_P E.1 vwCl [(xo, .inr (4, [.ref r, .ref r2, .ref r3, .ref d, .ref y, .ref q2, .int sf])), (r, .inr (2, [.ref rc])), (rc, .inl (E.2.1, 293, .inl f)), (r2, .inr (2, [.ref rc2])), (rc2, .inl (E.2.1, 293, .inl fb)), (r3, .inr (2, [.ref rc3])), (rc3, .inl (E.2.1, 293, .inl ft)), (d, .inr (1, [.ref ch, .ref nu, .int (nI L), .int a, .int b, .int le, .int co, .int mi])), (ch, .inl (E.2.2.1, 80, .inl t)), (nu, .inl (E.2.1, 4, .inl u)), (y, .inr (0, [.ref q, .int (nI o), .int (nI z)])), (q, .inr (3, [.ref w])), (w, .inl (E.2.1, 1758, .inl h)), (q2, .inr (3, [.ref w2])), (w2, .inl (E.2.1, 586, .inl sl)), (mo, .inr (5, [.ref st, .ref sp, .ref th, .int (nI sn), .ref so, .ref sv, .ref pd, .int (nI ln), .int (nI ta), .int sg, .ref mu])), (st, .inl (E.2.1, 293, .inl g)), (sp, .inl (E.2.1, 293, .inl gp)), (th, .inl (E.2.1, 1758, .inl gh)), (so, .inl (E.2.1, 586, .inl gs)), (sv, .inl (E.2.1, 2, .inl gv)), (pd, .inl (E.2.1, 80, .inl gt)), (mu, .inl (E.2.1, 4, .inl gu))] H) (hS : va_S A s.heap H locs) (ls : Array Slot) (hl : lv_has ls 4 [(3, .int (nI i)), (2, .ref mo), (1, .ref xo), (0, .ref b9)]) : W p l e room_1 s m #[Value.ref b9] below meth c H locs cells slots Q (F0 m 524 ls []) := by
  have hx := S.1
  have hb := S.2.1
  have hown := S.2.2.2.1
  have hts := S.2.2.2.2
  have hK := hE.1
  obtain ⟨⟨n, hR, hAg⟩, hH, hSl, hT, hln, hmi⟩ := h9
  have hln := hln.symm
  subst hln
  have hsn := hH.2.2.1.symm
  subst hsn
  have hf := R_12 hR
  have hf2 := R_4 hR
  have hn := R_n hR
  have hst := R_st hR
  have ho := hH.1
  have hz := hH.2.1
  have hL := hT.1
  refine lv_aload_n hx hb dL_law_524 rfl (lv_at hl 2 rfl) ?_
  refine lv_aload_n hx hb dL_law_525 rfl (lv_at hl 3 rfl) ?_
  refine lv_iload_n hx hb dL_law_526 rfl (lv_at hl 0 rfl) ?_
  refine lv_iconst (v := nI 1) hx hb dL_law_527 (by decide) ?_
  refine rn_add (a := i) (b := 1) hx hb dL_law_528 ?_
  refine lw_sld hx hb hX hbl hbA hS (show i + 1 < LL by omega) hLL dL_law_529 ?_
  refine lv_aload_n hx hb dL_law_530 rfl (lv_at hl 3 rfl) ?_
  refine lv_iload_n hx hb dL_law_531 rfl (lv_at hl 0 rfl) ?_
  refine lv_iconst (v := nI 2) hx hb dL_law_532 (by decide) ?_
  refine rn_add (a := i) (b := 2) hx hb dL_law_533 ?_
  refine lw_sld hx hb hX hbl hbA hS (show i + 2 < LL by omega) hLL dL_law_534 ?_
  refine rwV2 (rest := []) S (c_X7_trim l E xo r r2 r3 d y q2 sf rc f rc2 fb q w o z h (xs (i + 1)) (xs (i + 2)) (by omega) (by omega)) cd_X7_trim bw_398 ⟨Nat.le_of_ble_eq_true rfl, Nat.le_of_ble_eq_true rfl⟩ hcs hP (hDa.to rfl) hE hA hS [0, 1, 2, 3, 4, 10, 11, 12] rfl rfl [xo, r, rc, r2, rc2, y, q, w] rfl rfl (ci := 4) rfl (q0 := 0) rfl (Nat.le_of_ble_eq_true rfl) hl.1 dL_law_535 (fun H locs hP _ hS => ?_)
  have hP : va_P E.1 vwCl [(xo, .inr (4, [.ref r, .ref r2, .ref r3, .ref d, .ref y, .ref q2, .int sf])), (r, .inr (2, [.ref rc])), (rc, .inl (E.2.1, 293, .inl (cUw f (xs (i + 1)) (xs (i + 2))))), (r2, .inr (2, [.ref rc2])), (rc2, .inl (E.2.1, 293, .inl (cp293 f fb))), (r3, .inr (2, [.ref rc3])), (rc3, .inl (E.2.1, 293, .inl ft)), (d, .inr (1, [.ref ch, .ref nu, .int (nI L), .int a, .int b, .int le, .int co, .int mi])), (ch, .inl (E.2.2.1, 80, .inl t)), (nu, .inl (E.2.1, 4, .inl u)), (y, .inr (0, [.ref q, .int (nI (recO (cUv f (xs (i + 1)) (xs (i + 2))) o z)), .int (nI (recZ (cUv f (xs (i + 1)) (xs (i + 2))) z))])), (q, .inr (3, [.ref w])), (w, .inl (E.2.1, 1758, .inl (recH (cUv f (xs (i + 1)) (xs (i + 2))) (cp293 f fb) h o z))), (q2, .inr (3, [.ref w2])), (w2, .inl (E.2.1, 586, .inl sl)), (mo, .inr (5, [.ref st, .ref sp, .ref th, .int (nI z), .ref so, .ref sv, .ref pd, .int (nI L), .int (nI ta), .int sg, .ref mu])), (st, .inl (E.2.1, 293, .inl g)), (sp, .inl (E.2.1, 293, .inl gp)), (th, .inl (E.2.1, 1758, .inl gh)), (so, .inl (E.2.1, 586, .inl gs)), (sv, .inl (E.2.1, 2, .inl gv)), (pd, .inl (E.2.1, 80, .inl gt)), (mu, .inl (E.2.1, 4, .inl gu))] H := hP
  refine lv_aload_n hx hb dL_law_538 rfl (lv_at hl 1 rfl) ?_
  refine lv_aload_n hx hb dL_law_539 rfl (lv_at hl 3 rfl) ?_
  refine lv_iload_n hx hb dL_law_540 rfl (lv_at hl 0 rfl) ?_
  refine lv_iconst (v := nI 1) hx hb dL_law_541 (by decide) ?_
  refine rn_add (a := i) (b := 1) hx hb dL_law_542 ?_
  refine lw_sld hx hb hX hbl hbA hS (show i + 1 < LL by omega) hLL dL_law_543 ?_
  refine lv_aload_n hx hb dL_law_544 rfl (lv_at hl 3 rfl) ?_
  refine lv_iload_n hx hb dL_law_545 rfl (lv_at hl 0 rfl) ?_
  refine lv_iconst (v := nI 2) hx hb dL_law_546 (by decide) ?_
  refine rn_add (a := i) (b := 2) hx hb dL_law_547 ?_
  refine lw_sld hx hb hX hbl hbA hS (show i + 2 < LL by omega) hLL dL_law_548 ?_
  refine rwV2 (rest := [.int (cUv f (xs (i + 1)) (xs (i + 2)))]) S (c_X8_trim l E mo st sp th so sv pd mu z L ta sg g gp gh (xs (i + 1)) (xs (i + 2)) (by omega)) cd_X8_trim bw_956 ⟨Nat.le_of_ble_eq_true rfl, Nat.le_of_ble_eq_true rfl⟩ hcs hP (hDa.to rfl) hE hA hS [15, 16, 17, 18] rfl rfl [mo, st, sp, th] rfl rfl (ci := 5) rfl (q0 := 0) rfl (Nat.le_of_ble_eq_true rfl) hl.1 dL_law_549 (fun H locs hP _ hS => ?_)
  have hP : va_P E.1 vwCl [(xo, .inr (4, [.ref r, .ref r2, .ref r3, .ref d, .ref y, .ref q2, .int sf])), (r, .inr (2, [.ref rc])), (rc, .inl (E.2.1, 293, .inl (cUw f (xs (i + 1)) (xs (i + 2))))), (r2, .inr (2, [.ref rc2])), (rc2, .inl (E.2.1, 293, .inl (cp293 f fb))), (r3, .inr (2, [.ref rc3])), (rc3, .inl (E.2.1, 293, .inl ft)), (d, .inr (1, [.ref ch, .ref nu, .int (nI L), .int a, .int b, .int le, .int co, .int mi])), (ch, .inl (E.2.2.1, 80, .inl t)), (nu, .inl (E.2.1, 4, .inl u)), (y, .inr (0, [.ref q, .int (nI (recO (cUv f (xs (i + 1)) (xs (i + 2))) o z)), .int (nI (recZ (cUv f (xs (i + 1)) (xs (i + 2))) z))])), (q, .inr (3, [.ref w])), (w, .inl (E.2.1, 1758, .inl (recH (cUv f (xs (i + 1)) (xs (i + 2))) (cp293 f fb) h o z))), (q2, .inr (3, [.ref w2])), (w2, .inl (E.2.1, 586, .inl sl)), (mo, .inr (5, [.ref st, .ref sp, .ref th, .int (nI (mTrN z g gp gh (xs (i + 1)) (xs (i + 2)))), .ref so, .ref sv, .ref pd, .int (nI L), .int (nI ta), .int sg, .ref mu])), (st, .inl (E.2.1, 293, .inl (mTrG z g gp gh (xs (i + 1)) (xs (i + 2))))), (sp, .inl (E.2.1, 293, .inl (mTrP z g gp gh (xs (i + 1)) (xs (i + 2))))), (th, .inl (E.2.1, 1758, .inl (mTrH z g gp gh (xs (i + 1)) (xs (i + 2))))), (so, .inl (E.2.1, 586, .inl gs)), (sv, .inl (E.2.1, 2, .inl gv)), (pd, .inl (E.2.1, 80, .inl gt)), (mu, .inl (E.2.1, 4, .inl gu))] H := hP
  obtain ⟨e9, hO9⟩ := C_tr hR hAg z gp gh (xs (i + 1)) (xs (i + 2))
  obtain ⟨eN, eH⟩ := mTr_N z g gp gh (xs (i + 1)) (xs (i + 2))
  refine lv_icmp_eq (tgt := 1008) hx hb dL_law_552 (by decide) (fun _ => ?_) (fun c9 => absurd e9 c9)
  exact hk sf (cUw f (xs (i + 1)) (xs (i + 2))) (cp293 f fb) ft L a b le co mi t u (recO (cUv f (xs (i + 1)) (xs (i + 2))) o z) (recZ (cUv f (xs (i + 1)) (xs (i + 2))) z) (recH (cUv f (xs (i + 1)) (xs (i + 2))) (cp293 f fb) h o z) sl L (mTrN z g gp gh (xs (i + 1)) (xs (i + 2))) ta sg (mTrG z g gp gh (xs (i + 1)) (xs (i + 2))) (mTrP z g gp gh (xs (i + 1)) (xs (i + 2))) (mTrH z g gp gh (xs (i + 1)) (xs (i + 2))) gs gv gt gu ⟨hO9, (by rw [eN, eH, ← e9]; exact Hist_ch fb gp hH ⟨n, hR, hAg⟩), hSl, hT, rfl, hmi⟩ _ _ hP hS _ hl
set_option maxHeartbeats 4000000 in
set_option maxRecDepth 100000 in
theorem lw_c13 (S : CallFix p m c code 4 s #[Value.ref b9] bw RL) (hE : en E A s s.heap) (hA : ∀ q, s.heap.size ≤ q → A q) (hcs : cells ≤ room_1.cells ∧ slots ≤ room_1.slots) (hX : va_X b9 LL xs s s.heap) (hbl : b9 < s.heap.size) (hbA : ¬ A b9) (hLL : LL ≤ 3072) (hDa : va_Da A [xo, r, rc, r2, rc2, r3, rc3, d, ch, nu, y, q, w, q2, w2, mo, st, sp, th, so, sv, pd, mu]) (hi : i + 6 ≤ LL) (hk : lwK p l e s m below meth c Q E A b9 i cells slots xo r rc r2 rc2 r3 rc3 d ch nu y q w q2 w2 mo st sp th so sv pd mu) (sf : Int32) (f : Nat → Int32) (fb : Nat → Int32) (ft : Nat → Int32) (L : Nat) (a : Int32) (b : Int32) (le : Int32) (co : Int32) (mi : Int32) (t : Nat → Int32) (u : Nat → Int32) (o : Nat) (z : Nat) (h : Nat → Int32) (sl : Nat → Int32) (ln : Nat) (sn : Nat) (ta : Nat) (sg : Int32) (g : Nat → Int32) (gp : Nat → Int32) (gh : Nat → Int32) (gs : Nat → Int32) (gv : Nat → Int32) (gt : Nat → Int32) (gu : Nat → Int32) (h9 : LSt f g o z h sn gh sf sl gs gv L t gt ln mi) (H : Heap) (locs : List Loc) (hP : va_P E.1 vwCl [(xo, .inr (4, [.ref r, .ref r2, .ref r3, .ref d, .ref y, .ref q2, .int sf])), (r, .inr (2, [.ref rc])), (rc, .inl (E.2.1, 293, .inl f)), (r2, .inr (2, [.ref rc2])), (rc2, .inl (E.2.1, 293, .inl fb)), (r3, .inr (2, [.ref rc3])), (rc3, .inl (E.2.1, 293, .inl ft)), (d, .inr (1, [.ref ch, .ref nu, .int (nI L), .int a, .int b, .int le, .int co, .int mi])), (ch, .inl (E.2.2.1, 80, .inl t)), (nu, .inl (E.2.1, 4, .inl u)), (y, .inr (0, [.ref q, .int (nI o), .int (nI z)])), (q, .inr (3, [.ref w])), (w, .inl (E.2.1, 1758, .inl h)), (q2, .inr (3, [.ref w2])), (w2, .inl (E.2.1, 586, .inl sl)), (mo, .inr (5, [.ref st, .ref sp, .ref th, .int (nI sn), .ref so, .ref sv, .ref pd, .int (nI ln), .int (nI ta), .int sg, .ref mu])), (st, .inl (E.2.1, 293, .inl g)), (sp, .inl (E.2.1, 293, .inl gp)), (th, .inl (E.2.1, 1758, .inl gh)), (so, .inl (E.2.1, 586, .inl gs)), (sv, .inl (E.2.1, 2, .inl gv)), (pd, .inl (E.2.1, 80, .inl gt)), (mu, .inl (E.2.1, 4, .inl gu))] H) (hS : va_S A s.heap H locs) (ls : Array Slot) (hl : lv_has ls 4 [(3, .int (nI i)), (2, .ref mo), (1, .ref xo), (0, .ref b9)]) : W p l e room_1 s m #[Value.ref b9] below meth c H locs cells slots Q (F0 m 557 ls []) := by
  have hx := S.1
  have hb := S.2.1
  have hown := S.2.2.2.1
  have hts := S.2.2.2.2
  have hK := hE.1
  obtain ⟨⟨n, hR, hAg⟩, hH, hSl, hT, hln, hmi⟩ := h9
  have hln := hln.symm
  subst hln
  have hsn := hH.2.2.1.symm
  subst hsn
  have hf := R_12 hR
  have hf2 := R_4 hR
  have hn := R_n hR
  have hst := R_st hR
  have ho := hH.1
  have hz := hH.2.1
  have hL := hT.1
  refine lv_aload_n hx hb dL_law_557 rfl (lv_at hl 2 rfl) ?_
  refine lv_aload_n hx hb dL_law_558 rfl (lv_at hl 3 rfl) ?_
  refine lv_iload_n hx hb dL_law_559 rfl (lv_at hl 0 rfl) ?_
  refine lv_iconst (v := nI 1) hx hb dL_law_560 (by decide) ?_
  refine rn_add (a := i) (b := 1) hx hb dL_law_561 ?_
  refine lw_sld hx hb hX hbl hbA hS (show i + 1 < LL by omega) hLL dL_law_562 ?_
  refine rwV1 (rest := []) S (c_X7_lamp l E xo r r2 r3 d y q2 sf rc f rc2 fb q w o z h (xs (i + 1)) (by omega) (by omega)) cd_X7_lamp bw_405 ⟨Nat.le_of_ble_eq_true rfl, Nat.le_of_ble_eq_true rfl⟩ hcs hP (hDa.to rfl) hE hA hS [0, 1, 2, 3, 4, 10, 11, 12] rfl rfl [xo, r, rc, r2, rc2, y, q, w] rfl rfl (ci := 4) rfl (q0 := 0) rfl (Nat.le_of_ble_eq_true rfl) hl.1 dL_law_563 (fun H locs hP _ hS => ?_)
  have hP : va_P E.1 vwCl [(xo, .inr (4, [.ref r, .ref r2, .ref r3, .ref d, .ref y, .ref q2, .int sf])), (r, .inr (2, [.ref rc])), (rc, .inl (E.2.1, 293, .inl (cQw f (xs (i + 1))))), (r2, .inr (2, [.ref rc2])), (rc2, .inl (E.2.1, 293, .inl (cp293 f fb))), (r3, .inr (2, [.ref rc3])), (rc3, .inl (E.2.1, 293, .inl ft)), (d, .inr (1, [.ref ch, .ref nu, .int (nI L), .int a, .int b, .int le, .int co, .int mi])), (ch, .inl (E.2.2.1, 80, .inl t)), (nu, .inl (E.2.1, 4, .inl u)), (y, .inr (0, [.ref q, .int (nI (recO (cQv f (xs (i + 1))) o z)), .int (nI (recZ (cQv f (xs (i + 1))) z))])), (q, .inr (3, [.ref w])), (w, .inl (E.2.1, 1758, .inl (recH (cQv f (xs (i + 1))) (cp293 f fb) h o z))), (q2, .inr (3, [.ref w2])), (w2, .inl (E.2.1, 586, .inl sl)), (mo, .inr (5, [.ref st, .ref sp, .ref th, .int (nI z), .ref so, .ref sv, .ref pd, .int (nI L), .int (nI ta), .int sg, .ref mu])), (st, .inl (E.2.1, 293, .inl g)), (sp, .inl (E.2.1, 293, .inl gp)), (th, .inl (E.2.1, 1758, .inl gh)), (so, .inl (E.2.1, 586, .inl gs)), (sv, .inl (E.2.1, 2, .inl gv)), (pd, .inl (E.2.1, 80, .inl gt)), (mu, .inl (E.2.1, 4, .inl gu))] H := hP
  refine lv_aload_n hx hb dL_law_566 rfl (lv_at hl 1 rfl) ?_
  refine lv_aload_n hx hb dL_law_567 rfl (lv_at hl 3 rfl) ?_
  refine lv_iload_n hx hb dL_law_568 rfl (lv_at hl 0 rfl) ?_
  refine lv_iconst (v := nI 1) hx hb dL_law_569 (by decide) ?_
  refine rn_add (a := i) (b := 1) hx hb dL_law_570 ?_
  refine lw_sld hx hb hX hbl hbA hS (show i + 1 < LL by omega) hLL dL_law_571 ?_
  refine rwV1 (rest := [.int (cQv f (xs (i + 1)))]) S (c_X8_lamp l E mo st sp th so sv pd mu z L ta sg g gp gh (xs (i + 1)) (by omega)) cd_X8_lamp bw_960 ⟨Nat.le_of_ble_eq_true rfl, Nat.le_of_ble_eq_true rfl⟩ hcs hP (hDa.to rfl) hE hA hS [15, 16, 17, 18] rfl rfl [mo, st, sp, th] rfl rfl (ci := 5) rfl (q0 := 0) rfl (Nat.le_of_ble_eq_true rfl) hl.1 dL_law_572 (fun H locs hP _ hS => ?_)
  have hP : va_P E.1 vwCl [(xo, .inr (4, [.ref r, .ref r2, .ref r3, .ref d, .ref y, .ref q2, .int sf])), (r, .inr (2, [.ref rc])), (rc, .inl (E.2.1, 293, .inl (cQw f (xs (i + 1))))), (r2, .inr (2, [.ref rc2])), (rc2, .inl (E.2.1, 293, .inl (cp293 f fb))), (r3, .inr (2, [.ref rc3])), (rc3, .inl (E.2.1, 293, .inl ft)), (d, .inr (1, [.ref ch, .ref nu, .int (nI L), .int a, .int b, .int le, .int co, .int mi])), (ch, .inl (E.2.2.1, 80, .inl t)), (nu, .inl (E.2.1, 4, .inl u)), (y, .inr (0, [.ref q, .int (nI (recO (cQv f (xs (i + 1))) o z)), .int (nI (recZ (cQv f (xs (i + 1))) z))])), (q, .inr (3, [.ref w])), (w, .inl (E.2.1, 1758, .inl (recH (cQv f (xs (i + 1))) (cp293 f fb) h o z))), (q2, .inr (3, [.ref w2])), (w2, .inl (E.2.1, 586, .inl sl)), (mo, .inr (5, [.ref st, .ref sp, .ref th, .int (nI (mLpN z g gp gh (xs (i + 1)))), .ref so, .ref sv, .ref pd, .int (nI L), .int (nI ta), .int sg, .ref mu])), (st, .inl (E.2.1, 293, .inl (mLpG z g gp gh (xs (i + 1))))), (sp, .inl (E.2.1, 293, .inl (mLpP z g gp gh (xs (i + 1))))), (th, .inl (E.2.1, 1758, .inl (mLpH z g gp gh (xs (i + 1))))), (so, .inl (E.2.1, 586, .inl gs)), (sv, .inl (E.2.1, 2, .inl gv)), (pd, .inl (E.2.1, 80, .inl gt)), (mu, .inl (E.2.1, 4, .inl gu))] H := hP
  obtain ⟨e9, hO9⟩ := C_lp hR hAg z gp gh (xs (i + 1))
  obtain ⟨eN, eH⟩ := mLp_N z g gp gh (xs (i + 1))
  refine lv_icmp_eq (tgt := 1008) hx hb dL_law_575 (by decide) (fun _ => ?_) (fun c9 => absurd e9 c9)
  exact hk sf (cQw f (xs (i + 1))) (cp293 f fb) ft L a b le co mi t u (recO (cQv f (xs (i + 1))) o z) (recZ (cQv f (xs (i + 1))) z) (recH (cQv f (xs (i + 1))) (cp293 f fb) h o z) sl L (mLpN z g gp gh (xs (i + 1))) ta sg (mLpG z g gp gh (xs (i + 1))) (mLpP z g gp gh (xs (i + 1))) (mLpH z g gp gh (xs (i + 1))) gs gv gt gu ⟨hO9, (by rw [eN, eH, ← e9]; exact Hist_ch fb gp hH ⟨n, hR, hAg⟩), hSl, hT, rfl, hmi⟩ _ _ hP hS _ hl
set_option maxHeartbeats 4000000 in
set_option maxRecDepth 100000 in
theorem lw_c14 (S : CallFix p m c code 4 s #[Value.ref b9] bw RL) (hE : en E A s s.heap) (hA : ∀ q, s.heap.size ≤ q → A q) (hcs : cells ≤ room_1.cells ∧ slots ≤ room_1.slots) (hX : va_X b9 LL xs s s.heap) (hbl : b9 < s.heap.size) (hbA : ¬ A b9) (hLL : LL ≤ 3072) (hDa : va_Da A [xo, r, rc, r2, rc2, r3, rc3, d, ch, nu, y, q, w, q2, w2, mo, st, sp, th, so, sv, pd, mu]) (hi : i + 6 ≤ LL) (hk : lwK p l e s m below meth c Q E A b9 i cells slots xo r rc r2 rc2 r3 rc3 d ch nu y q w q2 w2 mo st sp th so sv pd mu) (sf : Int32) (f : Nat → Int32) (fb : Nat → Int32) (ft : Nat → Int32) (L : Nat) (a : Int32) (b : Int32) (le : Int32) (co : Int32) (mi : Int32) (t : Nat → Int32) (u : Nat → Int32) (o : Nat) (z : Nat) (h : Nat → Int32) (sl : Nat → Int32) (ln : Nat) (sn : Nat) (ta : Nat) (sg : Int32) (g : Nat → Int32) (gp : Nat → Int32) (gh : Nat → Int32) (gs : Nat → Int32) (gv : Nat → Int32) (gt : Nat → Int32) (gu : Nat → Int32) (h9 : LSt f g o z h sn gh sf sl gs gv L t gt ln mi) (H : Heap) (locs : List Loc) (hP : va_P E.1 vwCl [(xo, .inr (4, [.ref r, .ref r2, .ref r3, .ref d, .ref y, .ref q2, .int sf])), (r, .inr (2, [.ref rc])), (rc, .inl (E.2.1, 293, .inl f)), (r2, .inr (2, [.ref rc2])), (rc2, .inl (E.2.1, 293, .inl fb)), (r3, .inr (2, [.ref rc3])), (rc3, .inl (E.2.1, 293, .inl ft)), (d, .inr (1, [.ref ch, .ref nu, .int (nI L), .int a, .int b, .int le, .int co, .int mi])), (ch, .inl (E.2.2.1, 80, .inl t)), (nu, .inl (E.2.1, 4, .inl u)), (y, .inr (0, [.ref q, .int (nI o), .int (nI z)])), (q, .inr (3, [.ref w])), (w, .inl (E.2.1, 1758, .inl h)), (q2, .inr (3, [.ref w2])), (w2, .inl (E.2.1, 586, .inl sl)), (mo, .inr (5, [.ref st, .ref sp, .ref th, .int (nI sn), .ref so, .ref sv, .ref pd, .int (nI ln), .int (nI ta), .int sg, .ref mu])), (st, .inl (E.2.1, 293, .inl g)), (sp, .inl (E.2.1, 293, .inl gp)), (th, .inl (E.2.1, 1758, .inl gh)), (so, .inl (E.2.1, 586, .inl gs)), (sv, .inl (E.2.1, 2, .inl gv)), (pd, .inl (E.2.1, 80, .inl gt)), (mu, .inl (E.2.1, 4, .inl gu))] H) (hS : va_S A s.heap H locs) (ls : Array Slot) (hl : lv_has ls 4 [(3, .int (nI i)), (2, .ref mo), (1, .ref xo), (0, .ref b9)]) : W p l e room_1 s m #[Value.ref b9] below meth c H locs cells slots Q (F0 m 580 ls []) := by
  have hx := S.1
  have hb := S.2.1
  have hown := S.2.2.2.1
  have hts := S.2.2.2.2
  have hK := hE.1
  obtain ⟨⟨n, hR, hAg⟩, hH, hSl, hT, hln, hmi⟩ := h9
  have hln := hln.symm
  subst hln
  have hsn := hH.2.2.1.symm
  subst hsn
  have hf := R_12 hR
  have hf2 := R_4 hR
  have hn := R_n hR
  have hst := R_st hR
  have ho := hH.1
  have hz := hH.2.1
  have hL := hT.1
  refine lv_aload_n hx hb dL_law_580 rfl (lv_at hl 2 rfl) ?_
  refine lv_aload_n hx hb dL_law_581 rfl (lv_at hl 3 rfl) ?_
  refine lv_iload_n hx hb dL_law_582 rfl (lv_at hl 0 rfl) ?_
  refine lv_iconst (v := nI 1) hx hb dL_law_583 (by decide) ?_
  refine rn_add (a := i) (b := 1) hx hb dL_law_584 ?_
  refine lw_sld hx hb hX hbl hbA hS (show i + 1 < LL by omega) hLL dL_law_585 ?_
  refine lv_aload_n hx hb dL_law_586 rfl (lv_at hl 3 rfl) ?_
  refine lv_iload_n hx hb dL_law_587 rfl (lv_at hl 0 rfl) ?_
  refine lv_iconst (v := nI 2) hx hb dL_law_588 (by decide) ?_
  refine rn_add (a := i) (b := 2) hx hb dL_law_589 ?_
  refine lw_sld hx hb hX hbl hbA hS (show i + 2 < LL by omega) hLL dL_law_590 ?_
  refine rwV2 (rest := []) S (c_X7_of l E xo r r2 r3 d y q2 sf rc f n (xs (i + 1)) (xs (i + 2)) hf (by omega)) cd_X7_of bw_412 ⟨Nat.le_of_ble_eq_true rfl, Nat.le_of_ble_eq_true rfl⟩ hcs hP (hDa.to rfl) hE hA hS [0, 1, 2] rfl rfl [xo, r, rc] rfl rfl (ci := 4) rfl (q0 := 0) rfl (Nat.le_of_ble_eq_true rfl) hl.1 dL_law_591 (fun H locs hP _ hS => ?_)
  have hP : va_P E.1 vwCl [(xo, .inr (4, [.ref r, .ref r2, .ref r3, .ref d, .ref y, .ref q2, .int sf])), (r, .inr (2, [.ref rc])), (rc, .inl (E.2.1, 293, .inl f)), (r2, .inr (2, [.ref rc2])), (rc2, .inl (E.2.1, 293, .inl fb)), (r3, .inr (2, [.ref rc3])), (rc3, .inl (E.2.1, 293, .inl ft)), (d, .inr (1, [.ref ch, .ref nu, .int (nI L), .int a, .int b, .int le, .int co, .int mi])), (ch, .inl (E.2.2.1, 80, .inl t)), (nu, .inl (E.2.1, 4, .inl u)), (y, .inr (0, [.ref q, .int (nI o), .int (nI z)])), (q, .inr (3, [.ref w])), (w, .inl (E.2.1, 1758, .inl h)), (q2, .inr (3, [.ref w2])), (w2, .inl (E.2.1, 586, .inl sl)), (mo, .inr (5, [.ref st, .ref sp, .ref th, .int (nI z), .ref so, .ref sv, .ref pd, .int (nI L), .int (nI ta), .int sg, .ref mu])), (st, .inl (E.2.1, 293, .inl g)), (sp, .inl (E.2.1, 293, .inl gp)), (th, .inl (E.2.1, 1758, .inl gh)), (so, .inl (E.2.1, 586, .inl gs)), (sv, .inl (E.2.1, 2, .inl gv)), (pd, .inl (E.2.1, 80, .inl gt)), (mu, .inl (E.2.1, 4, .inl gu))] H := hP
  refine lv_aload_n hx hb dL_law_594 rfl (lv_at hl 1 rfl) ?_
  refine lv_aload_n hx hb dL_law_595 rfl (lv_at hl 3 rfl) ?_
  refine lv_iload_n hx hb dL_law_596 rfl (lv_at hl 0 rfl) ?_
  refine lv_iconst (v := nI 1) hx hb dL_law_597 (by decide) ?_
  refine rn_add (a := i) (b := 1) hx hb dL_law_598 ?_
  refine lw_sld hx hb hX hbl hbA hS (show i + 1 < LL by omega) hLL dL_law_599 ?_
  refine lv_aload_n hx hb dL_law_600 rfl (lv_at hl 3 rfl) ?_
  refine lv_iload_n hx hb dL_law_601 rfl (lv_at hl 0 rfl) ?_
  refine lv_iconst (v := nI 2) hx hb dL_law_602 (by decide) ?_
  refine rn_add (a := i) (b := 2) hx hb dL_law_603 ?_
  refine lw_sld hx hb hX hbl hbA hS (show i + 2 < LL by omega) hLL dL_law_604 ?_
  refine rwV2 (rest := [.int (fOf f n (xs (i + 1)) (xs (i + 2)))]) S (c_X8_of l E mo st sp th so sv pd mu z L ta sg g n (xs (i + 1)) (xs (i + 2)) hf2 (by omega)) cd_X8_of bw_964 ⟨Nat.le_of_ble_eq_true rfl, Nat.le_of_ble_eq_true rfl⟩ hcs hP (hDa.to rfl) hE hA hS [15, 16] rfl rfl [mo, st] rfl rfl (ci := 5) rfl (q0 := 0) rfl (Nat.le_of_ble_eq_true rfl) hl.1 dL_law_605 (fun H locs hP _ hS => ?_)
  have hP : va_P E.1 vwCl [(xo, .inr (4, [.ref r, .ref r2, .ref r3, .ref d, .ref y, .ref q2, .int sf])), (r, .inr (2, [.ref rc])), (rc, .inl (E.2.1, 293, .inl f)), (r2, .inr (2, [.ref rc2])), (rc2, .inl (E.2.1, 293, .inl fb)), (r3, .inr (2, [.ref rc3])), (rc3, .inl (E.2.1, 293, .inl ft)), (d, .inr (1, [.ref ch, .ref nu, .int (nI L), .int a, .int b, .int le, .int co, .int mi])), (ch, .inl (E.2.2.1, 80, .inl t)), (nu, .inl (E.2.1, 4, .inl u)), (y, .inr (0, [.ref q, .int (nI o), .int (nI z)])), (q, .inr (3, [.ref w])), (w, .inl (E.2.1, 1758, .inl h)), (q2, .inr (3, [.ref w2])), (w2, .inl (E.2.1, 586, .inl sl)), (mo, .inr (5, [.ref st, .ref sp, .ref th, .int (nI z), .ref so, .ref sv, .ref pd, .int (nI L), .int (nI ta), .int sg, .ref mu])), (st, .inl (E.2.1, 293, .inl g)), (sp, .inl (E.2.1, 293, .inl gp)), (th, .inl (E.2.1, 1758, .inl gh)), (so, .inl (E.2.1, 586, .inl gs)), (sv, .inl (E.2.1, 2, .inl gv)), (pd, .inl (E.2.1, 80, .inl gt)), (mu, .inl (E.2.1, 4, .inl gu))] H := hP
  have e9 := V_of hR (xs (i + 1)) (xs (i + 2))
  refine lv_icmp_eq (tgt := 1008) hx hb dL_law_608 (by decide) (fun _ => ?_) (fun c9 => absurd e9 c9)
  exact hk sf f fb ft L a b le co mi t u o z h sl L z ta sg g gp gh gs gv gt gu ⟨⟨n, hR, hAg⟩, hH, hSl, hT, rfl, hmi⟩ _ _ hP hS _ hl
set_option maxHeartbeats 4000000 in
set_option maxRecDepth 100000 in
theorem lw_c15 (S : CallFix p m c code 4 s #[Value.ref b9] bw RL) (hE : en E A s s.heap) (hA : ∀ q, s.heap.size ≤ q → A q) (hcs : cells ≤ room_1.cells ∧ slots ≤ room_1.slots) (hX : va_X b9 LL xs s s.heap) (hbl : b9 < s.heap.size) (hbA : ¬ A b9) (hLL : LL ≤ 3072) (hDa : va_Da A [xo, r, rc, r2, rc2, r3, rc3, d, ch, nu, y, q, w, q2, w2, mo, st, sp, th, so, sv, pd, mu]) (hi : i + 6 ≤ LL) (hk : lwK p l e s m below meth c Q E A b9 i cells slots xo r rc r2 rc2 r3 rc3 d ch nu y q w q2 w2 mo st sp th so sv pd mu) (sf : Int32) (f : Nat → Int32) (fb : Nat → Int32) (ft : Nat → Int32) (L : Nat) (a : Int32) (b : Int32) (le : Int32) (co : Int32) (mi : Int32) (t : Nat → Int32) (u : Nat → Int32) (o : Nat) (z : Nat) (h : Nat → Int32) (sl : Nat → Int32) (ln : Nat) (sn : Nat) (ta : Nat) (sg : Int32) (g : Nat → Int32) (gp : Nat → Int32) (gh : Nat → Int32) (gs : Nat → Int32) (gv : Nat → Int32) (gt : Nat → Int32) (gu : Nat → Int32) (h9 : LSt f g o z h sn gh sf sl gs gv L t gt ln mi) (H : Heap) (locs : List Loc) (hP : va_P E.1 vwCl [(xo, .inr (4, [.ref r, .ref r2, .ref r3, .ref d, .ref y, .ref q2, .int sf])), (r, .inr (2, [.ref rc])), (rc, .inl (E.2.1, 293, .inl f)), (r2, .inr (2, [.ref rc2])), (rc2, .inl (E.2.1, 293, .inl fb)), (r3, .inr (2, [.ref rc3])), (rc3, .inl (E.2.1, 293, .inl ft)), (d, .inr (1, [.ref ch, .ref nu, .int (nI L), .int a, .int b, .int le, .int co, .int mi])), (ch, .inl (E.2.2.1, 80, .inl t)), (nu, .inl (E.2.1, 4, .inl u)), (y, .inr (0, [.ref q, .int (nI o), .int (nI z)])), (q, .inr (3, [.ref w])), (w, .inl (E.2.1, 1758, .inl h)), (q2, .inr (3, [.ref w2])), (w2, .inl (E.2.1, 586, .inl sl)), (mo, .inr (5, [.ref st, .ref sp, .ref th, .int (nI sn), .ref so, .ref sv, .ref pd, .int (nI ln), .int (nI ta), .int sg, .ref mu])), (st, .inl (E.2.1, 293, .inl g)), (sp, .inl (E.2.1, 293, .inl gp)), (th, .inl (E.2.1, 1758, .inl gh)), (so, .inl (E.2.1, 586, .inl gs)), (sv, .inl (E.2.1, 2, .inl gv)), (pd, .inl (E.2.1, 80, .inl gt)), (mu, .inl (E.2.1, 4, .inl gu))] H) (hS : va_S A s.heap H locs) (ls : Array Slot) (hl : lv_has ls 4 [(3, .int (nI i)), (2, .ref mo), (1, .ref xo), (0, .ref b9)]) : W p l e room_1 s m #[Value.ref b9] below meth c H locs cells slots Q (F0 m 613 ls []) := by
  have hx := S.1
  have hb := S.2.1
  have hown := S.2.2.2.1
  have hts := S.2.2.2.2
  have hK := hE.1
  obtain ⟨⟨n, hR, hAg⟩, hH, hSl, hT, hln, hmi⟩ := h9
  have hln := hln.symm
  subst hln
  have hsn := hH.2.2.1.symm
  subst hsn
  have hf := R_12 hR
  have hf2 := R_4 hR
  have hn := R_n hR
  have hst := R_st hR
  have ho := hH.1
  have hz := hH.2.1
  have hL := hT.1
  refine lv_aload_n hx hb dL_law_613 rfl (lv_at hl 2 rfl) ?_
  refine lv_aload_n hx hb dL_law_614 rfl (lv_at hl 3 rfl) ?_
  refine lv_iload_n hx hb dL_law_615 rfl (lv_at hl 0 rfl) ?_
  refine lv_iconst (v := nI 1) hx hb dL_law_616 (by decide) ?_
  refine rn_add (a := i) (b := 1) hx hb dL_law_617 ?_
  refine lw_sld hx hb hX hbl hbA hS (show i + 1 < LL by omega) hLL dL_law_618 ?_
  refine lv_aload_n hx hb dL_law_619 rfl (lv_at hl 3 rfl) ?_
  refine lv_iload_n hx hb dL_law_620 rfl (lv_at hl 0 rfl) ?_
  refine lv_iconst (v := nI 2) hx hb dL_law_621 (by decide) ?_
  refine rn_add (a := i) (b := 2) hx hb dL_law_622 ?_
  refine lw_sld hx hb hX hbl hbA hS (show i + 2 < LL by omega) hLL dL_law_623 ?_
  refine lv_aload_n hx hb dL_law_624 rfl (lv_at hl 3 rfl) ?_
  refine lv_iload_n hx hb dL_law_625 rfl (lv_at hl 0 rfl) ?_
  refine lv_iconst (v := nI 3) hx hb dL_law_626 (by decide) ?_
  refine rn_add (a := i) (b := 3) hx hb dL_law_627 ?_
  refine lw_sld hx hb hX hbl hbA hS (show i + 3 < LL by omega) hLL dL_law_628 ?_
  refine rwV3 (rest := []) S (c_X7_inColour l E xo r r2 r3 d y q2 sf rc f n (xs (i + 1)) (xs (i + 2)) (xs (i + 3)) hf (by omega)) cd_X7_inColour bw_428 ⟨Nat.le_of_ble_eq_true rfl, Nat.le_of_ble_eq_true rfl⟩ hcs hP (hDa.to rfl) hE hA hS [0, 1, 2] rfl rfl [xo, r, rc] rfl rfl (ci := 4) rfl (q0 := 0) rfl (Nat.le_of_ble_eq_true rfl) hl.1 dL_law_629 (fun H locs hP _ hS => ?_)
  have hP : va_P E.1 vwCl [(xo, .inr (4, [.ref r, .ref r2, .ref r3, .ref d, .ref y, .ref q2, .int sf])), (r, .inr (2, [.ref rc])), (rc, .inl (E.2.1, 293, .inl f)), (r2, .inr (2, [.ref rc2])), (rc2, .inl (E.2.1, 293, .inl fb)), (r3, .inr (2, [.ref rc3])), (rc3, .inl (E.2.1, 293, .inl ft)), (d, .inr (1, [.ref ch, .ref nu, .int (nI L), .int a, .int b, .int le, .int co, .int mi])), (ch, .inl (E.2.2.1, 80, .inl t)), (nu, .inl (E.2.1, 4, .inl u)), (y, .inr (0, [.ref q, .int (nI o), .int (nI z)])), (q, .inr (3, [.ref w])), (w, .inl (E.2.1, 1758, .inl h)), (q2, .inr (3, [.ref w2])), (w2, .inl (E.2.1, 586, .inl sl)), (mo, .inr (5, [.ref st, .ref sp, .ref th, .int (nI z), .ref so, .ref sv, .ref pd, .int (nI L), .int (nI ta), .int sg, .ref mu])), (st, .inl (E.2.1, 293, .inl g)), (sp, .inl (E.2.1, 293, .inl gp)), (th, .inl (E.2.1, 1758, .inl gh)), (so, .inl (E.2.1, 586, .inl gs)), (sv, .inl (E.2.1, 2, .inl gv)), (pd, .inl (E.2.1, 80, .inl gt)), (mu, .inl (E.2.1, 4, .inl gu))] H := hP
  refine lv_aload_n hx hb dL_law_632 rfl (lv_at hl 1 rfl) ?_
  refine lv_aload_n hx hb dL_law_633 rfl (lv_at hl 3 rfl) ?_
  refine lv_iload_n hx hb dL_law_634 rfl (lv_at hl 0 rfl) ?_
  refine lv_iconst (v := nI 1) hx hb dL_law_635 (by decide) ?_
  refine rn_add (a := i) (b := 1) hx hb dL_law_636 ?_
  refine lw_sld hx hb hX hbl hbA hS (show i + 1 < LL by omega) hLL dL_law_637 ?_
  refine lv_aload_n hx hb dL_law_638 rfl (lv_at hl 3 rfl) ?_
  refine lv_iload_n hx hb dL_law_639 rfl (lv_at hl 0 rfl) ?_
  refine lv_iconst (v := nI 2) hx hb dL_law_640 (by decide) ?_
  refine rn_add (a := i) (b := 2) hx hb dL_law_641 ?_
  refine lw_sld hx hb hX hbl hbA hS (show i + 2 < LL by omega) hLL dL_law_642 ?_
  refine lv_aload_n hx hb dL_law_643 rfl (lv_at hl 3 rfl) ?_
  refine lv_iload_n hx hb dL_law_644 rfl (lv_at hl 0 rfl) ?_
  refine lv_iconst (v := nI 3) hx hb dL_law_645 (by decide) ?_
  refine rn_add (a := i) (b := 3) hx hb dL_law_646 ?_
  refine lw_sld hx hb hX hbl hbA hS (show i + 3 < LL by omega) hLL dL_law_647 ?_
  refine rwV3 (rest := [.int (fIn f n (xs (i + 1)) (xs (i + 2)) (xs (i + 3)))]) S (c_X8_inColour l E mo st sp th so sv pd mu z L ta sg g n (xs (i + 1)) (xs (i + 2)) (xs (i + 3)) hf2 (by omega)) cd_X8_inColour bw_972 ⟨Nat.le_of_ble_eq_true rfl, Nat.le_of_ble_eq_true rfl⟩ hcs hP (hDa.to rfl) hE hA hS [15, 16] rfl rfl [mo, st] rfl rfl (ci := 5) rfl (q0 := 0) rfl (Nat.le_of_ble_eq_true rfl) hl.1 dL_law_648 (fun H locs hP _ hS => ?_)
  have hP : va_P E.1 vwCl [(xo, .inr (4, [.ref r, .ref r2, .ref r3, .ref d, .ref y, .ref q2, .int sf])), (r, .inr (2, [.ref rc])), (rc, .inl (E.2.1, 293, .inl f)), (r2, .inr (2, [.ref rc2])), (rc2, .inl (E.2.1, 293, .inl fb)), (r3, .inr (2, [.ref rc3])), (rc3, .inl (E.2.1, 293, .inl ft)), (d, .inr (1, [.ref ch, .ref nu, .int (nI L), .int a, .int b, .int le, .int co, .int mi])), (ch, .inl (E.2.2.1, 80, .inl t)), (nu, .inl (E.2.1, 4, .inl u)), (y, .inr (0, [.ref q, .int (nI o), .int (nI z)])), (q, .inr (3, [.ref w])), (w, .inl (E.2.1, 1758, .inl h)), (q2, .inr (3, [.ref w2])), (w2, .inl (E.2.1, 586, .inl sl)), (mo, .inr (5, [.ref st, .ref sp, .ref th, .int (nI z), .ref so, .ref sv, .ref pd, .int (nI L), .int (nI ta), .int sg, .ref mu])), (st, .inl (E.2.1, 293, .inl g)), (sp, .inl (E.2.1, 293, .inl gp)), (th, .inl (E.2.1, 1758, .inl gh)), (so, .inl (E.2.1, 586, .inl gs)), (sv, .inl (E.2.1, 2, .inl gv)), (pd, .inl (E.2.1, 80, .inl gt)), (mu, .inl (E.2.1, 4, .inl gu))] H := hP
  have e9 := V_in hR (xs (i + 1)) (xs (i + 2)) (xs (i + 3))
  refine lv_icmp_eq (tgt := 1008) hx hb dL_law_651 (by decide) (fun _ => ?_) (fun c9 => absurd e9 c9)
  exact hk sf f fb ft L a b le co mi t u o z h sl L z ta sg g gp gh gs gv gt gu ⟨⟨n, hR, hAg⟩, hH, hSl, hT, rfl, hmi⟩ _ _ hP hS _ hl
set_option maxHeartbeats 4000000 in
set_option maxRecDepth 100000 in
theorem lw_c16 (S : CallFix p m c code 4 s #[Value.ref b9] bw RL) (hE : en E A s s.heap) (hA : ∀ q, s.heap.size ≤ q → A q) (hcs : cells ≤ room_1.cells ∧ slots ≤ room_1.slots) (hX : va_X b9 LL xs s s.heap) (hbl : b9 < s.heap.size) (hbA : ¬ A b9) (hLL : LL ≤ 3072) (hDa : va_Da A [xo, r, rc, r2, rc2, r3, rc3, d, ch, nu, y, q, w, q2, w2, mo, st, sp, th, so, sv, pd, mu]) (hi : i + 6 ≤ LL) (hk : lwK p l e s m below meth c Q E A b9 i cells slots xo r rc r2 rc2 r3 rc3 d ch nu y q w q2 w2 mo st sp th so sv pd mu) (sf : Int32) (f : Nat → Int32) (fb : Nat → Int32) (ft : Nat → Int32) (L : Nat) (a : Int32) (b : Int32) (le : Int32) (co : Int32) (mi : Int32) (t : Nat → Int32) (u : Nat → Int32) (o : Nat) (z : Nat) (h : Nat → Int32) (sl : Nat → Int32) (ln : Nat) (sn : Nat) (ta : Nat) (sg : Int32) (g : Nat → Int32) (gp : Nat → Int32) (gh : Nat → Int32) (gs : Nat → Int32) (gv : Nat → Int32) (gt : Nat → Int32) (gu : Nat → Int32) (h9 : LSt f g o z h sn gh sf sl gs gv L t gt ln mi) (H : Heap) (locs : List Loc) (hP : va_P E.1 vwCl [(xo, .inr (4, [.ref r, .ref r2, .ref r3, .ref d, .ref y, .ref q2, .int sf])), (r, .inr (2, [.ref rc])), (rc, .inl (E.2.1, 293, .inl f)), (r2, .inr (2, [.ref rc2])), (rc2, .inl (E.2.1, 293, .inl fb)), (r3, .inr (2, [.ref rc3])), (rc3, .inl (E.2.1, 293, .inl ft)), (d, .inr (1, [.ref ch, .ref nu, .int (nI L), .int a, .int b, .int le, .int co, .int mi])), (ch, .inl (E.2.2.1, 80, .inl t)), (nu, .inl (E.2.1, 4, .inl u)), (y, .inr (0, [.ref q, .int (nI o), .int (nI z)])), (q, .inr (3, [.ref w])), (w, .inl (E.2.1, 1758, .inl h)), (q2, .inr (3, [.ref w2])), (w2, .inl (E.2.1, 586, .inl sl)), (mo, .inr (5, [.ref st, .ref sp, .ref th, .int (nI sn), .ref so, .ref sv, .ref pd, .int (nI ln), .int (nI ta), .int sg, .ref mu])), (st, .inl (E.2.1, 293, .inl g)), (sp, .inl (E.2.1, 293, .inl gp)), (th, .inl (E.2.1, 1758, .inl gh)), (so, .inl (E.2.1, 586, .inl gs)), (sv, .inl (E.2.1, 2, .inl gv)), (pd, .inl (E.2.1, 80, .inl gt)), (mu, .inl (E.2.1, 4, .inl gu))] H) (hS : va_S A s.heap H locs) (ls : Array Slot) (hl : lv_has ls 4 [(3, .int (nI i)), (2, .ref mo), (1, .ref xo), (0, .ref b9)]) : W p l e room_1 s m #[Value.ref b9] below meth c H locs cells slots Q (F0 m 656 ls []) := by
  have hx := S.1
  have hb := S.2.1
  have hown := S.2.2.2.1
  have hts := S.2.2.2.2
  have hK := hE.1
  obtain ⟨⟨n, hR, hAg⟩, hH, hSl, hT, hln, hmi⟩ := h9
  have hln := hln.symm
  subst hln
  have hsn := hH.2.2.1.symm
  subst hsn
  have hf := R_12 hR
  have hf2 := R_4 hR
  have hn := R_n hR
  have hst := R_st hR
  have ho := hH.1
  have hz := hH.2.1
  have hL := hT.1
  refine lv_aload_n hx hb dL_law_656 rfl (lv_at hl 2 rfl) ?_
  refine lv_aload_n hx hb dL_law_657 rfl (lv_at hl 3 rfl) ?_
  refine lv_iload_n hx hb dL_law_658 rfl (lv_at hl 0 rfl) ?_
  refine lv_iconst (v := nI 1) hx hb dL_law_659 (by decide) ?_
  refine rn_add (a := i) (b := 1) hx hb dL_law_660 ?_
  refine lw_sld hx hb hX hbl hbA hS (show i + 1 < LL by omega) hLL dL_law_661 ?_
  refine lv_aload_n hx hb dL_law_662 rfl (lv_at hl 3 rfl) ?_
  refine lv_iload_n hx hb dL_law_663 rfl (lv_at hl 0 rfl) ?_
  refine lv_iconst (v := nI 2) hx hb dL_law_664 (by decide) ?_
  refine rn_add (a := i) (b := 2) hx hb dL_law_665 ?_
  refine lw_sld hx hb hX hbl hbA hS (show i + 2 < LL by omega) hLL dL_law_666 ?_
  refine rwV2 (rest := []) S (c_X7_ofLamp l E xo r r2 r3 d y q2 sf rc f (xs (i + 1)) (xs (i + 2))) cd_X7_ofLamp bw_438 ⟨Nat.le_of_ble_eq_true rfl, Nat.le_of_ble_eq_true rfl⟩ hcs hP (hDa.to rfl) hE hA hS [0, 1, 2] rfl rfl [xo, r, rc] rfl rfl (ci := 4) rfl (q0 := 0) rfl (Nat.le_of_ble_eq_true rfl) hl.1 dL_law_667 (fun H locs hP _ hS => ?_)
  have hP : va_P E.1 vwCl [(xo, .inr (4, [.ref r, .ref r2, .ref r3, .ref d, .ref y, .ref q2, .int sf])), (r, .inr (2, [.ref rc])), (rc, .inl (E.2.1, 293, .inl f)), (r2, .inr (2, [.ref rc2])), (rc2, .inl (E.2.1, 293, .inl fb)), (r3, .inr (2, [.ref rc3])), (rc3, .inl (E.2.1, 293, .inl ft)), (d, .inr (1, [.ref ch, .ref nu, .int (nI L), .int a, .int b, .int le, .int co, .int mi])), (ch, .inl (E.2.2.1, 80, .inl t)), (nu, .inl (E.2.1, 4, .inl u)), (y, .inr (0, [.ref q, .int (nI o), .int (nI z)])), (q, .inr (3, [.ref w])), (w, .inl (E.2.1, 1758, .inl h)), (q2, .inr (3, [.ref w2])), (w2, .inl (E.2.1, 586, .inl sl)), (mo, .inr (5, [.ref st, .ref sp, .ref th, .int (nI z), .ref so, .ref sv, .ref pd, .int (nI L), .int (nI ta), .int sg, .ref mu])), (st, .inl (E.2.1, 293, .inl g)), (sp, .inl (E.2.1, 293, .inl gp)), (th, .inl (E.2.1, 1758, .inl gh)), (so, .inl (E.2.1, 586, .inl gs)), (sv, .inl (E.2.1, 2, .inl gv)), (pd, .inl (E.2.1, 80, .inl gt)), (mu, .inl (E.2.1, 4, .inl gu))] H := hP
  refine lv_aload_n hx hb dL_law_670 rfl (lv_at hl 1 rfl) ?_
  refine lv_aload_n hx hb dL_law_671 rfl (lv_at hl 3 rfl) ?_
  refine lv_iload_n hx hb dL_law_672 rfl (lv_at hl 0 rfl) ?_
  refine lv_iconst (v := nI 1) hx hb dL_law_673 (by decide) ?_
  refine rn_add (a := i) (b := 1) hx hb dL_law_674 ?_
  refine lw_sld hx hb hX hbl hbA hS (show i + 1 < LL by omega) hLL dL_law_675 ?_
  refine lv_aload_n hx hb dL_law_676 rfl (lv_at hl 3 rfl) ?_
  refine lv_iload_n hx hb dL_law_677 rfl (lv_at hl 0 rfl) ?_
  refine lv_iconst (v := nI 2) hx hb dL_law_678 (by decide) ?_
  refine rn_add (a := i) (b := 2) hx hb dL_law_679 ?_
  refine lw_sld hx hb hX hbl hbA hS (show i + 2 < LL by omega) hLL dL_law_680 ?_
  refine rwV2 (rest := [.int (fLa f (xs (i + 1)) (xs (i + 2)))]) S (c_X8_ofLamp l E mo st sp th so sv pd mu z L ta sg g (xs (i + 1)) (xs (i + 2))) cd_X8_ofLamp bw_980 ⟨Nat.le_of_ble_eq_true rfl, Nat.le_of_ble_eq_true rfl⟩ hcs hP (hDa.to rfl) hE hA hS [15, 16] rfl rfl [mo, st] rfl rfl (ci := 5) rfl (q0 := 0) rfl (Nat.le_of_ble_eq_true rfl) hl.1 dL_law_681 (fun H locs hP _ hS => ?_)
  have hP : va_P E.1 vwCl [(xo, .inr (4, [.ref r, .ref r2, .ref r3, .ref d, .ref y, .ref q2, .int sf])), (r, .inr (2, [.ref rc])), (rc, .inl (E.2.1, 293, .inl f)), (r2, .inr (2, [.ref rc2])), (rc2, .inl (E.2.1, 293, .inl fb)), (r3, .inr (2, [.ref rc3])), (rc3, .inl (E.2.1, 293, .inl ft)), (d, .inr (1, [.ref ch, .ref nu, .int (nI L), .int a, .int b, .int le, .int co, .int mi])), (ch, .inl (E.2.2.1, 80, .inl t)), (nu, .inl (E.2.1, 4, .inl u)), (y, .inr (0, [.ref q, .int (nI o), .int (nI z)])), (q, .inr (3, [.ref w])), (w, .inl (E.2.1, 1758, .inl h)), (q2, .inr (3, [.ref w2])), (w2, .inl (E.2.1, 586, .inl sl)), (mo, .inr (5, [.ref st, .ref sp, .ref th, .int (nI z), .ref so, .ref sv, .ref pd, .int (nI L), .int (nI ta), .int sg, .ref mu])), (st, .inl (E.2.1, 293, .inl g)), (sp, .inl (E.2.1, 293, .inl gp)), (th, .inl (E.2.1, 1758, .inl gh)), (so, .inl (E.2.1, 586, .inl gs)), (sv, .inl (E.2.1, 2, .inl gv)), (pd, .inl (E.2.1, 80, .inl gt)), (mu, .inl (E.2.1, 4, .inl gu))] H := hP
  have e9 := V_la hR (xs (i + 1)) (xs (i + 2))
  refine lv_icmp_eq (tgt := 1008) hx hb dL_law_684 (by decide) (fun _ => ?_) (fun c9 => absurd e9 c9)
  exact hk sf f fb ft L a b le co mi t u o z h sl L z ta sg g gp gh gs gv gt gu ⟨⟨n, hR, hAg⟩, hH, hSl, hT, rfl, hmi⟩ _ _ hP hS _ hl
set_option maxHeartbeats 4000000 in
set_option maxRecDepth 100000 in
theorem lw_c17 (S : CallFix p m c code 4 s #[Value.ref b9] bw RL) (hE : en E A s s.heap) (hA : ∀ q, s.heap.size ≤ q → A q) (hcs : cells ≤ room_1.cells ∧ slots ≤ room_1.slots) (hX : va_X b9 LL xs s s.heap) (hbl : b9 < s.heap.size) (hbA : ¬ A b9) (hLL : LL ≤ 3072) (hDa : va_Da A [xo, r, rc, r2, rc2, r3, rc3, d, ch, nu, y, q, w, q2, w2, mo, st, sp, th, so, sv, pd, mu]) (hi : i + 6 ≤ LL) (hk : lwK p l e s m below meth c Q E A b9 i cells slots xo r rc r2 rc2 r3 rc3 d ch nu y q w q2 w2 mo st sp th so sv pd mu) (sf : Int32) (f : Nat → Int32) (fb : Nat → Int32) (ft : Nat → Int32) (L : Nat) (a : Int32) (b : Int32) (le : Int32) (co : Int32) (mi : Int32) (t : Nat → Int32) (u : Nat → Int32) (o : Nat) (z : Nat) (h : Nat → Int32) (sl : Nat → Int32) (ln : Nat) (sn : Nat) (ta : Nat) (sg : Int32) (g : Nat → Int32) (gp : Nat → Int32) (gh : Nat → Int32) (gs : Nat → Int32) (gv : Nat → Int32) (gt : Nat → Int32) (gu : Nat → Int32) (h9 : LSt f g o z h sn gh sf sl gs gv L t gt ln mi) (H : Heap) (locs : List Loc) (hP : va_P E.1 vwCl [(xo, .inr (4, [.ref r, .ref r2, .ref r3, .ref d, .ref y, .ref q2, .int sf])), (r, .inr (2, [.ref rc])), (rc, .inl (E.2.1, 293, .inl f)), (r2, .inr (2, [.ref rc2])), (rc2, .inl (E.2.1, 293, .inl fb)), (r3, .inr (2, [.ref rc3])), (rc3, .inl (E.2.1, 293, .inl ft)), (d, .inr (1, [.ref ch, .ref nu, .int (nI L), .int a, .int b, .int le, .int co, .int mi])), (ch, .inl (E.2.2.1, 80, .inl t)), (nu, .inl (E.2.1, 4, .inl u)), (y, .inr (0, [.ref q, .int (nI o), .int (nI z)])), (q, .inr (3, [.ref w])), (w, .inl (E.2.1, 1758, .inl h)), (q2, .inr (3, [.ref w2])), (w2, .inl (E.2.1, 586, .inl sl)), (mo, .inr (5, [.ref st, .ref sp, .ref th, .int (nI sn), .ref so, .ref sv, .ref pd, .int (nI ln), .int (nI ta), .int sg, .ref mu])), (st, .inl (E.2.1, 293, .inl g)), (sp, .inl (E.2.1, 293, .inl gp)), (th, .inl (E.2.1, 1758, .inl gh)), (so, .inl (E.2.1, 586, .inl gs)), (sv, .inl (E.2.1, 2, .inl gv)), (pd, .inl (E.2.1, 80, .inl gt)), (mu, .inl (E.2.1, 4, .inl gu))] H) (hS : va_S A s.heap H locs) (ls : Array Slot) (hl : lv_has ls 4 [(3, .int (nI i)), (2, .ref mo), (1, .ref xo), (0, .ref b9)]) : W p l e room_1 s m #[Value.ref b9] below meth c H locs cells slots Q (F0 m 689 ls []) := by
  have hx := S.1
  have hb := S.2.1
  have hown := S.2.2.2.1
  have hts := S.2.2.2.2
  have hK := hE.1
  obtain ⟨⟨n, hR, hAg⟩, hH, hSl, hT, hln, hmi⟩ := h9
  have hln := hln.symm
  subst hln
  have hsn := hH.2.2.1.symm
  subst hsn
  have hf := R_12 hR
  have hf2 := R_4 hR
  have hn := R_n hR
  have hst := R_st hR
  have ho := hH.1
  have hz := hH.2.1
  have hL := hT.1
  refine lv_aload_n hx hb dL_law_689 rfl (lv_at hl 2 rfl) ?_
  refine lv_aload_n hx hb dL_law_690 rfl (lv_at hl 3 rfl) ?_
  refine lv_iload_n hx hb dL_law_691 rfl (lv_at hl 0 rfl) ?_
  refine lv_iconst (v := nI 1) hx hb dL_law_692 (by decide) ?_
  refine rn_add (a := i) (b := 1) hx hb dL_law_693 ?_
  refine lw_sld hx hb hX hbl hbA hS (show i + 1 < LL by omega) hLL dL_law_694 ?_
  refine rwV1 (rest := []) S (c_X7_count l E xo r r2 r3 d y q2 sf rc f ch nu L a b le co mi t u q w o z h n (xs (i + 1)) hf (by omega)) cd_X7_count bw_444 ⟨Nat.le_of_ble_eq_true rfl, Nat.le_of_ble_eq_true rfl⟩ hcs hP (hDa.to rfl) hE hA hS [0, 1, 2, 7, 8, 9, 10, 11, 12] rfl rfl [xo, r, rc, d, ch, nu, y, q, w] rfl rfl (ci := 4) rfl (q0 := 0) rfl (Nat.le_of_ble_eq_true rfl) hl.1 dL_law_695 (fun H locs hP _ hS => ?_)
  have hP : va_P E.1 vwCl [(xo, .inr (4, [.ref r, .ref r2, .ref r3, .ref d, .ref y, .ref q2, .int sf])), (r, .inr (2, [.ref rc])), (rc, .inl (E.2.1, 293, .inl f)), (r2, .inr (2, [.ref rc2])), (rc2, .inl (E.2.1, 293, .inl fb)), (r3, .inr (2, [.ref rc3])), (rc3, .inl (E.2.1, 293, .inl ft)), (d, .inr (1, [.ref ch, .ref nu, .int (nI L), .int a, .int b, .int le, .int co, .int mi])), (ch, .inl (E.2.2.1, 80, .inl t)), (nu, .inl (E.2.1, 4, .inl u)), (y, .inr (0, [.ref q, .int (nI o), .int (nI z)])), (q, .inr (3, [.ref w])), (w, .inl (E.2.1, 1758, .inl h)), (q2, .inr (3, [.ref w2])), (w2, .inl (E.2.1, 586, .inl sl)), (mo, .inr (5, [.ref st, .ref sp, .ref th, .int (nI z), .ref so, .ref sv, .ref pd, .int (nI L), .int (nI ta), .int sg, .ref mu])), (st, .inl (E.2.1, 293, .inl g)), (sp, .inl (E.2.1, 293, .inl gp)), (th, .inl (E.2.1, 1758, .inl gh)), (so, .inl (E.2.1, 586, .inl gs)), (sv, .inl (E.2.1, 2, .inl gv)), (pd, .inl (E.2.1, 80, .inl gt)), (mu, .inl (E.2.1, 4, .inl gu))] H := hP
  refine lv_aload_n hx hb dL_law_698 rfl (lv_at hl 1 rfl) ?_
  refine lv_aload_n hx hb dL_law_699 rfl (lv_at hl 3 rfl) ?_
  refine lv_iload_n hx hb dL_law_700 rfl (lv_at hl 0 rfl) ?_
  refine lv_iconst (v := nI 1) hx hb dL_law_701 (by decide) ?_
  refine rn_add (a := i) (b := 1) hx hb dL_law_702 ?_
  refine lw_sld hx hb hX hbl hbA hS (show i + 1 < LL by omega) hLL dL_law_703 ?_
  refine rwV1 (rest := [.int (fCo f n L z (xs (i + 1)))]) S (c_X8_count l E mo st sp th so sv pd mu z L ta sg g n (xs (i + 1)) hf2 (by omega)) cd_X8_count bw_984 ⟨Nat.le_of_ble_eq_true rfl, Nat.le_of_ble_eq_true rfl⟩ hcs hP (hDa.to rfl) hE hA hS [15, 16] rfl rfl [mo, st] rfl rfl (ci := 5) rfl (q0 := 0) rfl (Nat.le_of_ble_eq_true rfl) hl.1 dL_law_704 (fun H locs hP _ hS => ?_)
  have hP : va_P E.1 vwCl [(xo, .inr (4, [.ref r, .ref r2, .ref r3, .ref d, .ref y, .ref q2, .int sf])), (r, .inr (2, [.ref rc])), (rc, .inl (E.2.1, 293, .inl f)), (r2, .inr (2, [.ref rc2])), (rc2, .inl (E.2.1, 293, .inl fb)), (r3, .inr (2, [.ref rc3])), (rc3, .inl (E.2.1, 293, .inl ft)), (d, .inr (1, [.ref ch, .ref nu, .int (nI L), .int a, .int b, .int le, .int co, .int mi])), (ch, .inl (E.2.2.1, 80, .inl t)), (nu, .inl (E.2.1, 4, .inl u)), (y, .inr (0, [.ref q, .int (nI o), .int (nI z)])), (q, .inr (3, [.ref w])), (w, .inl (E.2.1, 1758, .inl h)), (q2, .inr (3, [.ref w2])), (w2, .inl (E.2.1, 586, .inl sl)), (mo, .inr (5, [.ref st, .ref sp, .ref th, .int (nI z), .ref so, .ref sv, .ref pd, .int (nI L), .int (nI ta), .int sg, .ref mu])), (st, .inl (E.2.1, 293, .inl g)), (sp, .inl (E.2.1, 293, .inl gp)), (th, .inl (E.2.1, 1758, .inl gh)), (so, .inl (E.2.1, 586, .inl gs)), (sv, .inl (E.2.1, 2, .inl gv)), (pd, .inl (E.2.1, 80, .inl gt)), (mu, .inl (E.2.1, 4, .inl gu))] H := hP
  have e9 := V_co hR L z (xs (i + 1))
  refine lv_icmp_eq (tgt := 1008) hx hb dL_law_707 (by decide) (fun _ => ?_) (fun c9 => absurd e9 c9)
  exact hk sf f fb ft L a b le co mi t u o z h sl L z ta sg g gp gh gs gv gt gu ⟨⟨n, hR, hAg⟩, hH, hSl, hT, rfl, hmi⟩ _ _ hP hS _ hl
set_option maxHeartbeats 4000000 in
set_option maxRecDepth 100000 in
theorem lw_c18 (S : CallFix p m c code 4 s #[Value.ref b9] bw RL) (hE : en E A s s.heap) (hA : ∀ q, s.heap.size ≤ q → A q) (hcs : cells ≤ room_1.cells ∧ slots ≤ room_1.slots) (hX : va_X b9 LL xs s s.heap) (hbl : b9 < s.heap.size) (hbA : ¬ A b9) (hLL : LL ≤ 3072) (hDa : va_Da A [xo, r, rc, r2, rc2, r3, rc3, d, ch, nu, y, q, w, q2, w2, mo, st, sp, th, so, sv, pd, mu]) (hi : i + 6 ≤ LL) (hk : lwK p l e s m below meth c Q E A b9 i cells slots xo r rc r2 rc2 r3 rc3 d ch nu y q w q2 w2 mo st sp th so sv pd mu) (sf : Int32) (f : Nat → Int32) (fb : Nat → Int32) (ft : Nat → Int32) (L : Nat) (a : Int32) (b : Int32) (le : Int32) (co : Int32) (mi : Int32) (t : Nat → Int32) (u : Nat → Int32) (o : Nat) (z : Nat) (h : Nat → Int32) (sl : Nat → Int32) (ln : Nat) (sn : Nat) (ta : Nat) (sg : Int32) (g : Nat → Int32) (gp : Nat → Int32) (gh : Nat → Int32) (gs : Nat → Int32) (gv : Nat → Int32) (gt : Nat → Int32) (gu : Nat → Int32) (h9 : LSt f g o z h sn gh sf sl gs gv L t gt ln mi) (H : Heap) (locs : List Loc) (hP : va_P E.1 vwCl [(xo, .inr (4, [.ref r, .ref r2, .ref r3, .ref d, .ref y, .ref q2, .int sf])), (r, .inr (2, [.ref rc])), (rc, .inl (E.2.1, 293, .inl f)), (r2, .inr (2, [.ref rc2])), (rc2, .inl (E.2.1, 293, .inl fb)), (r3, .inr (2, [.ref rc3])), (rc3, .inl (E.2.1, 293, .inl ft)), (d, .inr (1, [.ref ch, .ref nu, .int (nI L), .int a, .int b, .int le, .int co, .int mi])), (ch, .inl (E.2.2.1, 80, .inl t)), (nu, .inl (E.2.1, 4, .inl u)), (y, .inr (0, [.ref q, .int (nI o), .int (nI z)])), (q, .inr (3, [.ref w])), (w, .inl (E.2.1, 1758, .inl h)), (q2, .inr (3, [.ref w2])), (w2, .inl (E.2.1, 586, .inl sl)), (mo, .inr (5, [.ref st, .ref sp, .ref th, .int (nI sn), .ref so, .ref sv, .ref pd, .int (nI ln), .int (nI ta), .int sg, .ref mu])), (st, .inl (E.2.1, 293, .inl g)), (sp, .inl (E.2.1, 293, .inl gp)), (th, .inl (E.2.1, 1758, .inl gh)), (so, .inl (E.2.1, 586, .inl gs)), (sv, .inl (E.2.1, 2, .inl gv)), (pd, .inl (E.2.1, 80, .inl gt)), (mu, .inl (E.2.1, 4, .inl gu))] H) (hS : va_S A s.heap H locs) (ls : Array Slot) (hl : lv_has ls 4 [(3, .int (nI i)), (2, .ref mo), (1, .ref xo), (0, .ref b9)]) : W p l e room_1 s m #[Value.ref b9] below meth c H locs cells slots Q (F0 m 712 ls []) := by
  have hx := S.1
  have hb := S.2.1
  have hown := S.2.2.2.1
  have hts := S.2.2.2.2
  have hK := hE.1
  obtain ⟨⟨n, hR, hAg⟩, hH, hSl, hT, hln, hmi⟩ := h9
  have hln := hln.symm
  subst hln
  have hsn := hH.2.2.1.symm
  subst hsn
  have hf := R_12 hR
  have hf2 := R_4 hR
  have hn := R_n hR
  have hst := R_st hR
  have ho := hH.1
  have hz := hH.2.1
  have hL := hT.1
  refine lv_aload_n hx hb dL_law_712 rfl (lv_at hl 2 rfl) ?_
  refine lv_aload_n hx hb dL_law_713 rfl (lv_at hl 3 rfl) ?_
  refine lv_iload_n hx hb dL_law_714 rfl (lv_at hl 0 rfl) ?_
  refine lv_iconst (v := nI 1) hx hb dL_law_715 (by decide) ?_
  refine rn_add (a := i) (b := 1) hx hb dL_law_716 ?_
  refine lw_sld hx hb hX hbl hbA hS (show i + 1 < LL by omega) hLL dL_law_717 ?_
  refine lv_aload_n hx hb dL_law_718 rfl (lv_at hl 3 rfl) ?_
  refine lv_iload_n hx hb dL_law_719 rfl (lv_at hl 0 rfl) ?_
  refine lv_iconst (v := nI 2) hx hb dL_law_720 (by decide) ?_
  refine rn_add (a := i) (b := 2) hx hb dL_law_721 ?_
  refine lw_sld hx hb hX hbl hbA hS (show i + 2 < LL by omega) hLL dL_law_722 ?_
  refine rwV2 (rest := []) S (c_X7_needs l E xo r r2 r3 d y q2 sf rc f n (xs (i + 1)) (xs (i + 2)) hf (by omega)) cd_X7_needs bw_469 ⟨Nat.le_of_ble_eq_true rfl, Nat.le_of_ble_eq_true rfl⟩ hcs hP (hDa.to rfl) hE hA hS [0, 1, 2] rfl rfl [xo, r, rc] rfl rfl (ci := 4) rfl (q0 := 0) rfl (Nat.le_of_ble_eq_true rfl) hl.1 dL_law_723 (fun H locs hP _ hS => ?_)
  have hP : va_P E.1 vwCl [(xo, .inr (4, [.ref r, .ref r2, .ref r3, .ref d, .ref y, .ref q2, .int sf])), (r, .inr (2, [.ref rc])), (rc, .inl (E.2.1, 293, .inl f)), (r2, .inr (2, [.ref rc2])), (rc2, .inl (E.2.1, 293, .inl fb)), (r3, .inr (2, [.ref rc3])), (rc3, .inl (E.2.1, 293, .inl ft)), (d, .inr (1, [.ref ch, .ref nu, .int (nI L), .int a, .int b, .int le, .int co, .int mi])), (ch, .inl (E.2.2.1, 80, .inl t)), (nu, .inl (E.2.1, 4, .inl u)), (y, .inr (0, [.ref q, .int (nI o), .int (nI z)])), (q, .inr (3, [.ref w])), (w, .inl (E.2.1, 1758, .inl h)), (q2, .inr (3, [.ref w2])), (w2, .inl (E.2.1, 586, .inl sl)), (mo, .inr (5, [.ref st, .ref sp, .ref th, .int (nI z), .ref so, .ref sv, .ref pd, .int (nI L), .int (nI ta), .int sg, .ref mu])), (st, .inl (E.2.1, 293, .inl g)), (sp, .inl (E.2.1, 293, .inl gp)), (th, .inl (E.2.1, 1758, .inl gh)), (so, .inl (E.2.1, 586, .inl gs)), (sv, .inl (E.2.1, 2, .inl gv)), (pd, .inl (E.2.1, 80, .inl gt)), (mu, .inl (E.2.1, 4, .inl gu))] H := hP
  refine lv_aload_n hx hb dL_law_726 rfl (lv_at hl 1 rfl) ?_
  refine lv_aload_n hx hb dL_law_727 rfl (lv_at hl 3 rfl) ?_
  refine lv_iload_n hx hb dL_law_728 rfl (lv_at hl 0 rfl) ?_
  refine lv_iconst (v := nI 1) hx hb dL_law_729 (by decide) ?_
  refine rn_add (a := i) (b := 1) hx hb dL_law_730 ?_
  refine lw_sld hx hb hX hbl hbA hS (show i + 1 < LL by omega) hLL dL_law_731 ?_
  refine lv_aload_n hx hb dL_law_732 rfl (lv_at hl 3 rfl) ?_
  refine lv_iload_n hx hb dL_law_733 rfl (lv_at hl 0 rfl) ?_
  refine lv_iconst (v := nI 2) hx hb dL_law_734 (by decide) ?_
  refine rn_add (a := i) (b := 2) hx hb dL_law_735 ?_
  refine lw_sld hx hb hX hbl hbA hS (show i + 2 < LL by omega) hLL dL_law_736 ?_
  refine rwV2 (rest := [.int (fNe f n (xs (i + 1)) (xs (i + 2)))]) S (c_X8_needs l E mo st sp th so sv pd mu z L ta sg g n (xs (i + 1)) (xs (i + 2)) hf2 (by omega)) cd_X8_needs bw_996 ⟨Nat.le_of_ble_eq_true rfl, Nat.le_of_ble_eq_true rfl⟩ hcs hP (hDa.to rfl) hE hA hS [15, 16] rfl rfl [mo, st] rfl rfl (ci := 5) rfl (q0 := 0) rfl (Nat.le_of_ble_eq_true rfl) hl.1 dL_law_737 (fun H locs hP _ hS => ?_)
  have hP : va_P E.1 vwCl [(xo, .inr (4, [.ref r, .ref r2, .ref r3, .ref d, .ref y, .ref q2, .int sf])), (r, .inr (2, [.ref rc])), (rc, .inl (E.2.1, 293, .inl f)), (r2, .inr (2, [.ref rc2])), (rc2, .inl (E.2.1, 293, .inl fb)), (r3, .inr (2, [.ref rc3])), (rc3, .inl (E.2.1, 293, .inl ft)), (d, .inr (1, [.ref ch, .ref nu, .int (nI L), .int a, .int b, .int le, .int co, .int mi])), (ch, .inl (E.2.2.1, 80, .inl t)), (nu, .inl (E.2.1, 4, .inl u)), (y, .inr (0, [.ref q, .int (nI o), .int (nI z)])), (q, .inr (3, [.ref w])), (w, .inl (E.2.1, 1758, .inl h)), (q2, .inr (3, [.ref w2])), (w2, .inl (E.2.1, 586, .inl sl)), (mo, .inr (5, [.ref st, .ref sp, .ref th, .int (nI z), .ref so, .ref sv, .ref pd, .int (nI L), .int (nI ta), .int sg, .ref mu])), (st, .inl (E.2.1, 293, .inl g)), (sp, .inl (E.2.1, 293, .inl gp)), (th, .inl (E.2.1, 1758, .inl gh)), (so, .inl (E.2.1, 586, .inl gs)), (sv, .inl (E.2.1, 2, .inl gv)), (pd, .inl (E.2.1, 80, .inl gt)), (mu, .inl (E.2.1, 4, .inl gu))] H := hP
  have e9 := V_ne hR (xs (i + 1)) (xs (i + 2))
  refine lv_icmp_eq (tgt := 1008) hx hb dL_law_740 (by decide) (fun _ => ?_) (fun c9 => absurd e9 c9)
  exact hk sf f fb ft L a b le co mi t u o z h sl L z ta sg g gp gh gs gv gt gu ⟨⟨n, hR, hAg⟩, hH, hSl, hT, rfl, hmi⟩ _ _ hP hS _ hl
set_option maxHeartbeats 4000000 in
set_option maxRecDepth 100000 in
theorem lw_c19 (S : CallFix p m c code 4 s #[Value.ref b9] bw RL) (hE : en E A s s.heap) (hA : ∀ q, s.heap.size ≤ q → A q) (hcs : cells ≤ room_1.cells ∧ slots ≤ room_1.slots) (hX : va_X b9 LL xs s s.heap) (hbl : b9 < s.heap.size) (hbA : ¬ A b9) (hLL : LL ≤ 3072) (hDa : va_Da A [xo, r, rc, r2, rc2, r3, rc3, d, ch, nu, y, q, w, q2, w2, mo, st, sp, th, so, sv, pd, mu]) (hi : i + 6 ≤ LL) (hk : lwK p l e s m below meth c Q E A b9 i cells slots xo r rc r2 rc2 r3 rc3 d ch nu y q w q2 w2 mo st sp th so sv pd mu) (sf : Int32) (f : Nat → Int32) (fb : Nat → Int32) (ft : Nat → Int32) (L : Nat) (a : Int32) (b : Int32) (le : Int32) (co : Int32) (mi : Int32) (t : Nat → Int32) (u : Nat → Int32) (o : Nat) (z : Nat) (h : Nat → Int32) (sl : Nat → Int32) (ln : Nat) (sn : Nat) (ta : Nat) (sg : Int32) (g : Nat → Int32) (gp : Nat → Int32) (gh : Nat → Int32) (gs : Nat → Int32) (gv : Nat → Int32) (gt : Nat → Int32) (gu : Nat → Int32) (h9 : LSt f g o z h sn gh sf sl gs gv L t gt ln mi) (H : Heap) (locs : List Loc) (hP : va_P E.1 vwCl [(xo, .inr (4, [.ref r, .ref r2, .ref r3, .ref d, .ref y, .ref q2, .int sf])), (r, .inr (2, [.ref rc])), (rc, .inl (E.2.1, 293, .inl f)), (r2, .inr (2, [.ref rc2])), (rc2, .inl (E.2.1, 293, .inl fb)), (r3, .inr (2, [.ref rc3])), (rc3, .inl (E.2.1, 293, .inl ft)), (d, .inr (1, [.ref ch, .ref nu, .int (nI L), .int a, .int b, .int le, .int co, .int mi])), (ch, .inl (E.2.2.1, 80, .inl t)), (nu, .inl (E.2.1, 4, .inl u)), (y, .inr (0, [.ref q, .int (nI o), .int (nI z)])), (q, .inr (3, [.ref w])), (w, .inl (E.2.1, 1758, .inl h)), (q2, .inr (3, [.ref w2])), (w2, .inl (E.2.1, 586, .inl sl)), (mo, .inr (5, [.ref st, .ref sp, .ref th, .int (nI sn), .ref so, .ref sv, .ref pd, .int (nI ln), .int (nI ta), .int sg, .ref mu])), (st, .inl (E.2.1, 293, .inl g)), (sp, .inl (E.2.1, 293, .inl gp)), (th, .inl (E.2.1, 1758, .inl gh)), (so, .inl (E.2.1, 586, .inl gs)), (sv, .inl (E.2.1, 2, .inl gv)), (pd, .inl (E.2.1, 80, .inl gt)), (mu, .inl (E.2.1, 4, .inl gu))] H) (hS : va_S A s.heap H locs) (ls : Array Slot) (hl : lv_has ls 4 [(3, .int (nI i)), (2, .ref mo), (1, .ref xo), (0, .ref b9)]) : W p l e room_1 s m #[Value.ref b9] below meth c H locs cells slots Q (F0 m 745 ls []) := by
  have hx := S.1
  have hb := S.2.1
  have hown := S.2.2.2.1
  have hts := S.2.2.2.2
  have hK := hE.1
  obtain ⟨⟨n, hR, hAg⟩, hH, hSl, hT, hln, hmi⟩ := h9
  have hln := hln.symm
  subst hln
  have hsn := hH.2.2.1.symm
  subst hsn
  have hf := R_12 hR
  have hf2 := R_4 hR
  have hn := R_n hR
  have hst := R_st hR
  have ho := hH.1
  have hz := hH.2.1
  have hL := hT.1
  refine lv_aload_n hx hb dL_law_745 rfl (lv_at hl 2 rfl) ?_
  refine lv_aload_n hx hb dL_law_746 rfl (lv_at hl 3 rfl) ?_
  refine lv_iload_n hx hb dL_law_747 rfl (lv_at hl 0 rfl) ?_
  refine lv_iconst (v := nI 1) hx hb dL_law_748 (by decide) ?_
  refine rn_add (a := i) (b := 1) hx hb dL_law_749 ?_
  refine lw_sld hx hb hX hbl hbA hS (show i + 1 < LL by omega) hLL dL_law_750 ?_
  refine lv_aload_n hx hb dL_law_751 rfl (lv_at hl 3 rfl) ?_
  refine lv_iload_n hx hb dL_law_752 rfl (lv_at hl 0 rfl) ?_
  refine lv_iconst (v := nI 2) hx hb dL_law_753 (by decide) ?_
  refine rn_add (a := i) (b := 2) hx hb dL_law_754 ?_
  refine lw_sld hx hb hX hbl hbA hS (show i + 2 < LL by omega) hLL dL_law_755 ?_
  refine lv_aload_n hx hb dL_law_756 rfl (lv_at hl 3 rfl) ?_
  refine lv_iload_n hx hb dL_law_757 rfl (lv_at hl 0 rfl) ?_
  refine lv_iconst (v := nI 3) hx hb dL_law_758 (by decide) ?_
  refine rn_add (a := i) (b := 3) hx hb dL_law_759 ?_
  refine lw_sld hx hb hX hbl hbA hS (show i + 3 < LL by omega) hLL dL_law_760 ?_
  refine rwV3 (rest := []) S (c_X7_ifLight l E xo r r2 r3 d y q2 sf rc f n (xs (i + 1)) (xs (i + 2)) (xs (i + 3)) hf (by omega)) cd_X7_ifLight bw_479 ⟨Nat.le_of_ble_eq_true rfl, Nat.le_of_ble_eq_true rfl⟩ hcs hP (hDa.to rfl) hE hA hS [0, 1, 2] rfl rfl [xo, r, rc] rfl rfl (ci := 4) rfl (q0 := 0) rfl (Nat.le_of_ble_eq_true rfl) hl.1 dL_law_761 (fun H locs hP _ hS => ?_)
  have hP : va_P E.1 vwCl [(xo, .inr (4, [.ref r, .ref r2, .ref r3, .ref d, .ref y, .ref q2, .int sf])), (r, .inr (2, [.ref rc])), (rc, .inl (E.2.1, 293, .inl f)), (r2, .inr (2, [.ref rc2])), (rc2, .inl (E.2.1, 293, .inl fb)), (r3, .inr (2, [.ref rc3])), (rc3, .inl (E.2.1, 293, .inl ft)), (d, .inr (1, [.ref ch, .ref nu, .int (nI L), .int a, .int b, .int le, .int co, .int mi])), (ch, .inl (E.2.2.1, 80, .inl t)), (nu, .inl (E.2.1, 4, .inl u)), (y, .inr (0, [.ref q, .int (nI o), .int (nI z)])), (q, .inr (3, [.ref w])), (w, .inl (E.2.1, 1758, .inl h)), (q2, .inr (3, [.ref w2])), (w2, .inl (E.2.1, 586, .inl sl)), (mo, .inr (5, [.ref st, .ref sp, .ref th, .int (nI z), .ref so, .ref sv, .ref pd, .int (nI L), .int (nI ta), .int sg, .ref mu])), (st, .inl (E.2.1, 293, .inl g)), (sp, .inl (E.2.1, 293, .inl gp)), (th, .inl (E.2.1, 1758, .inl gh)), (so, .inl (E.2.1, 586, .inl gs)), (sv, .inl (E.2.1, 2, .inl gv)), (pd, .inl (E.2.1, 80, .inl gt)), (mu, .inl (E.2.1, 4, .inl gu))] H := hP
  refine lv_aload_n hx hb dL_law_764 rfl (lv_at hl 1 rfl) ?_
  refine lv_aload_n hx hb dL_law_765 rfl (lv_at hl 3 rfl) ?_
  refine lv_iload_n hx hb dL_law_766 rfl (lv_at hl 0 rfl) ?_
  refine lv_iconst (v := nI 1) hx hb dL_law_767 (by decide) ?_
  refine rn_add (a := i) (b := 1) hx hb dL_law_768 ?_
  refine lw_sld hx hb hX hbl hbA hS (show i + 1 < LL by omega) hLL dL_law_769 ?_
  refine lv_aload_n hx hb dL_law_770 rfl (lv_at hl 3 rfl) ?_
  refine lv_iload_n hx hb dL_law_771 rfl (lv_at hl 0 rfl) ?_
  refine lv_iconst (v := nI 2) hx hb dL_law_772 (by decide) ?_
  refine rn_add (a := i) (b := 2) hx hb dL_law_773 ?_
  refine lw_sld hx hb hX hbl hbA hS (show i + 2 < LL by omega) hLL dL_law_774 ?_
  refine lv_aload_n hx hb dL_law_775 rfl (lv_at hl 3 rfl) ?_
  refine lv_iload_n hx hb dL_law_776 rfl (lv_at hl 0 rfl) ?_
  refine lv_iconst (v := nI 3) hx hb dL_law_777 (by decide) ?_
  refine rn_add (a := i) (b := 3) hx hb dL_law_778 ?_
  refine lw_sld hx hb hX hbl hbA hS (show i + 3 < LL by omega) hLL dL_law_779 ?_
  refine rwV3 (rest := [.int (fIf f n (xs (i + 1)) (xs (i + 2)) (xs (i + 3)))]) S (c_X8_ifLight l E mo st sp th so sv pd mu z L ta sg g n (xs (i + 1)) (xs (i + 2)) (xs (i + 3)) hf2 (by omega)) cd_X8_ifLight bw_1004 ⟨Nat.le_of_ble_eq_true rfl, Nat.le_of_ble_eq_true rfl⟩ hcs hP (hDa.to rfl) hE hA hS [15, 16] rfl rfl [mo, st] rfl rfl (ci := 5) rfl (q0 := 0) rfl (Nat.le_of_ble_eq_true rfl) hl.1 dL_law_780 (fun H locs hP _ hS => ?_)
  have hP : va_P E.1 vwCl [(xo, .inr (4, [.ref r, .ref r2, .ref r3, .ref d, .ref y, .ref q2, .int sf])), (r, .inr (2, [.ref rc])), (rc, .inl (E.2.1, 293, .inl f)), (r2, .inr (2, [.ref rc2])), (rc2, .inl (E.2.1, 293, .inl fb)), (r3, .inr (2, [.ref rc3])), (rc3, .inl (E.2.1, 293, .inl ft)), (d, .inr (1, [.ref ch, .ref nu, .int (nI L), .int a, .int b, .int le, .int co, .int mi])), (ch, .inl (E.2.2.1, 80, .inl t)), (nu, .inl (E.2.1, 4, .inl u)), (y, .inr (0, [.ref q, .int (nI o), .int (nI z)])), (q, .inr (3, [.ref w])), (w, .inl (E.2.1, 1758, .inl h)), (q2, .inr (3, [.ref w2])), (w2, .inl (E.2.1, 586, .inl sl)), (mo, .inr (5, [.ref st, .ref sp, .ref th, .int (nI z), .ref so, .ref sv, .ref pd, .int (nI L), .int (nI ta), .int sg, .ref mu])), (st, .inl (E.2.1, 293, .inl g)), (sp, .inl (E.2.1, 293, .inl gp)), (th, .inl (E.2.1, 1758, .inl gh)), (so, .inl (E.2.1, 586, .inl gs)), (sv, .inl (E.2.1, 2, .inl gv)), (pd, .inl (E.2.1, 80, .inl gt)), (mu, .inl (E.2.1, 4, .inl gu))] H := hP
  have e9 := V_if hR (xs (i + 1)) (xs (i + 2)) (xs (i + 3))
  refine lv_icmp_eq (tgt := 1008) hx hb dL_law_783 (by decide) (fun _ => ?_) (fun c9 => absurd e9 c9)
  exact hk sf f fb ft L a b le co mi t u o z h sl L z ta sg g gp gh gs gv gt gu ⟨⟨n, hR, hAg⟩, hH, hSl, hT, rfl, hmi⟩ _ _ hP hS _ hl
set_option maxHeartbeats 4000000 in
set_option maxRecDepth 100000 in
theorem lw_c20 (S : CallFix p m c code 4 s #[Value.ref b9] bw RL) (hE : en E A s s.heap) (hA : ∀ q, s.heap.size ≤ q → A q) (hcs : cells ≤ room_1.cells ∧ slots ≤ room_1.slots) (hX : va_X b9 LL xs s s.heap) (hbl : b9 < s.heap.size) (hbA : ¬ A b9) (hLL : LL ≤ 3072) (hDa : va_Da A [xo, r, rc, r2, rc2, r3, rc3, d, ch, nu, y, q, w, q2, w2, mo, st, sp, th, so, sv, pd, mu]) (hi : i + 6 ≤ LL) (hk : lwK p l e s m below meth c Q E A b9 i cells slots xo r rc r2 rc2 r3 rc3 d ch nu y q w q2 w2 mo st sp th so sv pd mu) (sf : Int32) (f : Nat → Int32) (fb : Nat → Int32) (ft : Nat → Int32) (L : Nat) (a : Int32) (b : Int32) (le : Int32) (co : Int32) (mi : Int32) (t : Nat → Int32) (u : Nat → Int32) (o : Nat) (z : Nat) (h : Nat → Int32) (sl : Nat → Int32) (ln : Nat) (sn : Nat) (ta : Nat) (sg : Int32) (g : Nat → Int32) (gp : Nat → Int32) (gh : Nat → Int32) (gs : Nat → Int32) (gv : Nat → Int32) (gt : Nat → Int32) (gu : Nat → Int32) (h9 : LSt f g o z h sn gh sf sl gs gv L t gt ln mi) (H : Heap) (locs : List Loc) (hP : va_P E.1 vwCl [(xo, .inr (4, [.ref r, .ref r2, .ref r3, .ref d, .ref y, .ref q2, .int sf])), (r, .inr (2, [.ref rc])), (rc, .inl (E.2.1, 293, .inl f)), (r2, .inr (2, [.ref rc2])), (rc2, .inl (E.2.1, 293, .inl fb)), (r3, .inr (2, [.ref rc3])), (rc3, .inl (E.2.1, 293, .inl ft)), (d, .inr (1, [.ref ch, .ref nu, .int (nI L), .int a, .int b, .int le, .int co, .int mi])), (ch, .inl (E.2.2.1, 80, .inl t)), (nu, .inl (E.2.1, 4, .inl u)), (y, .inr (0, [.ref q, .int (nI o), .int (nI z)])), (q, .inr (3, [.ref w])), (w, .inl (E.2.1, 1758, .inl h)), (q2, .inr (3, [.ref w2])), (w2, .inl (E.2.1, 586, .inl sl)), (mo, .inr (5, [.ref st, .ref sp, .ref th, .int (nI sn), .ref so, .ref sv, .ref pd, .int (nI ln), .int (nI ta), .int sg, .ref mu])), (st, .inl (E.2.1, 293, .inl g)), (sp, .inl (E.2.1, 293, .inl gp)), (th, .inl (E.2.1, 1758, .inl gh)), (so, .inl (E.2.1, 586, .inl gs)), (sv, .inl (E.2.1, 2, .inl gv)), (pd, .inl (E.2.1, 80, .inl gt)), (mu, .inl (E.2.1, 4, .inl gu))] H) (hS : va_S A s.heap H locs) (ls : Array Slot) (hl : lv_has ls 4 [(3, .int (nI i)), (2, .ref mo), (1, .ref xo), (0, .ref b9)]) : W p l e room_1 s m #[Value.ref b9] below meth c H locs cells slots Q (F0 m 788 ls []) := by
  have hx := S.1
  have hb := S.2.1
  have hown := S.2.2.2.1
  have hts := S.2.2.2.2
  have hK := hE.1
  obtain ⟨⟨n, hR, hAg⟩, hH, hSl, hT, hln, hmi⟩ := h9
  have hln := hln.symm
  subst hln
  have hsn := hH.2.2.1.symm
  subst hsn
  have hf := R_12 hR
  have hf2 := R_4 hR
  have hn := R_n hR
  have hst := R_st hR
  have ho := hH.1
  have hz := hH.2.1
  have hL := hT.1
  refine lv_aload_n hx hb dL_law_788 rfl (lv_at hl 2 rfl) ?_
  refine lv_aload_n hx hb dL_law_789 rfl (lv_at hl 3 rfl) ?_
  refine lv_iload_n hx hb dL_law_790 rfl (lv_at hl 0 rfl) ?_
  refine lv_iconst (v := nI 1) hx hb dL_law_791 (by decide) ?_
  refine rn_add (a := i) (b := 1) hx hb dL_law_792 ?_
  refine lw_sld hx hb hX hbl hbA hS (show i + 1 < LL by omega) hLL dL_law_793 ?_
  refine rwV1 (rest := []) S (c_X7_lasts l E xo r r2 r3 d y q2 sf rc f n (xs (i + 1)) hf (by omega)) cd_X7_lasts bw_484 ⟨Nat.le_of_ble_eq_true rfl, Nat.le_of_ble_eq_true rfl⟩ hcs hP (hDa.to rfl) hE hA hS [0, 1, 2] rfl rfl [xo, r, rc] rfl rfl (ci := 4) rfl (q0 := 0) rfl (Nat.le_of_ble_eq_true rfl) hl.1 dL_law_794 (fun H locs hP _ hS => ?_)
  have hP : va_P E.1 vwCl [(xo, .inr (4, [.ref r, .ref r2, .ref r3, .ref d, .ref y, .ref q2, .int sf])), (r, .inr (2, [.ref rc])), (rc, .inl (E.2.1, 293, .inl f)), (r2, .inr (2, [.ref rc2])), (rc2, .inl (E.2.1, 293, .inl fb)), (r3, .inr (2, [.ref rc3])), (rc3, .inl (E.2.1, 293, .inl ft)), (d, .inr (1, [.ref ch, .ref nu, .int (nI L), .int a, .int b, .int le, .int co, .int mi])), (ch, .inl (E.2.2.1, 80, .inl t)), (nu, .inl (E.2.1, 4, .inl u)), (y, .inr (0, [.ref q, .int (nI o), .int (nI z)])), (q, .inr (3, [.ref w])), (w, .inl (E.2.1, 1758, .inl h)), (q2, .inr (3, [.ref w2])), (w2, .inl (E.2.1, 586, .inl sl)), (mo, .inr (5, [.ref st, .ref sp, .ref th, .int (nI z), .ref so, .ref sv, .ref pd, .int (nI L), .int (nI ta), .int sg, .ref mu])), (st, .inl (E.2.1, 293, .inl g)), (sp, .inl (E.2.1, 293, .inl gp)), (th, .inl (E.2.1, 1758, .inl gh)), (so, .inl (E.2.1, 586, .inl gs)), (sv, .inl (E.2.1, 2, .inl gv)), (pd, .inl (E.2.1, 80, .inl gt)), (mu, .inl (E.2.1, 4, .inl gu))] H := hP
  refine lv_aload_n hx hb dL_law_797 rfl (lv_at hl 1 rfl) ?_
  refine lv_aload_n hx hb dL_law_798 rfl (lv_at hl 3 rfl) ?_
  refine lv_iload_n hx hb dL_law_799 rfl (lv_at hl 0 rfl) ?_
  refine lv_iconst (v := nI 1) hx hb dL_law_800 (by decide) ?_
  refine rn_add (a := i) (b := 1) hx hb dL_law_801 ?_
  refine lw_sld hx hb hX hbl hbA hS (show i + 1 < LL by omega) hLL dL_law_802 ?_
  refine rwV1 (rest := [.int (fLs f n (xs (i + 1)))]) S (c_X8_lasts l E mo st sp th so sv pd mu z L ta sg g n (xs (i + 1)) hf2 (by omega)) cd_X8_lasts bw_1008 ⟨Nat.le_of_ble_eq_true rfl, Nat.le_of_ble_eq_true rfl⟩ hcs hP (hDa.to rfl) hE hA hS [15, 16] rfl rfl [mo, st] rfl rfl (ci := 5) rfl (q0 := 0) rfl (Nat.le_of_ble_eq_true rfl) hl.1 dL_law_803 (fun H locs hP _ hS => ?_)
  have hP : va_P E.1 vwCl [(xo, .inr (4, [.ref r, .ref r2, .ref r3, .ref d, .ref y, .ref q2, .int sf])), (r, .inr (2, [.ref rc])), (rc, .inl (E.2.1, 293, .inl f)), (r2, .inr (2, [.ref rc2])), (rc2, .inl (E.2.1, 293, .inl fb)), (r3, .inr (2, [.ref rc3])), (rc3, .inl (E.2.1, 293, .inl ft)), (d, .inr (1, [.ref ch, .ref nu, .int (nI L), .int a, .int b, .int le, .int co, .int mi])), (ch, .inl (E.2.2.1, 80, .inl t)), (nu, .inl (E.2.1, 4, .inl u)), (y, .inr (0, [.ref q, .int (nI o), .int (nI z)])), (q, .inr (3, [.ref w])), (w, .inl (E.2.1, 1758, .inl h)), (q2, .inr (3, [.ref w2])), (w2, .inl (E.2.1, 586, .inl sl)), (mo, .inr (5, [.ref st, .ref sp, .ref th, .int (nI z), .ref so, .ref sv, .ref pd, .int (nI L), .int (nI ta), .int sg, .ref mu])), (st, .inl (E.2.1, 293, .inl g)), (sp, .inl (E.2.1, 293, .inl gp)), (th, .inl (E.2.1, 1758, .inl gh)), (so, .inl (E.2.1, 586, .inl gs)), (sv, .inl (E.2.1, 2, .inl gv)), (pd, .inl (E.2.1, 80, .inl gt)), (mu, .inl (E.2.1, 4, .inl gu))] H := hP
  have e9 := V_ls hR (xs (i + 1))
  refine lv_icmp_eq (tgt := 1008) hx hb dL_law_806 (by decide) (fun _ => ?_) (fun c9 => absurd e9 c9)
  exact hk sf f fb ft L a b le co mi t u o z h sl L z ta sg g gp gh gs gv gt gu ⟨⟨n, hR, hAg⟩, hH, hSl, hT, rfl, hmi⟩ _ _ hP hS _ hl
set_option maxHeartbeats 4000000 in
set_option maxRecDepth 100000 in
theorem lw_c21 (S : CallFix p m c code 4 s #[Value.ref b9] bw RL) (hE : en E A s s.heap) (hA : ∀ q, s.heap.size ≤ q → A q) (hcs : cells ≤ room_1.cells ∧ slots ≤ room_1.slots) (hX : va_X b9 LL xs s s.heap) (hbl : b9 < s.heap.size) (hbA : ¬ A b9) (hLL : LL ≤ 3072) (hDa : va_Da A [xo, r, rc, r2, rc2, r3, rc3, d, ch, nu, y, q, w, q2, w2, mo, st, sp, th, so, sv, pd, mu]) (hi : i + 6 ≤ LL) (hk : lwK p l e s m below meth c Q E A b9 i cells slots xo r rc r2 rc2 r3 rc3 d ch nu y q w q2 w2 mo st sp th so sv pd mu) (sf : Int32) (f : Nat → Int32) (fb : Nat → Int32) (ft : Nat → Int32) (L : Nat) (a : Int32) (b : Int32) (le : Int32) (co : Int32) (mi : Int32) (t : Nat → Int32) (u : Nat → Int32) (o : Nat) (z : Nat) (h : Nat → Int32) (sl : Nat → Int32) (ln : Nat) (sn : Nat) (ta : Nat) (sg : Int32) (g : Nat → Int32) (gp : Nat → Int32) (gh : Nat → Int32) (gs : Nat → Int32) (gv : Nat → Int32) (gt : Nat → Int32) (gu : Nat → Int32) (h9 : LSt f g o z h sn gh sf sl gs gv L t gt ln mi) (H : Heap) (locs : List Loc) (hP : va_P E.1 vwCl [(xo, .inr (4, [.ref r, .ref r2, .ref r3, .ref d, .ref y, .ref q2, .int sf])), (r, .inr (2, [.ref rc])), (rc, .inl (E.2.1, 293, .inl f)), (r2, .inr (2, [.ref rc2])), (rc2, .inl (E.2.1, 293, .inl fb)), (r3, .inr (2, [.ref rc3])), (rc3, .inl (E.2.1, 293, .inl ft)), (d, .inr (1, [.ref ch, .ref nu, .int (nI L), .int a, .int b, .int le, .int co, .int mi])), (ch, .inl (E.2.2.1, 80, .inl t)), (nu, .inl (E.2.1, 4, .inl u)), (y, .inr (0, [.ref q, .int (nI o), .int (nI z)])), (q, .inr (3, [.ref w])), (w, .inl (E.2.1, 1758, .inl h)), (q2, .inr (3, [.ref w2])), (w2, .inl (E.2.1, 586, .inl sl)), (mo, .inr (5, [.ref st, .ref sp, .ref th, .int (nI sn), .ref so, .ref sv, .ref pd, .int (nI ln), .int (nI ta), .int sg, .ref mu])), (st, .inl (E.2.1, 293, .inl g)), (sp, .inl (E.2.1, 293, .inl gp)), (th, .inl (E.2.1, 1758, .inl gh)), (so, .inl (E.2.1, 586, .inl gs)), (sv, .inl (E.2.1, 2, .inl gv)), (pd, .inl (E.2.1, 80, .inl gt)), (mu, .inl (E.2.1, 4, .inl gu))] H) (hS : va_S A s.heap H locs) (ls : Array Slot) (hl : lv_has ls 4 [(3, .int (nI i)), (2, .ref mo), (1, .ref xo), (0, .ref b9)]) : W p l e room_1 s m #[Value.ref b9] below meth c H locs cells slots Q (F0 m 811 ls []) := by
  have hx := S.1
  have hb := S.2.1
  have hown := S.2.2.2.1
  have hts := S.2.2.2.2
  have hK := hE.1
  obtain ⟨⟨n, hR, hAg⟩, hH, hSl, hT, hln, hmi⟩ := h9
  have hln := hln.symm
  subst hln
  have hsn := hH.2.2.1.symm
  subst hsn
  have hf := R_12 hR
  have hf2 := R_4 hR
  have hn := R_n hR
  have hst := R_st hR
  have ho := hH.1
  have hz := hH.2.1
  have hL := hT.1
  refine lv_aload_n hx hb dL_law_811 rfl (lv_at hl 2 rfl) ?_
  refine lv_aload_n hx hb dL_law_812 rfl (lv_at hl 3 rfl) ?_
  refine lv_iload_n hx hb dL_law_813 rfl (lv_at hl 0 rfl) ?_
  refine lv_iconst (v := nI 1) hx hb dL_law_814 (by decide) ?_
  refine rn_add (a := i) (b := 1) hx hb dL_law_815 ?_
  refine lw_sld hx hb hX hbl hbA hS (show i + 1 < LL by omega) hLL dL_law_816 ?_
  refine lv_aload_n hx hb dL_law_817 rfl (lv_at hl 3 rfl) ?_
  refine lv_iload_n hx hb dL_law_818 rfl (lv_at hl 0 rfl) ?_
  refine lv_iconst (v := nI 2) hx hb dL_law_819 (by decide) ?_
  refine rn_add (a := i) (b := 2) hx hb dL_law_820 ?_
  refine lw_sld hx hb hX hbl hbA hS (show i + 2 < LL by omega) hLL dL_law_821 ?_
  refine rwV2 (rest := []) S (c_X7_bestTrim l E xo r r2 r3 d y q2 sf rc f n (xs (i + 1)) (xs (i + 2)) hf (by omega)) cd_X7_bestTrim bw_497 ⟨Nat.le_of_ble_eq_true rfl, Nat.le_of_ble_eq_true rfl⟩ hcs hP (hDa.to rfl) hE hA hS [0, 1, 2] rfl rfl [xo, r, rc] rfl rfl (ci := 4) rfl (q0 := 0) rfl (Nat.le_of_ble_eq_true rfl) hl.1 dL_law_822 (fun H locs hP _ hS => ?_)
  have hP : va_P E.1 vwCl [(xo, .inr (4, [.ref r, .ref r2, .ref r3, .ref d, .ref y, .ref q2, .int sf])), (r, .inr (2, [.ref rc])), (rc, .inl (E.2.1, 293, .inl f)), (r2, .inr (2, [.ref rc2])), (rc2, .inl (E.2.1, 293, .inl fb)), (r3, .inr (2, [.ref rc3])), (rc3, .inl (E.2.1, 293, .inl ft)), (d, .inr (1, [.ref ch, .ref nu, .int (nI L), .int a, .int b, .int le, .int co, .int mi])), (ch, .inl (E.2.2.1, 80, .inl t)), (nu, .inl (E.2.1, 4, .inl u)), (y, .inr (0, [.ref q, .int (nI o), .int (nI z)])), (q, .inr (3, [.ref w])), (w, .inl (E.2.1, 1758, .inl h)), (q2, .inr (3, [.ref w2])), (w2, .inl (E.2.1, 586, .inl sl)), (mo, .inr (5, [.ref st, .ref sp, .ref th, .int (nI z), .ref so, .ref sv, .ref pd, .int (nI L), .int (nI ta), .int sg, .ref mu])), (st, .inl (E.2.1, 293, .inl g)), (sp, .inl (E.2.1, 293, .inl gp)), (th, .inl (E.2.1, 1758, .inl gh)), (so, .inl (E.2.1, 586, .inl gs)), (sv, .inl (E.2.1, 2, .inl gv)), (pd, .inl (E.2.1, 80, .inl gt)), (mu, .inl (E.2.1, 4, .inl gu))] H := hP
  refine lv_aload_n hx hb dL_law_825 rfl (lv_at hl 1 rfl) ?_
  refine lv_aload_n hx hb dL_law_826 rfl (lv_at hl 3 rfl) ?_
  refine lv_iload_n hx hb dL_law_827 rfl (lv_at hl 0 rfl) ?_
  refine lv_iconst (v := nI 1) hx hb dL_law_828 (by decide) ?_
  refine rn_add (a := i) (b := 1) hx hb dL_law_829 ?_
  refine lw_sld hx hb hX hbl hbA hS (show i + 1 < LL by omega) hLL dL_law_830 ?_
  refine lv_aload_n hx hb dL_law_831 rfl (lv_at hl 3 rfl) ?_
  refine lv_iload_n hx hb dL_law_832 rfl (lv_at hl 0 rfl) ?_
  refine lv_iconst (v := nI 2) hx hb dL_law_833 (by decide) ?_
  refine rn_add (a := i) (b := 2) hx hb dL_law_834 ?_
  refine lw_sld hx hb hX hbl hbA hS (show i + 2 < LL by omega) hLL dL_law_835 ?_
  refine rwV2 (rest := [.int (fBe f n (xs (i + 1)) (xs (i + 2)))]) S (c_X8_bestTrim l E mo st sp th so sv pd mu z L ta sg g n (xs (i + 1)) (xs (i + 2)) hf2 (by omega)) cd_X8_bestTrim bw_1016 ⟨Nat.le_of_ble_eq_true rfl, Nat.le_of_ble_eq_true rfl⟩ hcs hP (hDa.to rfl) hE hA hS [15, 16] rfl rfl [mo, st] rfl rfl (ci := 5) rfl (q0 := 0) rfl (Nat.le_of_ble_eq_true rfl) hl.1 dL_law_836 (fun H locs hP _ hS => ?_)
  have hP : va_P E.1 vwCl [(xo, .inr (4, [.ref r, .ref r2, .ref r3, .ref d, .ref y, .ref q2, .int sf])), (r, .inr (2, [.ref rc])), (rc, .inl (E.2.1, 293, .inl f)), (r2, .inr (2, [.ref rc2])), (rc2, .inl (E.2.1, 293, .inl fb)), (r3, .inr (2, [.ref rc3])), (rc3, .inl (E.2.1, 293, .inl ft)), (d, .inr (1, [.ref ch, .ref nu, .int (nI L), .int a, .int b, .int le, .int co, .int mi])), (ch, .inl (E.2.2.1, 80, .inl t)), (nu, .inl (E.2.1, 4, .inl u)), (y, .inr (0, [.ref q, .int (nI o), .int (nI z)])), (q, .inr (3, [.ref w])), (w, .inl (E.2.1, 1758, .inl h)), (q2, .inr (3, [.ref w2])), (w2, .inl (E.2.1, 586, .inl sl)), (mo, .inr (5, [.ref st, .ref sp, .ref th, .int (nI z), .ref so, .ref sv, .ref pd, .int (nI L), .int (nI ta), .int sg, .ref mu])), (st, .inl (E.2.1, 293, .inl g)), (sp, .inl (E.2.1, 293, .inl gp)), (th, .inl (E.2.1, 1758, .inl gh)), (so, .inl (E.2.1, 586, .inl gs)), (sv, .inl (E.2.1, 2, .inl gv)), (pd, .inl (E.2.1, 80, .inl gt)), (mu, .inl (E.2.1, 4, .inl gu))] H := hP
  have e9 := V_be hR (xs (i + 1)) (xs (i + 2))
  refine lv_icmp_eq (tgt := 1008) hx hb dL_law_839 (by decide) (fun _ => ?_) (fun c9 => absurd e9 c9)
  exact hk sf f fb ft L a b le co mi t u o z h sl L z ta sg g gp gh gs gv gt gu ⟨⟨n, hR, hAg⟩, hH, hSl, hT, rfl, hmi⟩ _ _ hP hS _ hl
set_option maxHeartbeats 4000000 in
set_option maxRecDepth 100000 in
theorem lw_c22 (S : CallFix p m c code 4 s #[Value.ref b9] bw RL) (hE : en E A s s.heap) (hA : ∀ q, s.heap.size ≤ q → A q) (hcs : cells ≤ room_1.cells ∧ slots ≤ room_1.slots) (hX : va_X b9 LL xs s s.heap) (hbl : b9 < s.heap.size) (hbA : ¬ A b9) (hLL : LL ≤ 3072) (hDa : va_Da A [xo, r, rc, r2, rc2, r3, rc3, d, ch, nu, y, q, w, q2, w2, mo, st, sp, th, so, sv, pd, mu]) (hi : i + 6 ≤ LL) (hk : lwK p l e s m below meth c Q E A b9 i cells slots xo r rc r2 rc2 r3 rc3 d ch nu y q w q2 w2 mo st sp th so sv pd mu) (sf : Int32) (f : Nat → Int32) (fb : Nat → Int32) (ft : Nat → Int32) (L : Nat) (a : Int32) (b : Int32) (le : Int32) (co : Int32) (mi : Int32) (t : Nat → Int32) (u : Nat → Int32) (o : Nat) (z : Nat) (h : Nat → Int32) (sl : Nat → Int32) (ln : Nat) (sn : Nat) (ta : Nat) (sg : Int32) (g : Nat → Int32) (gp : Nat → Int32) (gh : Nat → Int32) (gs : Nat → Int32) (gv : Nat → Int32) (gt : Nat → Int32) (gu : Nat → Int32) (h9 : LSt f g o z h sn gh sf sl gs gv L t gt ln mi) (H : Heap) (locs : List Loc) (hP : va_P E.1 vwCl [(xo, .inr (4, [.ref r, .ref r2, .ref r3, .ref d, .ref y, .ref q2, .int sf])), (r, .inr (2, [.ref rc])), (rc, .inl (E.2.1, 293, .inl f)), (r2, .inr (2, [.ref rc2])), (rc2, .inl (E.2.1, 293, .inl fb)), (r3, .inr (2, [.ref rc3])), (rc3, .inl (E.2.1, 293, .inl ft)), (d, .inr (1, [.ref ch, .ref nu, .int (nI L), .int a, .int b, .int le, .int co, .int mi])), (ch, .inl (E.2.2.1, 80, .inl t)), (nu, .inl (E.2.1, 4, .inl u)), (y, .inr (0, [.ref q, .int (nI o), .int (nI z)])), (q, .inr (3, [.ref w])), (w, .inl (E.2.1, 1758, .inl h)), (q2, .inr (3, [.ref w2])), (w2, .inl (E.2.1, 586, .inl sl)), (mo, .inr (5, [.ref st, .ref sp, .ref th, .int (nI sn), .ref so, .ref sv, .ref pd, .int (nI ln), .int (nI ta), .int sg, .ref mu])), (st, .inl (E.2.1, 293, .inl g)), (sp, .inl (E.2.1, 293, .inl gp)), (th, .inl (E.2.1, 1758, .inl gh)), (so, .inl (E.2.1, 586, .inl gs)), (sv, .inl (E.2.1, 2, .inl gv)), (pd, .inl (E.2.1, 80, .inl gt)), (mu, .inl (E.2.1, 4, .inl gu))] H) (hS : va_S A s.heap H locs) (ls : Array Slot) (hl : lv_has ls 4 [(3, .int (nI i)), (2, .ref mo), (1, .ref xo), (0, .ref b9)]) : W p l e room_1 s m #[Value.ref b9] below meth c H locs cells slots Q (F0 m 844 ls []) := by
  have hx := S.1
  have hb := S.2.1
  have hown := S.2.2.2.1
  have hts := S.2.2.2.2
  have hK := hE.1
  obtain ⟨⟨n, hR, hAg⟩, hH, hSl, hT, hln, hmi⟩ := h9
  have hln := hln.symm
  subst hln
  have hsn := hH.2.2.1.symm
  subst hsn
  have hf := R_12 hR
  have hf2 := R_4 hR
  have hn := R_n hR
  have hst := R_st hR
  have ho := hH.1
  have hz := hH.2.1
  have hL := hT.1
  refine lv_aload_n hx hb dL_law_844 rfl (lv_at hl 2 rfl) ?_
  refine rwV0 (rest := []) S (c_X7_printsNeeded l E xo r r2 r3 d y q2 sf rc f rc3 ft n hf (by omega)) cd_X7_printsNeeded bw_510 ⟨Nat.le_of_ble_eq_true rfl, Nat.le_of_ble_eq_true rfl⟩ hcs hP (hDa.to rfl) hE hA hS [0, 1, 2, 5, 6] rfl rfl [xo, r, rc, r3, rc3] rfl rfl (ci := 4) rfl (q0 := 0) rfl (Nat.le_of_ble_eq_true rfl) hl.1 dL_law_845 (fun H locs hP _ hS => ?_)
  have hP : va_P E.1 vwCl [(xo, .inr (4, [.ref r, .ref r2, .ref r3, .ref d, .ref y, .ref q2, .int sf])), (r, .inr (2, [.ref rc])), (rc, .inl (E.2.1, 293, .inl f)), (r2, .inr (2, [.ref rc2])), (rc2, .inl (E.2.1, 293, .inl fb)), (r3, .inr (2, [.ref rc3])), (rc3, .inl (E.2.1, 293, .inl (fPrW f ft n))), (d, .inr (1, [.ref ch, .ref nu, .int (nI L), .int a, .int b, .int le, .int co, .int mi])), (ch, .inl (E.2.2.1, 80, .inl t)), (nu, .inl (E.2.1, 4, .inl u)), (y, .inr (0, [.ref q, .int (nI o), .int (nI z)])), (q, .inr (3, [.ref w])), (w, .inl (E.2.1, 1758, .inl h)), (q2, .inr (3, [.ref w2])), (w2, .inl (E.2.1, 586, .inl sl)), (mo, .inr (5, [.ref st, .ref sp, .ref th, .int (nI z), .ref so, .ref sv, .ref pd, .int (nI L), .int (nI ta), .int sg, .ref mu])), (st, .inl (E.2.1, 293, .inl g)), (sp, .inl (E.2.1, 293, .inl gp)), (th, .inl (E.2.1, 1758, .inl gh)), (so, .inl (E.2.1, 586, .inl gs)), (sv, .inl (E.2.1, 2, .inl gv)), (pd, .inl (E.2.1, 80, .inl gt)), (mu, .inl (E.2.1, 4, .inl gu))] H := hP
  refine lv_aload_n hx hb dL_law_848 rfl (lv_at hl 1 rfl) ?_
  refine rwV0 (rest := [.int (fPr f ft n)]) S (c_X8_printsNeeded l E mo st sp th so sv pd mu z L ta sg g gp n hf2 (by omega) hst) cd_X8_printsNeeded bw_1024 ⟨Nat.le_of_ble_eq_true rfl, Nat.le_of_ble_eq_true rfl⟩ hcs hP (hDa.to rfl) hE hA hS [15, 16, 17] rfl rfl [mo, st, sp] rfl rfl (ci := 5) rfl (q0 := 0) rfl (Nat.le_of_ble_eq_true rfl) hl.1 dL_law_849 (fun H locs hP _ hS => ?_)
  have hP : va_P E.1 vwCl [(xo, .inr (4, [.ref r, .ref r2, .ref r3, .ref d, .ref y, .ref q2, .int sf])), (r, .inr (2, [.ref rc])), (rc, .inl (E.2.1, 293, .inl f)), (r2, .inr (2, [.ref rc2])), (rc2, .inl (E.2.1, 293, .inl fb)), (r3, .inr (2, [.ref rc3])), (rc3, .inl (E.2.1, 293, .inl (fPrW f ft n))), (d, .inr (1, [.ref ch, .ref nu, .int (nI L), .int a, .int b, .int le, .int co, .int mi])), (ch, .inl (E.2.2.1, 80, .inl t)), (nu, .inl (E.2.1, 4, .inl u)), (y, .inr (0, [.ref q, .int (nI o), .int (nI z)])), (q, .inr (3, [.ref w])), (w, .inl (E.2.1, 1758, .inl h)), (q2, .inr (3, [.ref w2])), (w2, .inl (E.2.1, 586, .inl sl)), (mo, .inr (5, [.ref st, .ref sp, .ref th, .int (nI z), .ref so, .ref sv, .ref pd, .int (nI L), .int (nI ta), .int sg, .ref mu])), (st, .inl (E.2.1, 293, .inl (mPrG g gp n))), (sp, .inl (E.2.1, 293, .inl (mPrP g gp n))), (th, .inl (E.2.1, 1758, .inl gh)), (so, .inl (E.2.1, 586, .inl gs)), (sv, .inl (E.2.1, 2, .inl gv)), (pd, .inl (E.2.1, 80, .inl gt)), (mu, .inl (E.2.1, 4, .inl gu))] H := hP
  have e9 := V_pN hR ft
  refine lv_icmp_eq (tgt := 1008) hx hb dL_law_852 (by decide) (fun _ => ?_) (fun c9 => absurd e9 c9)
  exact hk sf f fb (fPrW f ft n) L a b le co mi t u o z h sl L z ta sg (mPrG g gp n) (mPrP g gp n) gh gs gv gt gu ⟨⟨n, Rel_pN hR gp, Ag_pN hAg gp n⟩, hH, hSl, hT, rfl, hmi⟩ _ _ hP hS _ hl
set_option maxHeartbeats 4000000 in
set_option maxRecDepth 100000 in
theorem lw_c23 (S : CallFix p m c code 4 s #[Value.ref b9] bw RL) (hE : en E A s s.heap) (hA : ∀ q, s.heap.size ≤ q → A q) (hcs : cells ≤ room_1.cells ∧ slots ≤ room_1.slots) (hX : va_X b9 LL xs s s.heap) (hbl : b9 < s.heap.size) (hbA : ¬ A b9) (hLL : LL ≤ 3072) (hDa : va_Da A [xo, r, rc, r2, rc2, r3, rc3, d, ch, nu, y, q, w, q2, w2, mo, st, sp, th, so, sv, pd, mu]) (hi : i + 6 ≤ LL) (hk : lwK p l e s m below meth c Q E A b9 i cells slots xo r rc r2 rc2 r3 rc3 d ch nu y q w q2 w2 mo st sp th so sv pd mu) (sf : Int32) (f : Nat → Int32) (fb : Nat → Int32) (ft : Nat → Int32) (L : Nat) (a : Int32) (b : Int32) (le : Int32) (co : Int32) (mi : Int32) (t : Nat → Int32) (u : Nat → Int32) (o : Nat) (z : Nat) (h : Nat → Int32) (sl : Nat → Int32) (ln : Nat) (sn : Nat) (ta : Nat) (sg : Int32) (g : Nat → Int32) (gp : Nat → Int32) (gh : Nat → Int32) (gs : Nat → Int32) (gv : Nat → Int32) (gt : Nat → Int32) (gu : Nat → Int32) (h9 : LSt f g o z h sn gh sf sl gs gv L t gt ln mi) (H : Heap) (locs : List Loc) (hP : va_P E.1 vwCl [(xo, .inr (4, [.ref r, .ref r2, .ref r3, .ref d, .ref y, .ref q2, .int sf])), (r, .inr (2, [.ref rc])), (rc, .inl (E.2.1, 293, .inl f)), (r2, .inr (2, [.ref rc2])), (rc2, .inl (E.2.1, 293, .inl fb)), (r3, .inr (2, [.ref rc3])), (rc3, .inl (E.2.1, 293, .inl ft)), (d, .inr (1, [.ref ch, .ref nu, .int (nI L), .int a, .int b, .int le, .int co, .int mi])), (ch, .inl (E.2.2.1, 80, .inl t)), (nu, .inl (E.2.1, 4, .inl u)), (y, .inr (0, [.ref q, .int (nI o), .int (nI z)])), (q, .inr (3, [.ref w])), (w, .inl (E.2.1, 1758, .inl h)), (q2, .inr (3, [.ref w2])), (w2, .inl (E.2.1, 586, .inl sl)), (mo, .inr (5, [.ref st, .ref sp, .ref th, .int (nI sn), .ref so, .ref sv, .ref pd, .int (nI ln), .int (nI ta), .int sg, .ref mu])), (st, .inl (E.2.1, 293, .inl g)), (sp, .inl (E.2.1, 293, .inl gp)), (th, .inl (E.2.1, 1758, .inl gh)), (so, .inl (E.2.1, 586, .inl gs)), (sv, .inl (E.2.1, 2, .inl gv)), (pd, .inl (E.2.1, 80, .inl gt)), (mu, .inl (E.2.1, 4, .inl gu))] H) (hS : va_S A s.heap H locs) (ls : Array Slot) (hl : lv_has ls 4 [(3, .int (nI i)), (2, .ref mo), (1, .ref xo), (0, .ref b9)]) : W p l e room_1 s m #[Value.ref b9] below meth c H locs cells slots Q (F0 m 857 ls []) := by
  have hx := S.1
  have hb := S.2.1
  have hown := S.2.2.2.1
  have hts := S.2.2.2.2
  have hK := hE.1
  obtain ⟨⟨n, hR, hAg⟩, hH, hSl, hT, hln, hmi⟩ := h9
  have hln := hln.symm
  subst hln
  have hsn := hH.2.2.1.symm
  subst hsn
  have hf := R_12 hR
  have hf2 := R_4 hR
  have hn := R_n hR
  have hst := R_st hR
  have ho := hH.1
  have hz := hH.2.1
  have hL := hT.1
  refine lv_aload_n hx hb dL_law_857 rfl (lv_at hl 2 rfl) ?_
  refine lv_aload_n hx hb dL_law_858 rfl (lv_at hl 3 rfl) ?_
  refine lv_iload_n hx hb dL_law_859 rfl (lv_at hl 0 rfl) ?_
  refine lv_iconst (v := nI 1) hx hb dL_law_860 (by decide) ?_
  refine rn_add (a := i) (b := 1) hx hb dL_law_861 ?_
  refine lw_sld hx hb hX hbl hbA hS (show i + 1 < LL by omega) hLL dL_law_862 ?_
  refine lv_i2l hx hb dL_law_863 rfl ?_
  refine lv_bipush (v := nI 32) hx hb dL_law_864 (by decide) ?_
  refine lv_lshl hx hb dL_law_866 rfl ?_
  refine lv_aload_n hx hb dL_law_867 rfl (lv_at hl 3 rfl) ?_
  refine lv_iload_n hx hb dL_law_868 rfl (lv_at hl 0 rfl) ?_
  refine lv_iconst (v := nI 2) hx hb dL_law_869 (by decide) ?_
  refine rn_add (a := i) (b := 2) hx hb dL_law_870 ?_
  refine lw_sld hx hb hX hbl hbA hS (show i + 2 < LL by omega) hLL dL_law_871 ?_
  refine lv_i2l hx hb dL_law_872 rfl ?_
  refine lv_ldc2 (own := RL) (v := 4294967295) hx hb hown (hts _ bw_1087) dL_law_873 ?_
  refine lv_land hx hb dL_law_876 ?_
  refine lv_lor hx hb dL_law_877 ?_
  refine rwV1 (rest := []) S (c_X7_put l E xo r r2 r3 d y q2 sf ch nu L a b le co mi t u ((((xs (i + 1)).toInt64) <<< ((nI 32).toInt64 &&& 63)) ||| (((xs (i + 2)).toInt64) &&& 4294967295)) (by omega)) cd_X7_put bw_519 ⟨Nat.le_of_ble_eq_true rfl, Nat.le_of_ble_eq_true rfl⟩ hcs hP (hDa.to rfl) hE hA hS [0, 7, 8, 9] rfl rfl [xo, d, ch, nu] rfl rfl (ci := 4) rfl (q0 := 0) rfl (Nat.le_of_ble_eq_true rfl) hl.1 dL_law_878 (fun H locs hP _ hS => ?_)
  have hP : va_P E.1 vwCl [(xo, .inr (4, [.ref r, .ref r2, .ref r3, .ref d, .ref y, .ref q2, .int sf])), (r, .inr (2, [.ref rc])), (rc, .inl (E.2.1, 293, .inl f)), (r2, .inr (2, [.ref rc2])), (rc2, .inl (E.2.1, 293, .inl fb)), (r3, .inr (2, [.ref rc3])), (rc3, .inl (E.2.1, 293, .inl ft)), (d, .inr (1, [.ref ch, .ref nu, .int (nI (apL L ((((xs (i + 1)).toInt64) <<< ((nI 32).toInt64 &&& 63)) ||| (((xs (i + 2)).toInt64) &&& 4294967295)))), .int a, .int b, .int le, .int co, .int mi])), (ch, .inl (E.2.2.1, 80, .inl (apW t L ((((xs (i + 1)).toInt64) <<< ((nI 32).toInt64 &&& 63)) ||| (((xs (i + 2)).toInt64) &&& 4294967295))))), (nu, .inl (E.2.1, 4, .inl u)), (y, .inr (0, [.ref q, .int (nI o), .int (nI z)])), (q, .inr (3, [.ref w])), (w, .inl (E.2.1, 1758, .inl h)), (q2, .inr (3, [.ref w2])), (w2, .inl (E.2.1, 586, .inl sl)), (mo, .inr (5, [.ref st, .ref sp, .ref th, .int (nI z), .ref so, .ref sv, .ref pd, .int (nI L), .int (nI ta), .int sg, .ref mu])), (st, .inl (E.2.1, 293, .inl g)), (sp, .inl (E.2.1, 293, .inl gp)), (th, .inl (E.2.1, 1758, .inl gh)), (so, .inl (E.2.1, 586, .inl gs)), (sv, .inl (E.2.1, 2, .inl gv)), (pd, .inl (E.2.1, 80, .inl gt)), (mu, .inl (E.2.1, 4, .inl gu))] H := hP
  refine lv_aload_n hx hb dL_law_881 rfl (lv_at hl 1 rfl) ?_
  refine lv_aload_n hx hb dL_law_882 rfl (lv_at hl 3 rfl) ?_
  refine lv_iload_n hx hb dL_law_883 rfl (lv_at hl 0 rfl) ?_
  refine lv_iconst (v := nI 1) hx hb dL_law_884 (by decide) ?_
  refine rn_add (a := i) (b := 1) hx hb dL_law_885 ?_
  refine lw_sld hx hb hX hbl hbA hS (show i + 1 < LL by omega) hLL dL_law_886 ?_
  refine lv_i2l hx hb dL_law_887 rfl ?_
  refine lv_bipush (v := nI 32) hx hb dL_law_888 (by decide) ?_
  refine lv_lshl hx hb dL_law_890 rfl ?_
  refine lv_aload_n hx hb dL_law_891 rfl (lv_at hl 3 rfl) ?_
  refine lv_iload_n hx hb dL_law_892 rfl (lv_at hl 0 rfl) ?_
  refine lv_iconst (v := nI 2) hx hb dL_law_893 (by decide) ?_
  refine rn_add (a := i) (b := 2) hx hb dL_law_894 ?_
  refine lw_sld hx hb hX hbl hbA hS (show i + 2 < LL by omega) hLL dL_law_895 ?_
  refine lv_i2l hx hb dL_law_896 rfl ?_
  refine lv_ldc2 (own := RL) (v := 4294967295) hx hb hown (hts _ bw_1087) dL_law_897 ?_
  refine lv_land hx hb dL_law_900 ?_
  refine lv_lor hx hb dL_law_901 ?_
  refine rwV1 (rest := [.int (apV L ((((xs (i + 1)).toInt64) <<< ((nI 32).toInt64 &&& 63)) ||| (((xs (i + 2)).toInt64) &&& 4294967295)))]) S (c_X8_put l E mo st sp th so sv pd mu z L ta sg gt ((((xs (i + 1)).toInt64) <<< ((nI 32).toInt64 &&& 63)) ||| (((xs (i + 2)).toInt64) &&& 4294967295)) (by omega)) cd_X8_put bw_1032 ⟨Nat.le_of_ble_eq_true rfl, Nat.le_of_ble_eq_true rfl⟩ hcs hP (hDa.to rfl) hE hA hS [15, 21] rfl rfl [mo, pd] rfl rfl (ci := 5) rfl (q0 := 0) rfl (Nat.le_of_ble_eq_true rfl) hl.1 dL_law_902 (fun H locs hP _ hS => ?_)
  have hP : va_P E.1 vwCl [(xo, .inr (4, [.ref r, .ref r2, .ref r3, .ref d, .ref y, .ref q2, .int sf])), (r, .inr (2, [.ref rc])), (rc, .inl (E.2.1, 293, .inl f)), (r2, .inr (2, [.ref rc2])), (rc2, .inl (E.2.1, 293, .inl fb)), (r3, .inr (2, [.ref rc3])), (rc3, .inl (E.2.1, 293, .inl ft)), (d, .inr (1, [.ref ch, .ref nu, .int (nI (apL L ((((xs (i + 1)).toInt64) <<< ((nI 32).toInt64 &&& 63)) ||| (((xs (i + 2)).toInt64) &&& 4294967295)))), .int a, .int b, .int le, .int co, .int mi])), (ch, .inl (E.2.2.1, 80, .inl (apW t L ((((xs (i + 1)).toInt64) <<< ((nI 32).toInt64 &&& 63)) ||| (((xs (i + 2)).toInt64) &&& 4294967295))))), (nu, .inl (E.2.1, 4, .inl u)), (y, .inr (0, [.ref q, .int (nI o), .int (nI z)])), (q, .inr (3, [.ref w])), (w, .inl (E.2.1, 1758, .inl h)), (q2, .inr (3, [.ref w2])), (w2, .inl (E.2.1, 586, .inl sl)), (mo, .inr (5, [.ref st, .ref sp, .ref th, .int (nI z), .ref so, .ref sv, .ref pd, .int (nI (mPuL L ((((xs (i + 1)).toInt64) <<< ((nI 32).toInt64 &&& 63)) ||| (((xs (i + 2)).toInt64) &&& 4294967295)))), .int (nI ta), .int sg, .ref mu])), (st, .inl (E.2.1, 293, .inl g)), (sp, .inl (E.2.1, 293, .inl gp)), (th, .inl (E.2.1, 1758, .inl gh)), (so, .inl (E.2.1, 586, .inl gs)), (sv, .inl (E.2.1, 2, .inl gv)), (pd, .inl (E.2.1, 80, .inl (mPuT gt L ((((xs (i + 1)).toInt64) <<< ((nI 32).toInt64 &&& 63)) ||| (((xs (i + 2)).toInt64) &&& 4294967295))))), (mu, .inl (E.2.1, 4, .inl gu))] H := hP
  obtain ⟨e9, e8, hT9⟩ := C_pu hT ((((xs (i + 1)).toInt64) <<< ((nI 32).toInt64 &&& 63)) ||| (((xs (i + 2)).toInt64) &&& 4294967295))
  refine lv_icmp_eq (tgt := 1008) hx hb dL_law_905 (by decide) (fun _ => ?_) (fun c9 => absurd e9 c9)
  exact hk sf f fb ft (apL L ((((xs (i + 1)).toInt64) <<< ((nI 32).toInt64 &&& 63)) ||| (((xs (i + 2)).toInt64) &&& 4294967295))) a b le co mi (apW t L ((((xs (i + 1)).toInt64) <<< ((nI 32).toInt64 &&& 63)) ||| (((xs (i + 2)).toInt64) &&& 4294967295))) u o z h sl (mPuL L ((((xs (i + 1)).toInt64) <<< ((nI 32).toInt64 &&& 63)) ||| (((xs (i + 2)).toInt64) &&& 4294967295))) z ta sg g gp gh gs gv (mPuT gt L ((((xs (i + 1)).toInt64) <<< ((nI 32).toInt64 &&& 63)) ||| (((xs (i + 2)).toInt64) &&& 4294967295))) gu ⟨⟨n, hR, hAg⟩, hH, hSl, hT9, e8.symm, hmi⟩ _ _ hP hS _ hl
set_option maxHeartbeats 4000000 in
set_option maxRecDepth 100000 in
theorem lw_c24 (S : CallFix p m c code 4 s #[Value.ref b9] bw RL) (hE : en E A s s.heap) (hA : ∀ q, s.heap.size ≤ q → A q) (hcs : cells ≤ room_1.cells ∧ slots ≤ room_1.slots) (hX : va_X b9 LL xs s s.heap) (hbl : b9 < s.heap.size) (hbA : ¬ A b9) (hLL : LL ≤ 3072) (hDa : va_Da A [xo, r, rc, r2, rc2, r3, rc3, d, ch, nu, y, q, w, q2, w2, mo, st, sp, th, so, sv, pd, mu]) (hi : i + 6 ≤ LL) (hk : lwK p l e s m below meth c Q E A b9 i cells slots xo r rc r2 rc2 r3 rc3 d ch nu y q w q2 w2 mo st sp th so sv pd mu) (sf : Int32) (f : Nat → Int32) (fb : Nat → Int32) (ft : Nat → Int32) (L : Nat) (a : Int32) (b : Int32) (le : Int32) (co : Int32) (mi : Int32) (t : Nat → Int32) (u : Nat → Int32) (o : Nat) (z : Nat) (h : Nat → Int32) (sl : Nat → Int32) (ln : Nat) (sn : Nat) (ta : Nat) (sg : Int32) (g : Nat → Int32) (gp : Nat → Int32) (gh : Nat → Int32) (gs : Nat → Int32) (gv : Nat → Int32) (gt : Nat → Int32) (gu : Nat → Int32) (h9 : LSt f g o z h sn gh sf sl gs gv L t gt ln mi) (H : Heap) (locs : List Loc) (hP : va_P E.1 vwCl [(xo, .inr (4, [.ref r, .ref r2, .ref r3, .ref d, .ref y, .ref q2, .int sf])), (r, .inr (2, [.ref rc])), (rc, .inl (E.2.1, 293, .inl f)), (r2, .inr (2, [.ref rc2])), (rc2, .inl (E.2.1, 293, .inl fb)), (r3, .inr (2, [.ref rc3])), (rc3, .inl (E.2.1, 293, .inl ft)), (d, .inr (1, [.ref ch, .ref nu, .int (nI L), .int a, .int b, .int le, .int co, .int mi])), (ch, .inl (E.2.2.1, 80, .inl t)), (nu, .inl (E.2.1, 4, .inl u)), (y, .inr (0, [.ref q, .int (nI o), .int (nI z)])), (q, .inr (3, [.ref w])), (w, .inl (E.2.1, 1758, .inl h)), (q2, .inr (3, [.ref w2])), (w2, .inl (E.2.1, 586, .inl sl)), (mo, .inr (5, [.ref st, .ref sp, .ref th, .int (nI sn), .ref so, .ref sv, .ref pd, .int (nI ln), .int (nI ta), .int sg, .ref mu])), (st, .inl (E.2.1, 293, .inl g)), (sp, .inl (E.2.1, 293, .inl gp)), (th, .inl (E.2.1, 1758, .inl gh)), (so, .inl (E.2.1, 586, .inl gs)), (sv, .inl (E.2.1, 2, .inl gv)), (pd, .inl (E.2.1, 80, .inl gt)), (mu, .inl (E.2.1, 4, .inl gu))] H) (hS : va_S A s.heap H locs) (ls : Array Slot) (hl : lv_has ls 4 [(3, .int (nI i)), (2, .ref mo), (1, .ref xo), (0, .ref b9)]) : W p l e room_1 s m #[Value.ref b9] below meth c H locs cells slots Q (F0 m 910 ls []) := by
  have hx := S.1
  have hb := S.2.1
  have hown := S.2.2.2.1
  have hts := S.2.2.2.2
  have hK := hE.1
  obtain ⟨⟨n, hR, hAg⟩, hH, hSl, hT, hln, hmi⟩ := h9
  have hln := hln.symm
  subst hln
  have hsn := hH.2.2.1.symm
  subst hsn
  have hf := R_12 hR
  have hf2 := R_4 hR
  have hn := R_n hR
  have hst := R_st hR
  have ho := hH.1
  have hz := hH.2.1
  have hL := hT.1
  refine lv_aload_n hx hb dL_law_910 rfl (lv_at hl 2 rfl) ?_
  refine rwV0 (rest := []) S (c_X7_wipe l E xo r r2 r3 d y q2 sf ch nu L a b le co mi t u) cd_X7_wipe bw_536 ⟨Nat.le_of_ble_eq_true rfl, Nat.le_of_ble_eq_true rfl⟩ hcs hP (hDa.to rfl) hE hA hS [0, 7, 8, 9] rfl rfl [xo, d, ch, nu] rfl rfl (ci := 4) rfl (q0 := 0) rfl (Nat.le_of_ble_eq_true rfl) hl.1 dL_law_911 (fun H locs hP _ hS => ?_)
  have hP : va_P E.1 vwCl [(xo, .inr (4, [.ref r, .ref r2, .ref r3, .ref d, .ref y, .ref q2, .int sf])), (r, .inr (2, [.ref rc])), (rc, .inl (E.2.1, 293, .inl f)), (r2, .inr (2, [.ref rc2])), (rc2, .inl (E.2.1, 293, .inl fb)), (r3, .inr (2, [.ref rc3])), (rc3, .inl (E.2.1, 293, .inl ft)), (d, .inr (1, [.ref ch, .ref nu, .int (nI 0), .int a, .int b, .int le, .int co, .int mi])), (ch, .inl (E.2.2.1, 80, .inl t)), (nu, .inl (E.2.1, 4, .inl u)), (y, .inr (0, [.ref q, .int (nI o), .int (nI z)])), (q, .inr (3, [.ref w])), (w, .inl (E.2.1, 1758, .inl h)), (q2, .inr (3, [.ref w2])), (w2, .inl (E.2.1, 586, .inl sl)), (mo, .inr (5, [.ref st, .ref sp, .ref th, .int (nI z), .ref so, .ref sv, .ref pd, .int (nI L), .int (nI ta), .int sg, .ref mu])), (st, .inl (E.2.1, 293, .inl g)), (sp, .inl (E.2.1, 293, .inl gp)), (th, .inl (E.2.1, 1758, .inl gh)), (so, .inl (E.2.1, 586, .inl gs)), (sv, .inl (E.2.1, 2, .inl gv)), (pd, .inl (E.2.1, 80, .inl gt)), (mu, .inl (E.2.1, 4, .inl gu))] H := hP
  refine lv_aload_n hx hb dL_law_914 rfl (lv_at hl 1 rfl) ?_
  refine rwV0 (rest := [.int (nI L)]) S (c_X8_wipe l E mo st sp th so sv pd mu z L ta sg) cd_X8_wipe bw_1043 ⟨Nat.le_of_ble_eq_true rfl, Nat.le_of_ble_eq_true rfl⟩ hcs hP (hDa.to rfl) hE hA hS [15] rfl rfl [mo] rfl rfl (ci := 5) rfl (q0 := 0) rfl (Nat.le_of_ble_eq_true rfl) hl.1 dL_law_915 (fun H locs hP _ hS => ?_)
  have hP : va_P E.1 vwCl [(xo, .inr (4, [.ref r, .ref r2, .ref r3, .ref d, .ref y, .ref q2, .int sf])), (r, .inr (2, [.ref rc])), (rc, .inl (E.2.1, 293, .inl f)), (r2, .inr (2, [.ref rc2])), (rc2, .inl (E.2.1, 293, .inl fb)), (r3, .inr (2, [.ref rc3])), (rc3, .inl (E.2.1, 293, .inl ft)), (d, .inr (1, [.ref ch, .ref nu, .int (nI 0), .int a, .int b, .int le, .int co, .int mi])), (ch, .inl (E.2.2.1, 80, .inl t)), (nu, .inl (E.2.1, 4, .inl u)), (y, .inr (0, [.ref q, .int (nI o), .int (nI z)])), (q, .inr (3, [.ref w])), (w, .inl (E.2.1, 1758, .inl h)), (q2, .inr (3, [.ref w2])), (w2, .inl (E.2.1, 586, .inl sl)), (mo, .inr (5, [.ref st, .ref sp, .ref th, .int (nI z), .ref so, .ref sv, .ref pd, .int (nI 0), .int (nI ta), .int sg, .ref mu])), (st, .inl (E.2.1, 293, .inl g)), (sp, .inl (E.2.1, 293, .inl gp)), (th, .inl (E.2.1, 1758, .inl gh)), (so, .inl (E.2.1, 586, .inl gs)), (sv, .inl (E.2.1, 2, .inl gv)), (pd, .inl (E.2.1, 80, .inl gt)), (mu, .inl (E.2.1, 4, .inl gu))] H := hP
  refine lv_icmp_eq (tgt := 1008) hx hb dL_law_918 (by decide) (fun _ => ?_) (fun c9 => absurd rfl c9)
  exact hk sf f fb ft 0 a b le co mi t u o z h sl 0 z ta sg g gp gh gs gv gt gu ⟨⟨n, hR, hAg⟩, hH, hSl, ⟨by decide, fun k hk => absurd hk (Nat.not_lt_zero k)⟩, rfl, hmi⟩ _ _ hP hS _ hl
set_option maxHeartbeats 4000000 in
set_option maxRecDepth 100000 in
theorem lw_c25 (S : CallFix p m c code 4 s #[Value.ref b9] bw RL) (hE : en E A s s.heap) (hA : ∀ q, s.heap.size ≤ q → A q) (hcs : cells ≤ room_1.cells ∧ slots ≤ room_1.slots) (hX : va_X b9 LL xs s s.heap) (hbl : b9 < s.heap.size) (hbA : ¬ A b9) (hLL : LL ≤ 3072) (hDa : va_Da A [xo, r, rc, r2, rc2, r3, rc3, d, ch, nu, y, q, w, q2, w2, mo, st, sp, th, so, sv, pd, mu]) (hi : i + 6 ≤ LL) (hk : lwK p l e s m below meth c Q E A b9 i cells slots xo r rc r2 rc2 r3 rc3 d ch nu y q w q2 w2 mo st sp th so sv pd mu) (sf : Int32) (f : Nat → Int32) (fb : Nat → Int32) (ft : Nat → Int32) (L : Nat) (a : Int32) (b : Int32) (le : Int32) (co : Int32) (mi : Int32) (t : Nat → Int32) (u : Nat → Int32) (o : Nat) (z : Nat) (h : Nat → Int32) (sl : Nat → Int32) (ln : Nat) (sn : Nat) (ta : Nat) (sg : Int32) (g : Nat → Int32) (gp : Nat → Int32) (gh : Nat → Int32) (gs : Nat → Int32) (gv : Nat → Int32) (gt : Nat → Int32) (gu : Nat → Int32) (h9 : LSt f g o z h sn gh sf sl gs gv L t gt ln mi) (H : Heap) (locs : List Loc) (hP : va_P E.1 vwCl [(xo, .inr (4, [.ref r, .ref r2, .ref r3, .ref d, .ref y, .ref q2, .int sf])), (r, .inr (2, [.ref rc])), (rc, .inl (E.2.1, 293, .inl f)), (r2, .inr (2, [.ref rc2])), (rc2, .inl (E.2.1, 293, .inl fb)), (r3, .inr (2, [.ref rc3])), (rc3, .inl (E.2.1, 293, .inl ft)), (d, .inr (1, [.ref ch, .ref nu, .int (nI L), .int a, .int b, .int le, .int co, .int mi])), (ch, .inl (E.2.2.1, 80, .inl t)), (nu, .inl (E.2.1, 4, .inl u)), (y, .inr (0, [.ref q, .int (nI o), .int (nI z)])), (q, .inr (3, [.ref w])), (w, .inl (E.2.1, 1758, .inl h)), (q2, .inr (3, [.ref w2])), (w2, .inl (E.2.1, 586, .inl sl)), (mo, .inr (5, [.ref st, .ref sp, .ref th, .int (nI sn), .ref so, .ref sv, .ref pd, .int (nI ln), .int (nI ta), .int sg, .ref mu])), (st, .inl (E.2.1, 293, .inl g)), (sp, .inl (E.2.1, 293, .inl gp)), (th, .inl (E.2.1, 1758, .inl gh)), (so, .inl (E.2.1, 586, .inl gs)), (sv, .inl (E.2.1, 2, .inl gv)), (pd, .inl (E.2.1, 80, .inl gt)), (mu, .inl (E.2.1, 4, .inl gu))] H) (hS : va_S A s.heap H locs) (ls : Array Slot) (hl : lv_has ls 4 [(3, .int (nI i)), (2, .ref mo), (1, .ref xo), (0, .ref b9)]) : W p l e room_1 s m #[Value.ref b9] below meth c H locs cells slots Q (F0 m 923 ls []) := by
  have hx := S.1
  have hb := S.2.1
  have hown := S.2.2.2.1
  have hts := S.2.2.2.2
  have hK := hE.1
  obtain ⟨⟨n, hR, hAg⟩, hH, hSl, hT, hln, hmi⟩ := h9
  have hln := hln.symm
  subst hln
  have hsn := hH.2.2.1.symm
  subst hsn
  have hf := R_12 hR
  have hf2 := R_4 hR
  have hn := R_n hR
  have hst := R_st hR
  have ho := hH.1
  have hz := hH.2.1
  have hL := hT.1
  refine lv_aload_n hx hb dL_law_923 rfl (lv_at hl 2 rfl) ?_
  refine rwV0 (rest := []) S (c_X7_fault l E xo r r2 r3 d y q2 sf ch nu L a b le co mi t u (by omega)) cd_X7_fault bw_544 ⟨Nat.le_of_ble_eq_true rfl, Nat.le_of_ble_eq_true rfl⟩ hcs hP (hDa.to rfl) hE hA hS [0, 7, 8, 9] rfl rfl [xo, d, ch, nu] rfl rfl (ci := 4) rfl (q0 := 0) rfl (Nat.le_of_ble_eq_true rfl) hl.1 dL_law_924 (fun H locs hP _ hS => ?_)
  have hP : va_P E.1 vwCl [(xo, .inr (4, [.ref r, .ref r2, .ref r3, .ref d, .ref y, .ref q2, .int sf])), (r, .inr (2, [.ref rc])), (rc, .inl (E.2.1, 293, .inl f)), (r2, .inr (2, [.ref rc2])), (rc2, .inl (E.2.1, 293, .inl fb)), (r3, .inr (2, [.ref rc3])), (rc3, .inl (E.2.1, 293, .inl ft)), (d, .inr (1, [.ref ch, .ref nu, .int (nI L), .int ((ftS t L (nI 0, b, le, co, mi, u)).1), .int ((ftS t L (nI 0, b, le, co, mi, u)).2.1), .int ((ftS t L (nI 0, b, le, co, mi, u)).2.2.1), .int ((ftS t L (nI 0, b, le, co, mi, u)).2.2.2.1), .int ((ftS t L (nI 0, b, le, co, mi, u)).2.2.2.2.1)])), (ch, .inl (E.2.2.1, 80, .inl t)), (nu, .inl (E.2.1, 4, .inl ((ftS t L (nI 0, b, le, co, mi, u)).2.2.2.2.2))), (y, .inr (0, [.ref q, .int (nI o), .int (nI z)])), (q, .inr (3, [.ref w])), (w, .inl (E.2.1, 1758, .inl h)), (q2, .inr (3, [.ref w2])), (w2, .inl (E.2.1, 586, .inl sl)), (mo, .inr (5, [.ref st, .ref sp, .ref th, .int (nI z), .ref so, .ref sv, .ref pd, .int (nI L), .int (nI ta), .int sg, .ref mu])), (st, .inl (E.2.1, 293, .inl g)), (sp, .inl (E.2.1, 293, .inl gp)), (th, .inl (E.2.1, 1758, .inl gh)), (so, .inl (E.2.1, 586, .inl gs)), (sv, .inl (E.2.1, 2, .inl gv)), (pd, .inl (E.2.1, 80, .inl gt)), (mu, .inl (E.2.1, 4, .inl gu))] H := hP
  refine lv_aload_n hx hb dL_law_927 rfl (lv_at hl 1 rfl) ?_
  refine rwV0 (rest := [.int (ftV t L (nI 0, b, le, co, mi, u))]) S (c_X8_fault l E mo st sp th so sv pd mu z L ta sg gt gu (by omega)) cd_X8_fault bw_1047 ⟨Nat.le_of_ble_eq_true rfl, Nat.le_of_ble_eq_true rfl⟩ hcs hP (hDa.to rfl) hE hA hS [15, 21, 22] rfl rfl [mo, pd, mu] rfl rfl (ci := 5) rfl (q0 := 0) rfl (Nat.le_of_ble_eq_true rfl) hl.1 dL_law_928 (fun H locs hP _ hS => ?_)
  have hP : va_P E.1 vwCl [(xo, .inr (4, [.ref r, .ref r2, .ref r3, .ref d, .ref y, .ref q2, .int sf])), (r, .inr (2, [.ref rc])), (rc, .inl (E.2.1, 293, .inl f)), (r2, .inr (2, [.ref rc2])), (rc2, .inl (E.2.1, 293, .inl fb)), (r3, .inr (2, [.ref rc3])), (rc3, .inl (E.2.1, 293, .inl ft)), (d, .inr (1, [.ref ch, .ref nu, .int (nI L), .int ((ftS t L (nI 0, b, le, co, mi, u)).1), .int ((ftS t L (nI 0, b, le, co, mi, u)).2.1), .int ((ftS t L (nI 0, b, le, co, mi, u)).2.2.1), .int ((ftS t L (nI 0, b, le, co, mi, u)).2.2.2.1), .int ((ftS t L (nI 0, b, le, co, mi, u)).2.2.2.2.1)])), (ch, .inl (E.2.2.1, 80, .inl t)), (nu, .inl (E.2.1, 4, .inl ((ftS t L (nI 0, b, le, co, mi, u)).2.2.2.2.2))), (y, .inr (0, [.ref q, .int (nI o), .int (nI z)])), (q, .inr (3, [.ref w])), (w, .inl (E.2.1, 1758, .inl h)), (q2, .inr (3, [.ref w2])), (w2, .inl (E.2.1, 586, .inl sl)), (mo, .inr (5, [.ref st, .ref sp, .ref th, .int (nI z), .ref so, .ref sv, .ref pd, .int (nI L), .int (nI ((mFS gt L (0, sg, gu)).1)), .int ((mFS gt L (0, sg, gu)).2.1), .ref mu])), (st, .inl (E.2.1, 293, .inl g)), (sp, .inl (E.2.1, 293, .inl gp)), (th, .inl (E.2.1, 1758, .inl gh)), (so, .inl (E.2.1, 586, .inl gs)), (sv, .inl (E.2.1, 2, .inl gv)), (pd, .inl (E.2.1, 80, .inl gt)), (mu, .inl (E.2.1, 4, .inl ((mFS gt L (0, sg, gu)).2.2)))] H := hP
  have e9 : ftV t L (nI 0, b, le, co, mi, u) = mFV gt L (0, sg, gu) := V_fault hT rfl rfl
  refine lv_icmp_eq (tgt := 1008) hx hb dL_law_931 (by decide) (fun _ => ?_) (fun c9 => absurd e9 c9)
  exact hk sf f fb ft L ((ftS t L (nI 0, b, le, co, mi, u)).1) ((ftS t L (nI 0, b, le, co, mi, u)).2.1) ((ftS t L (nI 0, b, le, co, mi, u)).2.2.1) ((ftS t L (nI 0, b, le, co, mi, u)).2.2.2.1) ((ftS t L (nI 0, b, le, co, mi, u)).2.2.2.2.1) t ((ftS t L (nI 0, b, le, co, mi, u)).2.2.2.2.2) o z h sl L z ((mFS gt L (0, sg, gu)).1) ((mFS gt L (0, sg, gu)).2.1) g gp gh gs gv gt ((mFS gt L (0, sg, gu)).2.2) ⟨⟨n, hR, hAg⟩, hH, hSl, hT, rfl, (ftS_z (σ := (nI 0, b, le, co, mi, u)) hmi)⟩ _ _ hP hS _ hl
set_option maxHeartbeats 4000000 in
set_option maxRecDepth 100000 in
theorem lw_c26 (S : CallFix p m c code 4 s #[Value.ref b9] bw RL) (hE : en E A s s.heap) (hA : ∀ q, s.heap.size ≤ q → A q) (hcs : cells ≤ room_1.cells ∧ slots ≤ room_1.slots) (hX : va_X b9 LL xs s s.heap) (hbl : b9 < s.heap.size) (hbA : ¬ A b9) (hLL : LL ≤ 3072) (hDa : va_Da A [xo, r, rc, r2, rc2, r3, rc3, d, ch, nu, y, q, w, q2, w2, mo, st, sp, th, so, sv, pd, mu]) (hi : i + 6 ≤ LL) (hk : lwK p l e s m below meth c Q E A b9 i cells slots xo r rc r2 rc2 r3 rc3 d ch nu y q w q2 w2 mo st sp th so sv pd mu) (sf : Int32) (f : Nat → Int32) (fb : Nat → Int32) (ft : Nat → Int32) (L : Nat) (a : Int32) (b : Int32) (le : Int32) (co : Int32) (mi : Int32) (t : Nat → Int32) (u : Nat → Int32) (o : Nat) (z : Nat) (h : Nat → Int32) (sl : Nat → Int32) (ln : Nat) (sn : Nat) (ta : Nat) (sg : Int32) (g : Nat → Int32) (gp : Nat → Int32) (gh : Nat → Int32) (gs : Nat → Int32) (gv : Nat → Int32) (gt : Nat → Int32) (gu : Nat → Int32) (h9 : LSt f g o z h sn gh sf sl gs gv L t gt ln mi) (H : Heap) (locs : List Loc) (hP : va_P E.1 vwCl [(xo, .inr (4, [.ref r, .ref r2, .ref r3, .ref d, .ref y, .ref q2, .int sf])), (r, .inr (2, [.ref rc])), (rc, .inl (E.2.1, 293, .inl f)), (r2, .inr (2, [.ref rc2])), (rc2, .inl (E.2.1, 293, .inl fb)), (r3, .inr (2, [.ref rc3])), (rc3, .inl (E.2.1, 293, .inl ft)), (d, .inr (1, [.ref ch, .ref nu, .int (nI L), .int a, .int b, .int le, .int co, .int mi])), (ch, .inl (E.2.2.1, 80, .inl t)), (nu, .inl (E.2.1, 4, .inl u)), (y, .inr (0, [.ref q, .int (nI o), .int (nI z)])), (q, .inr (3, [.ref w])), (w, .inl (E.2.1, 1758, .inl h)), (q2, .inr (3, [.ref w2])), (w2, .inl (E.2.1, 586, .inl sl)), (mo, .inr (5, [.ref st, .ref sp, .ref th, .int (nI sn), .ref so, .ref sv, .ref pd, .int (nI ln), .int (nI ta), .int sg, .ref mu])), (st, .inl (E.2.1, 293, .inl g)), (sp, .inl (E.2.1, 293, .inl gp)), (th, .inl (E.2.1, 1758, .inl gh)), (so, .inl (E.2.1, 586, .inl gs)), (sv, .inl (E.2.1, 2, .inl gv)), (pd, .inl (E.2.1, 80, .inl gt)), (mu, .inl (E.2.1, 4, .inl gu))] H) (hS : va_S A s.heap H locs) (ls : Array Slot) (hl : lv_has ls 4 [(3, .int (nI i)), (2, .ref mo), (1, .ref xo), (0, .ref b9)]) : W p l e room_1 s m #[Value.ref b9] below meth c H locs cells slots Q (F0 m 936 ls []) := by
  have hx := S.1
  have hb := S.2.1
  have hown := S.2.2.2.1
  have hts := S.2.2.2.2
  have hK := hE.1
  obtain ⟨⟨n, hR, hAg⟩, hH, hSl, hT, hln, hmi⟩ := h9
  have hln := hln.symm
  subst hln
  have hsn := hH.2.2.1.symm
  subst hsn
  have hf := R_12 hR
  have hf2 := R_4 hR
  have hn := R_n hR
  have hst := R_st hR
  have ho := hH.1
  have hz := hH.2.1
  have hL := hT.1
  refine lv_aload_n hx hb dL_law_936 rfl (lv_at hl 2 rfl) ?_
  refine rwV0 (rest := []) S (c_X7_carryOut l E xo r r2 r3 d y q2 sf rc f rc2 fb ch nu L a b le co mi t u q w o z h n hf (by omega) (by omega) (by omega) (by omega) hmi) cd_X7_carryOut bw_649 ⟨Nat.le_of_ble_eq_true rfl, Nat.le_of_ble_eq_true rfl⟩ hcs hP (hDa.to rfl) hE hA hS [0, 1, 2, 3, 4, 7, 8, 9, 10, 11, 12] rfl rfl [xo, r, rc, r2, rc2, d, ch, nu, y, q, w] rfl rfl (ci := 4) rfl (q0 := 0) rfl (Nat.le_of_ble_eq_true rfl) hl.1 dL_law_937 (fun H locs hP _ hS => ?_)
  have hP : va_P E.1 vwCl [(xo, .inr (4, [.ref r, .ref r2, .ref r3, .ref d, .ref y, .ref q2, .int sf])), (r, .inr (2, [.ref rc])), (rc, .inl (E.2.1, 293, .inl (crF t L (nI 0, b, le, co, mi, u) f))), (r2, .inr (2, [.ref rc2])), (rc2, .inl (E.2.1, 293, .inl (crB t L (nI 0, b, le, co, mi, u) f fb))), (r3, .inr (2, [.ref rc3])), (rc3, .inl (E.2.1, 293, .inl ft)), (d, .inr (1, [.ref ch, .ref nu, .int (nI (crL t L (nI 0, b, le, co, mi, u))), .int ((crP t L (nI 0, b, le, co, mi, u) f).1), .int ((crP t L (nI 0, b, le, co, mi, u) f).2.1), .int ((crP t L (nI 0, b, le, co, mi, u) f).2.2.1), .int ((crP t L (nI 0, b, le, co, mi, u) f).2.2.2.1), .int ((crP t L (nI 0, b, le, co, mi, u) f).2.2.2.2.1)])), (ch, .inl (E.2.2.1, 80, .inl t)), (nu, .inl (E.2.1, 4, .inl ((crP t L (nI 0, b, le, co, mi, u) f).2.2.2.2.2))), (y, .inr (0, [.ref q, .int (nI (recO (crV t L (nI 0, b, le, co, mi, u) f) o z)), .int (nI (recZ (crV t L (nI 0, b, le, co, mi, u) f) z))])), (q, .inr (3, [.ref w])), (w, .inl (E.2.1, 1758, .inl (recH (crV t L (nI 0, b, le, co, mi, u) f) (cp293 f fb) h o z))), (q2, .inr (3, [.ref w2])), (w2, .inl (E.2.1, 586, .inl sl)), (mo, .inr (5, [.ref st, .ref sp, .ref th, .int (nI z), .ref so, .ref sv, .ref pd, .int (nI L), .int (nI ta), .int sg, .ref mu])), (st, .inl (E.2.1, 293, .inl g)), (sp, .inl (E.2.1, 293, .inl gp)), (th, .inl (E.2.1, 1758, .inl gh)), (so, .inl (E.2.1, 586, .inl gs)), (sv, .inl (E.2.1, 2, .inl gv)), (pd, .inl (E.2.1, 80, .inl gt)), (mu, .inl (E.2.1, 4, .inl gu))] H := hP
  refine lv_aload_n hx hb dL_law_940 rfl (lv_at hl 1 rfl) ?_
  refine rwV0 (rest := [.int (crV t L (nI 0, b, le, co, mi, u) f)]) S (c_X8_carryOut l E mo st sp th so sv pd mu z L ta sg g gp gh gt gu n hf2 (by omega) hst (by omega) (by omega)) cd_X8_carryOut bw_1079 ⟨Nat.le_of_ble_eq_true rfl, Nat.le_of_ble_eq_true rfl⟩ hcs hP (hDa.to rfl) hE hA hS [15, 16, 17, 18, 21, 22] rfl rfl [mo, st, sp, th, pd, mu] rfl rfl (ci := 5) rfl (q0 := 0) rfl (Nat.le_of_ble_eq_true rfl) hl.1 dL_law_941 (fun H locs hP _ hS => ?_)
  have hP : va_P E.1 vwCl [(xo, .inr (4, [.ref r, .ref r2, .ref r3, .ref d, .ref y, .ref q2, .int sf])), (r, .inr (2, [.ref rc])), (rc, .inl (E.2.1, 293, .inl (crF t L (nI 0, b, le, co, mi, u) f))), (r2, .inr (2, [.ref rc2])), (rc2, .inl (E.2.1, 293, .inl (crB t L (nI 0, b, le, co, mi, u) f fb))), (r3, .inr (2, [.ref rc3])), (rc3, .inl (E.2.1, 293, .inl ft)), (d, .inr (1, [.ref ch, .ref nu, .int (nI (crL t L (nI 0, b, le, co, mi, u))), .int ((crP t L (nI 0, b, le, co, mi, u) f).1), .int ((crP t L (nI 0, b, le, co, mi, u) f).2.1), .int ((crP t L (nI 0, b, le, co, mi, u) f).2.2.1), .int ((crP t L (nI 0, b, le, co, mi, u) f).2.2.2.1), .int ((crP t L (nI 0, b, le, co, mi, u) f).2.2.2.2.1)])), (ch, .inl (E.2.2.1, 80, .inl t)), (nu, .inl (E.2.1, 4, .inl ((crP t L (nI 0, b, le, co, mi, u) f).2.2.2.2.2))), (y, .inr (0, [.ref q, .int (nI (recO (crV t L (nI 0, b, le, co, mi, u) f) o z)), .int (nI (recZ (crV t L (nI 0, b, le, co, mi, u) f) z))])), (q, .inr (3, [.ref w])), (w, .inl (E.2.1, 1758, .inl (recH (crV t L (nI 0, b, le, co, mi, u) f) (cp293 f fb) h o z))), (q2, .inr (3, [.ref w2])), (w2, .inl (E.2.1, 586, .inl sl)), (mo, .inr (5, [.ref st, .ref sp, .ref th, .int (nI (crmN gt L sg gu z)), .ref so, .ref sv, .ref pd, .int (nI (crmL gt L sg gu)), .int (nI ((crmS gt L sg gu g).1)), .int ((crmS gt L sg gu g).2.1), .ref mu])), (st, .inl (E.2.1, 293, .inl (crmG gt L sg gu g))), (sp, .inl (E.2.1, 293, .inl (crmP gt L sg gu g gp))), (th, .inl (E.2.1, 1758, .inl (crmH gt L sg gu g gp gh z))), (so, .inl (E.2.1, 586, .inl gs)), (sv, .inl (E.2.1, 2, .inl gv)), (pd, .inl (E.2.1, 80, .inl gt)), (mu, .inl (E.2.1, 4, .inl ((crmS gt L sg gu g).2.2)))] H := hP
  obtain ⟨e9, hO9, e8, hT9, hH9⟩ := C_ro (b := b) (le := le) (co := co) (mi := mi) (u := u) (sg := sg) (gu := gu) fb gp hH hT hR hAg
  refine lv_icmp_eq (tgt := 1008) hx hb dL_law_944 (by decide) (fun _ => ?_) (fun c9 => absurd e9 c9)
  exact hk sf (crF t L (nI 0, b, le, co, mi, u) f) (crB t L (nI 0, b, le, co, mi, u) f fb) ft (crL t L (nI 0, b, le, co, mi, u)) ((crP t L (nI 0, b, le, co, mi, u) f).1) ((crP t L (nI 0, b, le, co, mi, u) f).2.1) ((crP t L (nI 0, b, le, co, mi, u) f).2.2.1) ((crP t L (nI 0, b, le, co, mi, u) f).2.2.2.1) ((crP t L (nI 0, b, le, co, mi, u) f).2.2.2.2.1) t ((crP t L (nI 0, b, le, co, mi, u) f).2.2.2.2.2) (recO (crV t L (nI 0, b, le, co, mi, u) f) o z) (recZ (crV t L (nI 0, b, le, co, mi, u) f) z) (recH (crV t L (nI 0, b, le, co, mi, u) f) (cp293 f fb) h o z) sl (crmL gt L sg gu) (crmN gt L sg gu z) ((crmS gt L sg gu g).1) ((crmS gt L sg gu g).2.1) (crmG gt L sg gu g) (crmP gt L sg gu g gp) (crmH gt L sg gu g gp gh z) gs gv gt ((crmS gt L sg gu g).2.2) ⟨hO9, hH9, hSl, hT9, e8.symm, (foS_bz (σ := (nI 0, b, le, co, mi, u)) hmi)⟩ _ _ hP hS _ hl
set_option maxHeartbeats 4000000 in
set_option maxRecDepth 100000 in
theorem lw_c27 (S : CallFix p m c code 4 s #[Value.ref b9] bw RL) (hE : en E A s s.heap) (hA : ∀ q, s.heap.size ≤ q → A q) (hcs : cells ≤ room_1.cells ∧ slots ≤ room_1.slots) (hX : va_X b9 LL xs s s.heap) (hbl : b9 < s.heap.size) (hbA : ¬ A b9) (hLL : LL ≤ 3072) (hDa : va_Da A [xo, r, rc, r2, rc2, r3, rc3, d, ch, nu, y, q, w, q2, w2, mo, st, sp, th, so, sv, pd, mu]) (hi : i + 6 ≤ LL) (hk : lwK p l e s m below meth c Q E A b9 i cells slots xo r rc r2 rc2 r3 rc3 d ch nu y q w q2 w2 mo st sp th so sv pd mu) (sf : Int32) (f : Nat → Int32) (fb : Nat → Int32) (ft : Nat → Int32) (L : Nat) (a : Int32) (b : Int32) (le : Int32) (co : Int32) (mi : Int32) (t : Nat → Int32) (u : Nat → Int32) (o : Nat) (z : Nat) (h : Nat → Int32) (sl : Nat → Int32) (ln : Nat) (sn : Nat) (ta : Nat) (sg : Int32) (g : Nat → Int32) (gp : Nat → Int32) (gh : Nat → Int32) (gs : Nat → Int32) (gv : Nat → Int32) (gt : Nat → Int32) (gu : Nat → Int32) (h9 : LSt f g o z h sn gh sf sl gs gv L t gt ln mi) (H : Heap) (locs : List Loc) (hP : va_P E.1 vwCl [(xo, .inr (4, [.ref r, .ref r2, .ref r3, .ref d, .ref y, .ref q2, .int sf])), (r, .inr (2, [.ref rc])), (rc, .inl (E.2.1, 293, .inl f)), (r2, .inr (2, [.ref rc2])), (rc2, .inl (E.2.1, 293, .inl fb)), (r3, .inr (2, [.ref rc3])), (rc3, .inl (E.2.1, 293, .inl ft)), (d, .inr (1, [.ref ch, .ref nu, .int (nI L), .int a, .int b, .int le, .int co, .int mi])), (ch, .inl (E.2.2.1, 80, .inl t)), (nu, .inl (E.2.1, 4, .inl u)), (y, .inr (0, [.ref q, .int (nI o), .int (nI z)])), (q, .inr (3, [.ref w])), (w, .inl (E.2.1, 1758, .inl h)), (q2, .inr (3, [.ref w2])), (w2, .inl (E.2.1, 586, .inl sl)), (mo, .inr (5, [.ref st, .ref sp, .ref th, .int (nI sn), .ref so, .ref sv, .ref pd, .int (nI ln), .int (nI ta), .int sg, .ref mu])), (st, .inl (E.2.1, 293, .inl g)), (sp, .inl (E.2.1, 293, .inl gp)), (th, .inl (E.2.1, 1758, .inl gh)), (so, .inl (E.2.1, 586, .inl gs)), (sv, .inl (E.2.1, 2, .inl gv)), (pd, .inl (E.2.1, 80, .inl gt)), (mu, .inl (E.2.1, 4, .inl gu))] H) (hS : va_S A s.heap H locs) (ls : Array Slot) (hl : lv_has ls 4 [(3, .int (nI i)), (2, .ref mo), (1, .ref xo), (0, .ref b9)]) : W p l e room_1 s m #[Value.ref b9] below meth c H locs cells slots Q (F0 m 949 ls []) := by
  have hx := S.1
  have hb := S.2.1
  have hown := S.2.2.2.1
  have hts := S.2.2.2.2
  have hK := hE.1
  obtain ⟨⟨n, hR, hAg⟩, hH, hSl, hT, hln, hmi⟩ := h9
  have hln := hln.symm
  subst hln
  have hsn := hH.2.2.1.symm
  subst hsn
  have hf := R_12 hR
  have hf2 := R_4 hR
  have hn := R_n hR
  have hst := R_st hR
  have ho := hH.1
  have hz := hH.2.1
  have hL := hT.1
  refine lv_aload_n hx hb dL_law_949 rfl (lv_at hl 2 rfl) ?_
  refine rwV0 (rest := []) S (c_X7_undo l E xo r r2 r3 d y q2 sf rc f q w o z h (by omega) (by omega)) cd_X7_undo bw_675 ⟨Nat.le_of_ble_eq_true rfl, Nat.le_of_ble_eq_true rfl⟩ hcs hP (hDa.to rfl) hE hA hS [0, 1, 2, 10, 11, 12] rfl rfl [xo, r, rc, y, q, w] rfl rfl (ci := 4) rfl (q0 := 0) rfl (Nat.le_of_ble_eq_true rfl) hl.1 dL_law_950 (fun H locs hP _ hS => ?_)
  have hP : va_P E.1 vwCl [(xo, .inr (4, [.ref r, .ref r2, .ref r3, .ref d, .ref y, .ref q2, .int sf])), (r, .inr (2, [.ref rc])), (rc, .inl (E.2.1, 293, .inl (unF f h o z))), (r2, .inr (2, [.ref rc2])), (rc2, .inl (E.2.1, 293, .inl fb)), (r3, .inr (2, [.ref rc3])), (rc3, .inl (E.2.1, 293, .inl ft)), (d, .inr (1, [.ref ch, .ref nu, .int (nI L), .int a, .int b, .int le, .int co, .int mi])), (ch, .inl (E.2.2.1, 80, .inl t)), (nu, .inl (E.2.1, 4, .inl u)), (y, .inr (0, [.ref q, .int (nI o), .int (nI (z - 1))])), (q, .inr (3, [.ref w])), (w, .inl (E.2.1, 1758, .inl h)), (q2, .inr (3, [.ref w2])), (w2, .inl (E.2.1, 586, .inl sl)), (mo, .inr (5, [.ref st, .ref sp, .ref th, .int (nI z), .ref so, .ref sv, .ref pd, .int (nI L), .int (nI ta), .int sg, .ref mu])), (st, .inl (E.2.1, 293, .inl g)), (sp, .inl (E.2.1, 293, .inl gp)), (th, .inl (E.2.1, 1758, .inl gh)), (so, .inl (E.2.1, 586, .inl gs)), (sv, .inl (E.2.1, 2, .inl gv)), (pd, .inl (E.2.1, 80, .inl gt)), (mu, .inl (E.2.1, 4, .inl gu))] H := hP
  refine lv_aload_n hx hb dL_law_953 rfl (lv_at hl 1 rfl) ?_
  refine rwV0 (rest := [.int (unV z)]) S (c_X8_undo l E mo st sp th so sv pd mu z L ta sg g gh (by omega)) cd_X8_undo bw_744 ⟨Nat.le_of_ble_eq_true rfl, Nat.le_of_ble_eq_true rfl⟩ hcs hP (hDa.to rfl) hE hA hS [15, 16, 18] rfl rfl [mo, st, th] rfl rfl (ci := 5) rfl (q0 := 0) rfl (Nat.le_of_ble_eq_true rfl) hl.1 dL_law_954 (fun H locs hP _ hS => ?_)
  have hP : va_P E.1 vwCl [(xo, .inr (4, [.ref r, .ref r2, .ref r3, .ref d, .ref y, .ref q2, .int sf])), (r, .inr (2, [.ref rc])), (rc, .inl (E.2.1, 293, .inl (unF f h o z))), (r2, .inr (2, [.ref rc2])), (rc2, .inl (E.2.1, 293, .inl fb)), (r3, .inr (2, [.ref rc3])), (rc3, .inl (E.2.1, 293, .inl ft)), (d, .inr (1, [.ref ch, .ref nu, .int (nI L), .int a, .int b, .int le, .int co, .int mi])), (ch, .inl (E.2.2.1, 80, .inl t)), (nu, .inl (E.2.1, 4, .inl u)), (y, .inr (0, [.ref q, .int (nI o), .int (nI (z - 1))])), (q, .inr (3, [.ref w])), (w, .inl (E.2.1, 1758, .inl h)), (q2, .inr (3, [.ref w2])), (w2, .inl (E.2.1, 586, .inl sl)), (mo, .inr (5, [.ref st, .ref sp, .ref th, .int (nI (z - 1)), .ref so, .ref sv, .ref pd, .int (nI L), .int (nI ta), .int sg, .ref mu])), (st, .inl (E.2.1, 293, .inl (mUnG z g gh))), (sp, .inl (E.2.1, 293, .inl gp)), (th, .inl (E.2.1, 1758, .inl gh)), (so, .inl (E.2.1, 586, .inl gs)), (sv, .inl (E.2.1, 2, .inl gv)), (pd, .inl (E.2.1, 80, .inl gt)), (mu, .inl (E.2.1, 4, .inl gu))] H := hP
  obtain ⟨e9, hO9, hH9⟩ := C_un hH ⟨n, hR, hAg⟩
  refine lv_icmp_eq (tgt := 1008) hx hb dL_law_957 (by decide) (fun _ => ?_) (fun c9 => absurd e9 c9)
  exact hk sf (unF f h o z) fb ft L a b le co mi t u o (z - 1) h sl L (z - 1) ta sg (mUnG z g gh) gp gh gs gv gt gu ⟨hO9, hH9, hSl, hT, rfl, hmi⟩ _ _ hP hS _ hl
set_option maxHeartbeats 4000000 in
set_option maxRecDepth 100000 in
theorem lw_c28 (S : CallFix p m c code 4 s #[Value.ref b9] bw RL) (hE : en E A s s.heap) (hA : ∀ q, s.heap.size ≤ q → A q) (hcs : cells ≤ room_1.cells ∧ slots ≤ room_1.slots) (hX : va_X b9 LL xs s s.heap) (hbl : b9 < s.heap.size) (hbA : ¬ A b9) (hLL : LL ≤ 3072) (hDa : va_Da A [xo, r, rc, r2, rc2, r3, rc3, d, ch, nu, y, q, w, q2, w2, mo, st, sp, th, so, sv, pd, mu]) (hi : i + 6 ≤ LL) (hk : lwK p l e s m below meth c Q E A b9 i cells slots xo r rc r2 rc2 r3 rc3 d ch nu y q w q2 w2 mo st sp th so sv pd mu) (sf : Int32) (f : Nat → Int32) (fb : Nat → Int32) (ft : Nat → Int32) (L : Nat) (a : Int32) (b : Int32) (le : Int32) (co : Int32) (mi : Int32) (t : Nat → Int32) (u : Nat → Int32) (o : Nat) (z : Nat) (h : Nat → Int32) (sl : Nat → Int32) (ln : Nat) (sn : Nat) (ta : Nat) (sg : Int32) (g : Nat → Int32) (gp : Nat → Int32) (gh : Nat → Int32) (gs : Nat → Int32) (gv : Nat → Int32) (gt : Nat → Int32) (gu : Nat → Int32) (h9 : LSt f g o z h sn gh sf sl gs gv L t gt ln mi) (H : Heap) (locs : List Loc) (hP : va_P E.1 vwCl [(xo, .inr (4, [.ref r, .ref r2, .ref r3, .ref d, .ref y, .ref q2, .int sf])), (r, .inr (2, [.ref rc])), (rc, .inl (E.2.1, 293, .inl f)), (r2, .inr (2, [.ref rc2])), (rc2, .inl (E.2.1, 293, .inl fb)), (r3, .inr (2, [.ref rc3])), (rc3, .inl (E.2.1, 293, .inl ft)), (d, .inr (1, [.ref ch, .ref nu, .int (nI L), .int a, .int b, .int le, .int co, .int mi])), (ch, .inl (E.2.2.1, 80, .inl t)), (nu, .inl (E.2.1, 4, .inl u)), (y, .inr (0, [.ref q, .int (nI o), .int (nI z)])), (q, .inr (3, [.ref w])), (w, .inl (E.2.1, 1758, .inl h)), (q2, .inr (3, [.ref w2])), (w2, .inl (E.2.1, 586, .inl sl)), (mo, .inr (5, [.ref st, .ref sp, .ref th, .int (nI sn), .ref so, .ref sv, .ref pd, .int (nI ln), .int (nI ta), .int sg, .ref mu])), (st, .inl (E.2.1, 293, .inl g)), (sp, .inl (E.2.1, 293, .inl gp)), (th, .inl (E.2.1, 1758, .inl gh)), (so, .inl (E.2.1, 586, .inl gs)), (sv, .inl (E.2.1, 2, .inl gv)), (pd, .inl (E.2.1, 80, .inl gt)), (mu, .inl (E.2.1, 4, .inl gu))] H) (hS : va_S A s.heap H locs) (ls : Array Slot) (hl : lv_has ls 4 [(3, .int (nI i)), (2, .ref mo), (1, .ref xo), (0, .ref b9)]) : W p l e room_1 s m #[Value.ref b9] below meth c H locs cells slots Q (F0 m 962 ls []) := by
  have hx := S.1
  have hb := S.2.1
  have hown := S.2.2.2.1
  have hts := S.2.2.2.2
  have hK := hE.1
  obtain ⟨⟨n, hR, hAg⟩, hH, hSl, hT, hln, hmi⟩ := h9
  have hln := hln.symm
  subst hln
  have hsn := hH.2.2.1.symm
  subst hsn
  have hf := R_12 hR
  have hf2 := R_4 hR
  have hn := R_n hR
  have hst := R_st hR
  have ho := hH.1
  have hz := hH.2.1
  have hL := hT.1
  refine lv_aload_n hx hb dL_law_962 rfl (lv_at hl 2 rfl) ?_
  refine lv_aload_n hx hb dL_law_963 rfl (lv_at hl 3 rfl) ?_
  refine lv_iload_n hx hb dL_law_964 rfl (lv_at hl 0 rfl) ?_
  refine lv_iconst (v := nI 1) hx hb dL_law_965 (by decide) ?_
  refine rn_add (a := i) (b := 1) hx hb dL_law_966 ?_
  refine lw_sld hx hb hX hbl hbA hS (show i + 1 < LL by omega) hLL dL_law_967 ?_
  refine rwV1 (rest := []) S (c_X7_save l E xo r r2 r3 d y q2 sf rc f w2 sl n (xs (i + 1)) hf (by omega)) cd_X7_save bw_691 ⟨Nat.le_of_ble_eq_true rfl, Nat.le_of_ble_eq_true rfl⟩ hcs hP (hDa.to rfl) hE hA hS [0, 1, 2, 13, 14] rfl rfl [xo, r, rc, q2, w2] rfl rfl (ci := 4) rfl (q0 := 0) rfl (Nat.le_of_ble_eq_true rfl) hl.1 dL_law_968 (fun H locs hP _ hS => ?_)
  have hP : va_P E.1 vwCl [(xo, .inr (4, [.ref r, .ref r2, .ref r3, .ref d, .ref y, .ref q2, .int (saF f sl sf n (xs (i + 1)))])), (r, .inr (2, [.ref rc])), (rc, .inl (E.2.1, 293, .inl f)), (r2, .inr (2, [.ref rc2])), (rc2, .inl (E.2.1, 293, .inl fb)), (r3, .inr (2, [.ref rc3])), (rc3, .inl (E.2.1, 293, .inl ft)), (d, .inr (1, [.ref ch, .ref nu, .int (nI L), .int a, .int b, .int le, .int co, .int mi])), (ch, .inl (E.2.2.1, 80, .inl t)), (nu, .inl (E.2.1, 4, .inl u)), (y, .inr (0, [.ref q, .int (nI o), .int (nI z)])), (q, .inr (3, [.ref w])), (w, .inl (E.2.1, 1758, .inl h)), (q2, .inr (3, [.ref w2])), (w2, .inl (E.2.1, 586, .inl (saW f sl sf n (xs (i + 1))))), (mo, .inr (5, [.ref st, .ref sp, .ref th, .int (nI z), .ref so, .ref sv, .ref pd, .int (nI L), .int (nI ta), .int sg, .ref mu])), (st, .inl (E.2.1, 293, .inl g)), (sp, .inl (E.2.1, 293, .inl gp)), (th, .inl (E.2.1, 1758, .inl gh)), (so, .inl (E.2.1, 586, .inl gs)), (sv, .inl (E.2.1, 2, .inl gv)), (pd, .inl (E.2.1, 80, .inl gt)), (mu, .inl (E.2.1, 4, .inl gu))] H := hP
  refine lv_aload_n hx hb dL_law_971 rfl (lv_at hl 1 rfl) ?_
  refine lv_aload_n hx hb dL_law_972 rfl (lv_at hl 3 rfl) ?_
  refine lv_iload_n hx hb dL_law_973 rfl (lv_at hl 0 rfl) ?_
  refine lv_iconst (v := nI 1) hx hb dL_law_974 (by decide) ?_
  refine rn_add (a := i) (b := 1) hx hb dL_law_975 ?_
  refine lw_sld hx hb hX hbl hbA hS (show i + 1 < LL by omega) hLL dL_law_976 ?_
  refine rwV1 (rest := [.int (saV f sl sf n (xs (i + 1)))]) S (c_X8_save l E mo st sp th so sv pd mu z L ta sg g gs gv n (xs (i + 1)) hf2 (by omega)) cd_X8_save bw_748 ⟨Nat.le_of_ble_eq_true rfl, Nat.le_of_ble_eq_true rfl⟩ hcs hP (hDa.to rfl) hE hA hS [15, 16, 19, 20] rfl rfl [mo, st, so, sv] rfl rfl (ci := 5) rfl (q0 := 0) rfl (Nat.le_of_ble_eq_true rfl) hl.1 dL_law_977 (fun H locs hP _ hS => ?_)
  have hP : va_P E.1 vwCl [(xo, .inr (4, [.ref r, .ref r2, .ref r3, .ref d, .ref y, .ref q2, .int (saF f sl sf n (xs (i + 1)))])), (r, .inr (2, [.ref rc])), (rc, .inl (E.2.1, 293, .inl f)), (r2, .inr (2, [.ref rc2])), (rc2, .inl (E.2.1, 293, .inl fb)), (r3, .inr (2, [.ref rc3])), (rc3, .inl (E.2.1, 293, .inl ft)), (d, .inr (1, [.ref ch, .ref nu, .int (nI L), .int a, .int b, .int le, .int co, .int mi])), (ch, .inl (E.2.2.1, 80, .inl t)), (nu, .inl (E.2.1, 4, .inl u)), (y, .inr (0, [.ref q, .int (nI o), .int (nI z)])), (q, .inr (3, [.ref w])), (w, .inl (E.2.1, 1758, .inl h)), (q2, .inr (3, [.ref w2])), (w2, .inl (E.2.1, 586, .inl (saW f sl sf n (xs (i + 1))))), (mo, .inr (5, [.ref st, .ref sp, .ref th, .int (nI z), .ref so, .ref sv, .ref pd, .int (nI L), .int (nI ta), .int sg, .ref mu])), (st, .inl (E.2.1, 293, .inl g)), (sp, .inl (E.2.1, 293, .inl gp)), (th, .inl (E.2.1, 1758, .inl gh)), (so, .inl (E.2.1, 586, .inl (mSvS n gs gv g (xs (i + 1))))), (sv, .inl (E.2.1, 2, .inl (mSvF n gs gv g (xs (i + 1))))), (pd, .inl (E.2.1, 80, .inl gt)), (mu, .inl (E.2.1, 4, .inl gu))] H := hP
  obtain ⟨e9, hS9⟩ := C_sv hSl hR hAg (xs (i + 1))
  refine lv_icmp_eq (tgt := 1008) hx hb dL_law_980 (by decide) (fun _ => ?_) (fun c9 => absurd e9 c9)
  exact hk (saF f sl sf n (xs (i + 1))) f fb ft L a b le co mi t u o z h (saW f sl sf n (xs (i + 1))) L z ta sg g gp gh (mSvS n gs gv g (xs (i + 1))) (mSvF n gs gv g (xs (i + 1))) gt gu ⟨⟨n, hR, hAg⟩, hH, hS9, hT, rfl, hmi⟩ _ _ hP hS _ hl
set_option maxHeartbeats 4000000 in
set_option maxRecDepth 100000 in
theorem lw_c29 (S : CallFix p m c code 4 s #[Value.ref b9] bw RL) (hE : en E A s s.heap) (hA : ∀ q, s.heap.size ≤ q → A q) (hcs : cells ≤ room_1.cells ∧ slots ≤ room_1.slots) (hX : va_X b9 LL xs s s.heap) (hbl : b9 < s.heap.size) (hbA : ¬ A b9) (hLL : LL ≤ 3072) (hDa : va_Da A [xo, r, rc, r2, rc2, r3, rc3, d, ch, nu, y, q, w, q2, w2, mo, st, sp, th, so, sv, pd, mu]) (hi : i + 6 ≤ LL) (hk : lwK p l e s m below meth c Q E A b9 i cells slots xo r rc r2 rc2 r3 rc3 d ch nu y q w q2 w2 mo st sp th so sv pd mu) (sf : Int32) (f : Nat → Int32) (fb : Nat → Int32) (ft : Nat → Int32) (L : Nat) (a : Int32) (b : Int32) (le : Int32) (co : Int32) (mi : Int32) (t : Nat → Int32) (u : Nat → Int32) (o : Nat) (z : Nat) (h : Nat → Int32) (sl : Nat → Int32) (ln : Nat) (sn : Nat) (ta : Nat) (sg : Int32) (g : Nat → Int32) (gp : Nat → Int32) (gh : Nat → Int32) (gs : Nat → Int32) (gv : Nat → Int32) (gt : Nat → Int32) (gu : Nat → Int32) (h9 : LSt f g o z h sn gh sf sl gs gv L t gt ln mi) (H : Heap) (locs : List Loc) (hP : va_P E.1 vwCl [(xo, .inr (4, [.ref r, .ref r2, .ref r3, .ref d, .ref y, .ref q2, .int sf])), (r, .inr (2, [.ref rc])), (rc, .inl (E.2.1, 293, .inl f)), (r2, .inr (2, [.ref rc2])), (rc2, .inl (E.2.1, 293, .inl fb)), (r3, .inr (2, [.ref rc3])), (rc3, .inl (E.2.1, 293, .inl ft)), (d, .inr (1, [.ref ch, .ref nu, .int (nI L), .int a, .int b, .int le, .int co, .int mi])), (ch, .inl (E.2.2.1, 80, .inl t)), (nu, .inl (E.2.1, 4, .inl u)), (y, .inr (0, [.ref q, .int (nI o), .int (nI z)])), (q, .inr (3, [.ref w])), (w, .inl (E.2.1, 1758, .inl h)), (q2, .inr (3, [.ref w2])), (w2, .inl (E.2.1, 586, .inl sl)), (mo, .inr (5, [.ref st, .ref sp, .ref th, .int (nI sn), .ref so, .ref sv, .ref pd, .int (nI ln), .int (nI ta), .int sg, .ref mu])), (st, .inl (E.2.1, 293, .inl g)), (sp, .inl (E.2.1, 293, .inl gp)), (th, .inl (E.2.1, 1758, .inl gh)), (so, .inl (E.2.1, 586, .inl gs)), (sv, .inl (E.2.1, 2, .inl gv)), (pd, .inl (E.2.1, 80, .inl gt)), (mu, .inl (E.2.1, 4, .inl gu))] H) (hS : va_S A s.heap H locs) (ls : Array Slot) (hl : lv_has ls 4 [(3, .int (nI i)), (2, .ref mo), (1, .ref xo), (0, .ref b9)]) : W p l e room_1 s m #[Value.ref b9] below meth c H locs cells slots Q (F0 m 985 ls []) := by
  have hx := S.1
  have hb := S.2.1
  have hown := S.2.2.2.1
  have hts := S.2.2.2.2
  have hK := hE.1
  obtain ⟨⟨n, hR, hAg⟩, hH, hSl, hT, hln, hmi⟩ := h9
  have hln := hln.symm
  subst hln
  have hsn := hH.2.2.1.symm
  subst hsn
  have hf := R_12 hR
  have hf2 := R_4 hR
  have hn := R_n hR
  have hst := R_st hR
  have ho := hH.1
  have hz := hH.2.1
  have hL := hT.1
  refine lv_aload_n hx hb dL_law_985 rfl (lv_at hl 2 rfl) ?_
  refine lv_aload_n hx hb dL_law_986 rfl (lv_at hl 3 rfl) ?_
  refine lv_iload_n hx hb dL_law_987 rfl (lv_at hl 0 rfl) ?_
  refine lv_iconst (v := nI 1) hx hb dL_law_988 (by decide) ?_
  refine rn_add (a := i) (b := 1) hx hb dL_law_989 ?_
  refine lw_sld hx hb hX hbl hbA hS (show i + 1 < LL by omega) hLL dL_law_990 ?_
  refine rwV1 (rest := []) S (c_X7_restore l E xo r r2 r3 d y q2 sf rc f rc2 fb q w o z h w2 sl (xs (i + 1)) (by omega) (by omega)) cd_X7_restore bw_699 ⟨Nat.le_of_ble_eq_true rfl, Nat.le_of_ble_eq_true rfl⟩ hcs hP (hDa.to rfl) hE hA hS [0, 1, 2, 3, 4, 10, 11, 12, 13, 14] rfl rfl [xo, r, rc, r2, rc2, y, q, w, q2, w2] rfl rfl (ci := 4) rfl (q0 := 0) rfl (Nat.le_of_ble_eq_true rfl) hl.1 dL_law_991 (fun H locs hP _ hS => ?_)
  have hP : va_P E.1 vwCl [(xo, .inr (4, [.ref r, .ref r2, .ref r3, .ref d, .ref y, .ref q2, .int sf])), (r, .inr (2, [.ref rc])), (rc, .inl (E.2.1, 293, .inl (reF f fb sl sf h o z (xs (i + 1))))), (r2, .inr (2, [.ref rc2])), (rc2, .inl (E.2.1, 293, .inl (reB f fb sl sf h o z (xs (i + 1))))), (r3, .inr (2, [.ref rc3])), (rc3, .inl (E.2.1, 293, .inl ft)), (d, .inr (1, [.ref ch, .ref nu, .int (nI L), .int a, .int b, .int le, .int co, .int mi])), (ch, .inl (E.2.2.1, 80, .inl t)), (nu, .inl (E.2.1, 4, .inl u)), (y, .inr (0, [.ref q, .int (nI (reO f fb sl sf h o z (xs (i + 1)))), .int (nI (reZ f fb sl sf h o z (xs (i + 1))))])), (q, .inr (3, [.ref w])), (w, .inl (E.2.1, 1758, .inl (reH f fb sl sf h o z (xs (i + 1))))), (q2, .inr (3, [.ref w2])), (w2, .inl (E.2.1, 586, .inl sl)), (mo, .inr (5, [.ref st, .ref sp, .ref th, .int (nI z), .ref so, .ref sv, .ref pd, .int (nI L), .int (nI ta), .int sg, .ref mu])), (st, .inl (E.2.1, 293, .inl g)), (sp, .inl (E.2.1, 293, .inl gp)), (th, .inl (E.2.1, 1758, .inl gh)), (so, .inl (E.2.1, 586, .inl gs)), (sv, .inl (E.2.1, 2, .inl gv)), (pd, .inl (E.2.1, 80, .inl gt)), (mu, .inl (E.2.1, 4, .inl gu))] H := hP
  refine lv_aload_n hx hb dL_law_994 rfl (lv_at hl 1 rfl) ?_
  refine lv_aload_n hx hb dL_law_995 rfl (lv_at hl 3 rfl) ?_
  refine lv_iload_n hx hb dL_law_996 rfl (lv_at hl 0 rfl) ?_
  refine lv_iconst (v := nI 1) hx hb dL_law_997 (by decide) ?_
  refine rn_add (a := i) (b := 1) hx hb dL_law_998 ?_
  refine lw_sld hx hb hX hbl hbA hS (show i + 1 < LL by omega) hLL dL_law_999 ?_
  refine rwV1 (rest := [.int (reV f fb sl sf h o z (xs (i + 1)))]) S (c_X8_restore l E mo st sp th so sv pd mu z L ta sg g gp gh gs gv (xs (i + 1)) (by omega)) cd_X8_restore bw_758 ⟨Nat.le_of_ble_eq_true rfl, Nat.le_of_ble_eq_true rfl⟩ hcs hP (hDa.to rfl) hE hA hS [15, 16, 17, 18, 19, 20] rfl rfl [mo, st, sp, th, so, sv] rfl rfl (ci := 5) rfl (q0 := 0) rfl (Nat.le_of_ble_eq_true rfl) hl.1 dL_law_1000 (fun H locs hP _ hS => ?_)
  have hP : va_P E.1 vwCl [(xo, .inr (4, [.ref r, .ref r2, .ref r3, .ref d, .ref y, .ref q2, .int sf])), (r, .inr (2, [.ref rc])), (rc, .inl (E.2.1, 293, .inl (reF f fb sl sf h o z (xs (i + 1))))), (r2, .inr (2, [.ref rc2])), (rc2, .inl (E.2.1, 293, .inl (reB f fb sl sf h o z (xs (i + 1))))), (r3, .inr (2, [.ref rc3])), (rc3, .inl (E.2.1, 293, .inl ft)), (d, .inr (1, [.ref ch, .ref nu, .int (nI L), .int a, .int b, .int le, .int co, .int mi])), (ch, .inl (E.2.2.1, 80, .inl t)), (nu, .inl (E.2.1, 4, .inl u)), (y, .inr (0, [.ref q, .int (nI (reO f fb sl sf h o z (xs (i + 1)))), .int (nI (reZ f fb sl sf h o z (xs (i + 1))))])), (q, .inr (3, [.ref w])), (w, .inl (E.2.1, 1758, .inl (reH f fb sl sf h o z (xs (i + 1))))), (q2, .inr (3, [.ref w2])), (w2, .inl (E.2.1, 586, .inl sl)), (mo, .inr (5, [.ref st, .ref sp, .ref th, .int (nI (mReN z g gp gh gs gv (xs (i + 1)))), .ref so, .ref sv, .ref pd, .int (nI L), .int (nI ta), .int sg, .ref mu])), (st, .inl (E.2.1, 293, .inl (mReG z g gp gh gs gv (xs (i + 1))))), (sp, .inl (E.2.1, 293, .inl (mReP z g gp gh gs gv (xs (i + 1))))), (th, .inl (E.2.1, 1758, .inl (mReH z g gp gh gs gv (xs (i + 1))))), (so, .inl (E.2.1, 586, .inl gs)), (sv, .inl (E.2.1, 2, .inl gv)), (pd, .inl (E.2.1, 80, .inl gt)), (mu, .inl (E.2.1, 4, .inl gu))] H := hP
  obtain ⟨e9, hO9, hH9⟩ := C_re fb gp hH hSl hR hAg (xs (i + 1))
  refine lv_icmp_eq (tgt := 1008) hx hb dL_law_1003 (by decide) (fun _ => ?_) (fun c9 => absurd e9 c9)
  exact hk sf (reF f fb sl sf h o z (xs (i + 1))) (reB f fb sl sf h o z (xs (i + 1))) ft L a b le co mi t u (reO f fb sl sf h o z (xs (i + 1))) (reZ f fb sl sf h o z (xs (i + 1))) (reH f fb sl sf h o z (xs (i + 1))) sl L (mReN z g gp gh gs gv (xs (i + 1))) ta sg (mReG z g gp gh gs gv (xs (i + 1))) (mReP z g gp gh gs gv (xs (i + 1))) (mReH z g gp gh gs gv (xs (i + 1))) gs gv gt gu ⟨hO9, hH9, hSl, hT, rfl, hmi⟩ _ _ hP hS _ hl
end LAW
