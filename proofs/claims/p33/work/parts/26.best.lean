/-! the law's best trim -/
def lSu (vq vd vw vl : Nat → Int32) (c : Nat) : Nat → Int32
  | 0 => nI 0
  | k + 1 => lSu vq vd vw vl c k + (lSz (lOf vq vd vw vl k c))
theorem upd_upd (g : Nat → Int32) (i : Nat) (a b : Int32) : upd (upd g i a) i b = upd g i b := by
  funext k; simp only [upd]; split <;> rfl
theorem upd_self (g : Nat → Int32) (i : Nat) : upd g i (g i) = g := by
  funext k; simp only [upd]; split
  · rename_i h; rw [h]
  · rfl
/-- the trims from -20 on, and the best of the first m -/
def trQ (m : Nat) : Int32 := (-20) + nI m
theorem trQ_s (m : Nat) : trQ m + nI 1 = trQ (m + 1) := by
  unfold trQ; rw [Int32.add_assoc, nI_add]
theorem trQ_t {m : Nat} (h : m ≤ 41) : (trQ m).toInt = (m : Int) - 20 := by
  have e : (nI m).toInt = (m : Int) := nI_toInt (by omega)
  have e2 : ((-20 : Int32)).toInt = -20 := by decide
  unfold trQ
  rw [Int32.toInt_add, e, e2, Int.bmod_eq_of_le (by omega) (by omega)]; omega
theorem trQ_gt {m : Nat} (h : m ≤ 41) (c : nI 20 < trQ m) : 40 < m := by
  rw [Int32.lt_iff_toInt_lt, trQ_t h, show (nI 20).toInt = 20 by decide] at c; omega
theorem trQ_le {m : Nat} (h : m ≤ 41) (c : ¬ nI 20 < trQ m) : m < 41 := by
  rw [Int32.lt_iff_toInt_lt, trQ_t h, show (nI 20).toInt = 20 by decide] at c; omega
def lBn (be t : Int32) : Int32 := if lSz t < lSz be then nI 1 else if t = -be then nI 1 else nI 0
def lB1 (be le t su : Int32) : Int32 := if le < 0 then t else if su < le then t else if su = le then if lBn be t = 0 then be else t else be
def lB2 (le su : Int32) : Int32 := if le < 0 then su else if le ≤ su then le else su
def lBq (vq vd vw vl : Nat → Int32) (n c : Nat) : Nat → Int32 × Int32
  | 0 => (nI 0, (-1))
  | m + 1 => (lB1 (lBq vq vd vw vl n c m).1 (lBq vq vd vw vl n c m).2 (trQ m) (lSu (upd vq (10 + c) (trQ m)) vd vw vl c n), lB2 (lBq vq vd vw vl n c m).2 (lSu (upd vq (10 + c) (trQ m)) vd vw vl c n))
def beOK (f : Nat → Int32) (n : Nat) (vq : Nat → Int32) (vd : Nat → Int32) (vw : Nat → Int32) (vl : Nat → Int32) (co : Nat) : Prop :=
  (fBe f n (nI co) (nI 0) = (lBq vq vd vw vl n co 41).1 + (nI 20)) ∧
  (fBe f n (nI co) (nI 1) = (lBq vq vd vw vl n co 41).2)
theorem cd_L_isBest : cdS yL_isBest cL_isBest 12 (some .boolean) 6 := ⟨⟨bw_466, bw_1, by decide, by decide, by decide +kernel⟩, bw_465⟩
set_option maxHeartbeats 4000000 in
set_option maxRecDepth 100000 in
theorem c_L_isBest (l : Launch) (E : EV) (xo : Nat) (r : Nat) (r2 : Nat) (r3 : Nat) (d : Nat) (y : Nat) (q2 : Nat) (sf : Int32) (rc : Nat) (f : Nat → Int32) (co : Nat) (aq : Nat) (ad : Nat) (aw : Nat) (al : Nat) (vq : Nat → Int32) (vd : Nat → Int32) (vw : Nat → Int32) (vl : Nat → Int32) (n : Nat) (hf : f 12 = nI n) (hq : vq 4 = nI n) (hn : n ≤ 20) (hco : co < 3) (hok : beOK f n vq vd vw vl co) : rcI l E yL_isBest cL_isBest 12 .boolean 7 [.ref xo, .int (nI co), .ref aq, .ref ad, .ref aw, .ref al] [(xo, .inr (4, [.ref r, .ref r2, .ref r3, .ref d, .ref y, .ref q2, .int sf])), (r, .inr (2, [.ref rc])), (rc, .inl (E.2.1, 293, .inl f)), (aq, .inl (E.2.1, 13, .inl vq)), (ad, .inl (E.2.1, 63, .inl vd)), (aw, .inl (E.2.1, 63, .inl vw)), (al, .inl (E.2.1, 63, .inl vl))] (nI 1) [(xo, .inr (4, [.ref r, .ref r2, .ref r3, .ref d, .ref y, .ref q2, .int sf])), (r, .inr (2, [.ref rc])), (rc, .inl (E.2.1, 293, .inl f)), (aq, .inl (E.2.1, 13, .inl vq)), (ad, .inl (E.2.1, 63, .inl vd)), (aw, .inl (E.2.1, 63, .inl vw)), (al, .inl (E.2.1, 63, .inl vl))] := by
  refine rcI_of (by decide) (Nat.le_of_ble_eq_true rfl) ?_
  intro pg e s m below meth c Q A ls S hP hD0 hE hA hl hret
  have hx := S.1
  have hb := S.2.1
  have hown := S.2.2.2.1
  have hts := S.2.2.2.2
  have hK := hE.1
  have hS : va_S A s.heap s.heap [] := va_S.rf
  have hDa : va_Da A [xo, r, rc, aq, ad, aw, al] := ⟨_, hD0, rfl⟩
  have hl : lv_has ls 12 [(0, .ref xo), (1, .int (nI co)), (2, .ref aq), (3, .ref ad), (4, .ref aw), (5, .ref al)] := hl
  obtain ⟨e_1, e_2⟩ := hok
  refine lv_aload_n hx hb dL_isBest_0 rfl (lv_at hl 2 rfl) ?_
  refine lv_bipush (v := nI 10) hx hb dL_isBest_1 (by decide) ?_
  refine lv_iload_n hx hb dL_isBest_3 rfl (lv_at hl 1 rfl) ?_
  refine rn_add (a := 10) (b := co) hx hb dL_isBest_4 ?_
  refine rn_iald (i := 10 + co) hx hb hK hP 3 0 rfl rfl (by omega) (by omega) dL_isBest_5 ?_
  refine lv_istore (lv' := [(6, .int (vq (10 + co))), (0, .ref xo), (1, .int (nI co)), (2, .ref aq), (3, .ref ad), (4, .ref aw), (5, .ref al)]) hx hb dL_isBest_6 hl (by decide) rfl (fun ls hl => ?_)
  refine lv_iconst (v := nI 0) hx hb dL_isBest_8 (by decide) ?_
  refine lv_istore (lv' := [(7, .int (nI 0)), (6, .int (vq (10 + co))), (0, .ref xo), (1, .int (nI co)), (2, .ref aq), (3, .ref ad), (4, .ref aw), (5, .ref al)]) hx hb dL_isBest_9 hl (by decide) rfl (fun ls hl => ?_)
  refine lv_iconst (v := (-1)) hx hb dL_isBest_11 (by decide) ?_
  refine lv_istore (lv' := [(8, .int (-1)), (7, .int (nI 0)), (6, .int (vq (10 + co))), (0, .ref xo), (1, .int (nI co)), (2, .ref aq), (3, .ref ad), (4, .ref aw), (5, .ref al)]) hx hb dL_isBest_12 hl (by decide) rfl (fun ls hl => ?_)
  refine lv_bipush (v := (-20)) hx hb dL_isBest_14 (by decide) ?_
  refine lv_istore (lv' := [(9, .int (-20)), (8, .int (-1)), (7, .int (nI 0)), (6, .int (vq (10 + co))), (0, .ref xo), (1, .int (nI co)), (2, .ref aq), (3, .ref ad), (4, .ref aw), (5, .ref al)]) hx hb dL_isBest_16 hl (by decide) rfl (fun ls hl => ?_)
  have loop18 : ∀ (fuel : Nat) (m9 : Nat) (g : Nat → Int32), 42 - m9 < fuel → (m9 ≤ 41) → (∀ z, upd g (10 + co) z = upd vq (10 + co) z) → ∀ (H : Heap) (locs : List Loc), va_P E.1 vwCl [(xo, .inr (4, [.ref r, .ref r2, .ref r3, .ref d, .ref y, .ref q2, .int sf])), (r, .inr (2, [.ref rc])), (rc, .inl (E.2.1, 293, .inl f)), (aq, .inl (E.2.1, 13, .inl g)), (ad, .inl (E.2.1, 63, .inl vd)), (aw, .inl (E.2.1, 63, .inl vw)), (al, .inl (E.2.1, 63, .inl vl))] H → va_S A s.heap H locs → ∀ ls : Array Slot, lv_has ls 12 [(9, .int (trQ m9)), (8, .int ((lBq vq vd vw vl n co m9).2)), (7, .int ((lBq vq vd vw vl n co m9).1)), (6, .int (vq (10 + co))), (0, .ref xo), (1, .int (nI co)), (2, .ref aq), (3, .ref ad), (4, .ref aw), (5, .ref al)] → W pg l e (rq 7) s m ([.ref xo, .int (nI co), .ref aq, .ref ad, .ref aw, .ref al] : List Value).toArray below meth c H locs 0 0 Q (F0 m 18 ls []) := by
    intro fuel
    induction fuel with
    | zero => intro m9 g h9; exact absurd h9 (Nat.not_lt_zero _)
    | succ fuel ih18 =>
      intro m9 g hfu18 hm hg H locs hP hS ls hl
      refine lv_iload hx hb dL_isBest_18 (lv_at hl 0 rfl) ?_
      refine lv_bipush (v := nI 20) hx hb dL_isBest_20 (by decide) ?_
      refine lv_icmp_gt (tgt := 161) hx hb dL_isBest_22 (by decide) (fun c_1 => ?_) (fun c_1 => ?_)
      · have hm9 := trQ_gt hm c_1
        have hex : 41 = m9 := by omega
        subst hex
        refine lv_aload_n hx hb dL_isBest_161 rfl (lv_at hl 6 rfl) ?_
        refine lv_bipush (v := nI 10) hx hb dL_isBest_162 (by decide) ?_
        refine lv_iload_n hx hb dL_isBest_164 rfl (lv_at hl 5 rfl) ?_
        refine rn_add (a := 10) (b := co) hx hb dL_isBest_165 ?_
        refine lv_iload hx hb dL_isBest_166 (lv_at hl 3 rfl) ?_
        refine rn_iast (i := 10 + co) hx hb hK hP (hDa.to rfl) hS 3 0 rfl rfl (by omega) (by omega) dL_isBest_168 (fun H locs hP _ hS => ?_)
        have hP : va_P E.1 vwCl [(xo, .inr (4, [.ref r, .ref r2, .ref r3, .ref d, .ref y, .ref q2, .int sf])), (r, .inr (2, [.ref rc])), (rc, .inl (E.2.1, 293, .inl f)), (aq, .inl (E.2.1, 13, .inl (upd g (10 + co) (vq (10 + co))))), (ad, .inl (E.2.1, 63, .inl vd)), (aw, .inl (E.2.1, 63, .inl vw)), (al, .inl (E.2.1, 63, .inl vl))] H := hP
        have hP : va_P E.1 vwCl [(xo, .inr (4, [.ref r, .ref r2, .ref r3, .ref d, .ref y, .ref q2, .int sf])), (r, .inr (2, [.ref rc])), (rc, .inl (E.2.1, 293, .inl f)), (aq, .inl (E.2.1, 13, .inl vq)), (ad, .inl (E.2.1, 63, .inl vd)), (aw, .inl (E.2.1, 63, .inl vw)), (al, .inl (E.2.1, 63, .inl vl))] H := by rw [show upd g (10 + co) (vq (10 + co)) = vq from ((hg _).trans (upd_self vq (10 + co)))] at hP; exact hP
        refine lv_aload_n hx hb dL_isBest_169 rfl (lv_at hl 4 rfl) ?_
        refine lv_iload_n hx hb dL_isBest_170 rfl (lv_at hl 5 rfl) ?_
        refine lv_iconst (v := nI 0) hx hb dL_isBest_171 (by decide) ?_
        refine rwV2 (rest := []) S (c_X7_bestTrim l E xo r r2 r3 d y q2 sf rc f n (nI co) (nI 0) hf hn) cd_X7_bestTrim bw_467 ⟨Nat.le_of_ble_eq_true rfl, Nat.le_of_ble_eq_true rfl⟩ ⟨Nat.zero_le _, Nat.zero_le _⟩ hP (hDa.to rfl) hE hA hS [0, 1, 2] rfl rfl [xo, r, rc] rfl rfl (ci := 4) rfl (q0 := 0) rfl (Nat.le_of_ble_eq_true rfl) hl.1 dL_isBest_172 (fun H locs hP _ hS => ?_)
        have hP : va_P E.1 vwCl [(xo, .inr (4, [.ref r, .ref r2, .ref r3, .ref d, .ref y, .ref q2, .int sf])), (r, .inr (2, [.ref rc])), (rc, .inl (E.2.1, 293, .inl f)), (aq, .inl (E.2.1, 13, .inl vq)), (ad, .inl (E.2.1, 63, .inl vd)), (aw, .inl (E.2.1, 63, .inl vw)), (al, .inl (E.2.1, 63, .inl vl))] H := hP
        refine lv_iload hx hb dL_isBest_175 (lv_at hl 2 rfl) ?_
        refine lv_bipush (v := nI 20) hx hb dL_isBest_177 (by decide) ?_
        refine lv_iadd hx hb dL_isBest_179 ?_
        refine lv_icmp_ne (tgt := 198) hx hb dL_isBest_180 (by decide) (fun c9 => absurd e_1 c9) (fun _ => ?_)
        refine lv_aload_n hx hb dL_isBest_183 rfl (lv_at hl 4 rfl) ?_
        refine lv_iload_n hx hb dL_isBest_184 rfl (lv_at hl 5 rfl) ?_
        refine lv_iconst (v := nI 1) hx hb dL_isBest_185 (by decide) ?_
        refine rwV2 (rest := []) S (c_X7_bestTrim l E xo r r2 r3 d y q2 sf rc f n (nI co) (nI 1) hf hn) cd_X7_bestTrim bw_467 ⟨Nat.le_of_ble_eq_true rfl, Nat.le_of_ble_eq_true rfl⟩ ⟨Nat.zero_le _, Nat.zero_le _⟩ hP (hDa.to rfl) hE hA hS [0, 1, 2] rfl rfl [xo, r, rc] rfl rfl (ci := 4) rfl (q0 := 0) rfl (Nat.le_of_ble_eq_true rfl) hl.1 dL_isBest_186 (fun H locs hP _ hS => ?_)
        have hP : va_P E.1 vwCl [(xo, .inr (4, [.ref r, .ref r2, .ref r3, .ref d, .ref y, .ref q2, .int sf])), (r, .inr (2, [.ref rc])), (rc, .inl (E.2.1, 293, .inl f)), (aq, .inl (E.2.1, 13, .inl vq)), (ad, .inl (E.2.1, 63, .inl vd)), (aw, .inl (E.2.1, 63, .inl vw)), (al, .inl (E.2.1, 63, .inl vl))] H := hP
        refine lv_iload hx hb dL_isBest_189 (lv_at hl 1 rfl) ?_
        refine lv_icmp_ne (tgt := 198) hx hb dL_isBest_191 (by decide) (fun c9 => absurd e_2 c9) (fun _ => ?_)
        refine lv_iconst (v := nI 1) hx hb dL_isBest_194 (by decide) ?_
        refine lv_goto (tgt := 199) hx hb dL_isBest_195 (by decide) ?_
        exact hret _ _ _ _ _ _ rfl rfl (by decide) hP hS dL_isBest_199
      · have hm8 := trQ_le hm c_1
        refine lv_aload_n hx hb dL_isBest_25 rfl (lv_at hl 6 rfl) ?_
        refine lv_bipush (v := nI 10) hx hb dL_isBest_26 (by decide) ?_
        refine lv_iload_n hx hb dL_isBest_28 rfl (lv_at hl 5 rfl) ?_
        refine rn_add (a := 10) (b := co) hx hb dL_isBest_29 ?_
        refine lv_iload hx hb dL_isBest_30 (lv_at hl 0 rfl) ?_
        refine rn_iast (i := 10 + co) hx hb hK hP (hDa.to rfl) hS 3 0 rfl rfl (by omega) (by omega) dL_isBest_32 (fun H locs hP _ hS => ?_)
        have hP : va_P E.1 vwCl [(xo, .inr (4, [.ref r, .ref r2, .ref r3, .ref d, .ref y, .ref q2, .int sf])), (r, .inr (2, [.ref rc])), (rc, .inl (E.2.1, 293, .inl f)), (aq, .inl (E.2.1, 13, .inl (upd g (10 + co) (trQ m9)))), (ad, .inl (E.2.1, 63, .inl vd)), (aw, .inl (E.2.1, 63, .inl vw)), (al, .inl (E.2.1, 63, .inl vl))] H := hP
        have hP : va_P E.1 vwCl [(xo, .inr (4, [.ref r, .ref r2, .ref r3, .ref d, .ref y, .ref q2, .int sf])), (r, .inr (2, [.ref rc])), (rc, .inl (E.2.1, 293, .inl f)), (aq, .inl (E.2.1, 13, .inl (upd vq (10 + co) (trQ m9)))), (ad, .inl (E.2.1, 63, .inl vd)), (aw, .inl (E.2.1, 63, .inl vw)), (al, .inl (E.2.1, 63, .inl vl))] H := by rw [show upd g (10 + co) (trQ m9) = upd vq (10 + co) (trQ m9) from (hg _)] at hP; exact hP
        refine lv_iconst (v := nI 0) hx hb dL_isBest_33 (by decide) ?_
        refine lv_istore (lv' := [(10, .int (nI 0)), (9, .int (trQ m9)), (8, .int ((lBq vq vd vw vl n co m9).2)), (7, .int ((lBq vq vd vw vl n co m9).1)), (6, .int (vq (10 + co))), (0, .ref xo), (1, .int (nI co)), (2, .ref aq), (3, .ref ad), (4, .ref aw), (5, .ref al)]) hx hb dL_isBest_34 hl (by decide) rfl (fun ls hl => ?_)
        refine lv_iconst (v := nI 0) hx hb dL_isBest_36 (by decide) ?_
        refine lv_istore (lv' := [(11, .int (nI 0)), (10, .int (nI 0)), (9, .int (trQ m9)), (8, .int ((lBq vq vd vw vl n co m9).2)), (7, .int ((lBq vq vd vw vl n co m9).1)), (6, .int (vq (10 + co))), (0, .ref xo), (1, .int (nI co)), (2, .ref aq), (3, .ref ad), (4, .ref aw), (5, .ref al)]) hx hb dL_isBest_37 hl (by decide) rfl (fun ls hl => ?_)
        have loop39 : ∀ (fuel : Nat) (k : Nat), n - k < fuel → (k ≤ n) → ∀ (H : Heap) (locs : List Loc), va_P E.1 vwCl [(xo, .inr (4, [.ref r, .ref r2, .ref r3, .ref d, .ref y, .ref q2, .int sf])), (r, .inr (2, [.ref rc])), (rc, .inl (E.2.1, 293, .inl f)), (aq, .inl (E.2.1, 13, .inl (upd vq (10 + co) (trQ m9)))), (ad, .inl (E.2.1, 63, .inl vd)), (aw, .inl (E.2.1, 63, .inl vw)), (al, .inl (E.2.1, 63, .inl vl))] H → va_S A s.heap H locs → ∀ ls : Array Slot, lv_has ls 12 [(11, .int (nI k)), (10, .int (lSu (upd vq (10 + co) (trQ m9)) vd vw vl co k)), (9, .int (trQ m9)), (8, .int ((lBq vq vd vw vl n co m9).2)), (7, .int ((lBq vq vd vw vl n co m9).1)), (6, .int (vq (10 + co))), (0, .ref xo), (1, .int (nI co)), (2, .ref aq), (3, .ref ad), (4, .ref aw), (5, .ref al)] → W pg l e (rq 7) s m ([.ref xo, .int (nI co), .ref aq, .ref ad, .ref aw, .ref al] : List Value).toArray below meth c H locs 0 0 Q (F0 m 39 ls []) := by
          intro fuel
          induction fuel with
          | zero => intro k h9; exact absurd h9 (Nat.not_lt_zero _)
          | succ fuel ih39 =>
            intro k hfu39 hk H locs hP hS ls hl
            refine lv_iload hx hb dL_isBest_39 (lv_at hl 0 rfl) ?_
            refine lv_aload_n hx hb dL_isBest_41 rfl (lv_at hl 8 rfl) ?_
            refine lv_iconst (v := nI 4) hx hb dL_isBest_42 (by decide) ?_
            refine rn_iald (i := 4) hx hb hK hP 3 0 rfl rfl (by omega) (by omega) dL_isBest_43 ?_
            refine W.eq (congrArg (fun z9 => F0 m 44 ls (.int z9 :: [.int (nI k)])) (show (upd vq (10 + co) (trQ m9)) 4 = nI n from ((pk_un (by omega)).trans hq))) ?_
            refine rn_icmp_ge (a := k) (b := n) (tgt := 73) hx hb (by omega) (by omega) dL_isBest_44 (by decide) (fun c_4 => ?_) (fun c_4 => ?_)
            · have hex : n = k := by omega
              subst hex
              refine lv_iload hx hb dL_isBest_73 (lv_at hl 2 rfl) ?_
              refine rwS1 (rest := []) S (c_L_size l E (trQ m9)) cd_L_size bw_392 ⟨Nat.le_of_ble_eq_true rfl, Nat.le_of_ble_eq_true rfl⟩ ⟨Nat.zero_le _, Nat.zero_le _⟩ hP (hDa.to rfl) hE hA hS [] rfl rfl [] rfl rfl (Nat.le_of_ble_eq_true rfl) hl.1 dL_isBest_75 (fun H locs hP _ hS => ?_)
              have hP : va_P E.1 vwCl [(xo, .inr (4, [.ref r, .ref r2, .ref r3, .ref d, .ref y, .ref q2, .int sf])), (r, .inr (2, [.ref rc])), (rc, .inl (E.2.1, 293, .inl f)), (aq, .inl (E.2.1, 13, .inl (upd vq (10 + co) (trQ m9)))), (ad, .inl (E.2.1, 63, .inl vd)), (aw, .inl (E.2.1, 63, .inl vw)), (al, .inl (E.2.1, 63, .inl vl))] H := hP
              refine lv_iload hx hb dL_isBest_78 (lv_at hl 4 rfl) ?_
              refine rwS1 (rest := [.int (lSz (trQ m9))]) S (c_L_size l E ((lBq vq vd vw vl n co m9).1)) cd_L_size bw_392 ⟨Nat.le_of_ble_eq_true rfl, Nat.le_of_ble_eq_true rfl⟩ ⟨Nat.zero_le _, Nat.zero_le _⟩ hP (hDa.to rfl) hE hA hS [] rfl rfl [] rfl rfl (Nat.le_of_ble_eq_true rfl) hl.1 dL_isBest_80 (fun H locs hP _ hS => ?_)
              have hP : va_P E.1 vwCl [(xo, .inr (4, [.ref r, .ref r2, .ref r3, .ref d, .ref y, .ref q2, .int sf])), (r, .inr (2, [.ref rc])), (rc, .inl (E.2.1, 293, .inl f)), (aq, .inl (E.2.1, 13, .inl (upd vq (10 + co) (trQ m9)))), (ad, .inl (E.2.1, 63, .inl vd)), (aw, .inl (E.2.1, 63, .inl vw)), (al, .inl (E.2.1, 63, .inl vl))] H := hP
              refine (fun (hj : ∀ (H : Heap) (locs : List Loc), va_P E.1 vwCl [(xo, .inr (4, [.ref r, .ref r2, .ref r3, .ref d, .ref y, .ref q2, .int sf])), (r, .inr (2, [.ref rc])), (rc, .inl (E.2.1, 293, .inl f)), (aq, .inl (E.2.1, 13, .inl (upd vq (10 + co) (trQ m9)))), (ad, .inl (E.2.1, 63, .inl vd)), (aw, .inl (E.2.1, 63, .inl vw)), (al, .inl (E.2.1, 63, .inl vl))] H → va_S A s.heap H locs → W pg l e (rq 7) s m ([.ref xo, .int (nI co), .ref aq, .ref ad, .ref aw, .ref al] : List Value).toArray below meth c H locs 0 0 Q (F0 m 99 ls [.int (if lSz (trQ m9) < lSz ((lBq vq vd vw vl n co m9).1) then nI 1 else if trQ m9 = -((lBq vq vd vw vl n co m9).1) then nI 1 else nI 0)])) => ?_) ?_
              · refine lv_icmp_lt (tgt := 94) hx hb dL_isBest_83 (by decide) (fun c_5 => ?_) (fun c_5 => ?_)
                · refine lv_iconst (v := nI 1) hx hb dL_isBest_94 (by decide) ?_
                  refine lv_goto (tgt := 99) hx hb dL_isBest_95 (by decide) ?_
                  have hj9 := hj _ _ hP hS
                  rw [if_pos c_5] at hj9
                  exact hj9
                · refine lv_iload hx hb dL_isBest_86 (lv_at hl 2 rfl) ?_
                  refine lv_iload hx hb dL_isBest_88 (lv_at hl 4 rfl) ?_
                  refine lv_ineg hx hb dL_isBest_90 ?_
                  refine lv_icmp_ne (tgt := 98) hx hb dL_isBest_91 (by decide) (fun c_6 => ?_) (fun c_6 => ?_)
                  · refine lv_iconst (v := nI 0) hx hb dL_isBest_98 (by decide) ?_
                    have hj9 := hj _ _ hP hS
                    rw [if_neg c_5, if_neg c_6] at hj9
                    exact hj9
                  · refine lv_iconst (v := nI 1) hx hb dL_isBest_94 (by decide) ?_
                    refine lv_goto (tgt := 99) hx hb dL_isBest_95 (by decide) ?_
                    have hj9 := hj _ _ hP hS
                    rw [if_neg c_5, if_pos c_6] at hj9
                    exact hj9
              intro H locs hP hS
              refine W.eq (congrArg (fun z9 => F0 m 99 ls (.int z9 :: [])) (show (if lSz (trQ m9) < lSz ((lBq vq vd vw vl n co m9).1) then nI 1 else if trQ m9 = -((lBq vq vd vw vl n co m9).1) then nI 1 else nI 0) = lBn (lBq vq vd vw vl n co m9).1 (trQ m9) from (by first | rfl | (unfold lB1; rfl)))) ?_
              refine lv_istore (lv' := [(11, .int (lBn (lBq vq vd vw vl n co m9).1 (trQ m9))), (10, .int (lSu (upd vq (10 + co) (trQ m9)) vd vw vl co n)), (9, .int (trQ m9)), (8, .int ((lBq vq vd vw vl n co m9).2)), (7, .int ((lBq vq vd vw vl n co m9).1)), (6, .int (vq (10 + co))), (0, .ref xo), (1, .int (nI co)), (2, .ref aq), (3, .ref ad), (4, .ref aw), (5, .ref al)]) hx hb dL_isBest_99 hl (by decide) rfl (fun ls hl => ?_)
              refine lv_iload hx hb dL_isBest_101 (lv_at hl 3 rfl) ?_
              refine (fun (hj : ∀ (H : Heap) (locs : List Loc), va_P E.1 vwCl [(xo, .inr (4, [.ref r, .ref r2, .ref r3, .ref d, .ref y, .ref q2, .int sf])), (r, .inr (2, [.ref rc])), (rc, .inl (E.2.1, 293, .inl f)), (aq, .inl (E.2.1, 13, .inl (upd vq (10 + co) (trQ m9)))), (ad, .inl (E.2.1, 63, .inl vd)), (aw, .inl (E.2.1, 63, .inl vw)), (al, .inl (E.2.1, 63, .inl vl))] H → va_S A s.heap H locs → W pg l e (rq 7) s m ([.ref xo, .int (nI co), .ref aq, .ref ad, .ref aw, .ref al] : List Value).toArray below meth c H locs 0 0 Q (F0 m 132 ls [.int (if (lBq vq vd vw vl n co m9).2 < 0 then trQ m9 else if lSu (upd vq (10 + co) (trQ m9)) vd vw vl co n < (lBq vq vd vw vl n co m9).2 then trQ m9 else if lSu (upd vq (10 + co) (trQ m9)) vd vw vl co n = (lBq vq vd vw vl n co m9).2 then if lBn (lBq vq vd vw vl n co m9).1 (trQ m9) = 0 then (lBq vq vd vw vl n co m9).1 else trQ m9 else (lBq vq vd vw vl n co m9).1)])) => ?_) ?_
              · refine lv_if_lt (tgt := 125) hx hb dL_isBest_103 (by decide) (fun c_7 => ?_) (fun c_7 => ?_)
                · refine lv_iload hx hb dL_isBest_125 (lv_at hl 2 rfl) ?_
                  refine lv_goto (tgt := 132) hx hb dL_isBest_127 (by decide) ?_
                  have hj9 := hj _ _ hP hS
                  rw [if_pos c_7] at hj9
                  exact hj9
                · refine lv_iload hx hb dL_isBest_106 (lv_at hl 1 rfl) ?_
                  refine lv_iload hx hb dL_isBest_108 (lv_at hl 3 rfl) ?_
                  refine lv_icmp_lt (tgt := 125) hx hb dL_isBest_110 (by decide) (fun c_8 => ?_) (fun c_8 => ?_)
                  · refine lv_iload hx hb dL_isBest_125 (lv_at hl 2 rfl) ?_
                    refine lv_goto (tgt := 132) hx hb dL_isBest_127 (by decide) ?_
                    have hj9 := hj _ _ hP hS
                    rw [if_neg c_7, if_pos c_8] at hj9
                    exact hj9
                  · refine lv_iload hx hb dL_isBest_113 (lv_at hl 1 rfl) ?_
                    refine lv_iload hx hb dL_isBest_115 (lv_at hl 3 rfl) ?_
                    refine lv_icmp_ne (tgt := 130) hx hb dL_isBest_117 (by decide) (fun c_9 => ?_) (fun c_9 => ?_)
                    · refine lv_iload hx hb dL_isBest_130 (lv_at hl 4 rfl) ?_
                      have hj9 := hj _ _ hP hS
                      rw [if_neg c_7, if_neg c_8, if_neg c_9] at hj9
                      exact hj9
                    · refine lv_iload hx hb dL_isBest_120 (lv_at hl 0 rfl) ?_
                      refine lv_if_eq (tgt := 130) hx hb dL_isBest_122 (by decide) (fun c_10 => ?_) (fun c_10 => ?_)
                      · refine lv_iload hx hb dL_isBest_130 (lv_at hl 4 rfl) ?_
                        have hj9 := hj _ _ hP hS
                        rw [if_neg c_7, if_neg c_8, if_pos c_9, if_pos c_10] at hj9
                        exact hj9
                      · refine lv_iload hx hb dL_isBest_125 (lv_at hl 2 rfl) ?_
                        refine lv_goto (tgt := 132) hx hb dL_isBest_127 (by decide) ?_
                        have hj9 := hj _ _ hP hS
                        rw [if_neg c_7, if_neg c_8, if_pos c_9, if_neg c_10] at hj9
                        exact hj9
              intro H locs hP hS
              refine W.eq (congrArg (fun z9 => F0 m 132 ls (.int z9 :: [])) (show (if (lBq vq vd vw vl n co m9).2 < 0 then trQ m9 else if lSu (upd vq (10 + co) (trQ m9)) vd vw vl co n < (lBq vq vd vw vl n co m9).2 then trQ m9 else if lSu (upd vq (10 + co) (trQ m9)) vd vw vl co n = (lBq vq vd vw vl n co m9).2 then if lBn (lBq vq vd vw vl n co m9).1 (trQ m9) = 0 then (lBq vq vd vw vl n co m9).1 else trQ m9 else (lBq vq vd vw vl n co m9).1) = lB1 (lBq vq vd vw vl n co m9).1 (lBq vq vd vw vl n co m9).2 (trQ m9) (lSu (upd vq (10 + co) (trQ m9)) vd vw vl co n) from (by first | rfl | (unfold lB1; rfl)))) ?_
              refine lv_istore (lv' := [(7, .int (lB1 (lBq vq vd vw vl n co m9).1 (lBq vq vd vw vl n co m9).2 (trQ m9) (lSu (upd vq (10 + co) (trQ m9)) vd vw vl co n))), (11, .int (lBn (lBq vq vd vw vl n co m9).1 (trQ m9))), (10, .int (lSu (upd vq (10 + co) (trQ m9)) vd vw vl co n)), (9, .int (trQ m9)), (8, .int ((lBq vq vd vw vl n co m9).2)), (6, .int (vq (10 + co))), (0, .ref xo), (1, .int (nI co)), (2, .ref aq), (3, .ref ad), (4, .ref aw), (5, .ref al)]) hx hb dL_isBest_132 hl (by decide) rfl (fun ls hl => ?_)
              refine lv_iload hx hb dL_isBest_134 (lv_at hl 4 rfl) ?_
              refine (fun (hj : ∀ (H : Heap) (locs : List Loc), va_P E.1 vwCl [(xo, .inr (4, [.ref r, .ref r2, .ref r3, .ref d, .ref y, .ref q2, .int sf])), (r, .inr (2, [.ref rc])), (rc, .inl (E.2.1, 293, .inl f)), (aq, .inl (E.2.1, 13, .inl (upd vq (10 + co) (trQ m9)))), (ad, .inl (E.2.1, 63, .inl vd)), (aw, .inl (E.2.1, 63, .inl vw)), (al, .inl (E.2.1, 63, .inl vl))] H → va_S A s.heap H locs → W pg l e (rq 7) s m ([.ref xo, .int (nI co), .ref aq, .ref ad, .ref aw, .ref al] : List Value).toArray below meth c H locs 0 0 Q (F0 m 153 ls [.int (if (lBq vq vd vw vl n co m9).2 < 0 then lSu (upd vq (10 + co) (trQ m9)) vd vw vl co n else if (lBq vq vd vw vl n co m9).2 ≤ lSu (upd vq (10 + co) (trQ m9)) vd vw vl co n then (lBq vq vd vw vl n co m9).2 else lSu (upd vq (10 + co) (trQ m9)) vd vw vl co n)])) => ?_) ?_
              · refine lv_if_lt (tgt := 146) hx hb dL_isBest_136 (by decide) (fun c_11 => ?_) (fun c_11 => ?_)
                · refine lv_iload hx hb dL_isBest_146 (lv_at hl 2 rfl) ?_
                  refine lv_goto (tgt := 153) hx hb dL_isBest_148 (by decide) ?_
                  have hj9 := hj _ _ hP hS
                  rw [if_pos c_11] at hj9
                  exact hj9
                · refine lv_iload hx hb dL_isBest_139 (lv_at hl 2 rfl) ?_
                  refine lv_iload hx hb dL_isBest_141 (lv_at hl 4 rfl) ?_
                  refine lv_icmp_ge (tgt := 151) hx hb dL_isBest_143 (by decide) (fun c_12 => ?_) (fun c_12 => ?_)
                  · refine lv_iload hx hb dL_isBest_151 (lv_at hl 4 rfl) ?_
                    have hj9 := hj _ _ hP hS
                    rw [if_neg c_11, if_pos c_12] at hj9
                    exact hj9
                  · refine lv_iload hx hb dL_isBest_146 (lv_at hl 2 rfl) ?_
                    refine lv_goto (tgt := 153) hx hb dL_isBest_148 (by decide) ?_
                    have hj9 := hj _ _ hP hS
                    rw [if_neg c_11, if_neg c_12] at hj9
                    exact hj9
              intro H locs hP hS
              refine W.eq (congrArg (fun z9 => F0 m 153 ls (.int z9 :: [])) (show (if (lBq vq vd vw vl n co m9).2 < 0 then lSu (upd vq (10 + co) (trQ m9)) vd vw vl co n else if (lBq vq vd vw vl n co m9).2 ≤ lSu (upd vq (10 + co) (trQ m9)) vd vw vl co n then (lBq vq vd vw vl n co m9).2 else lSu (upd vq (10 + co) (trQ m9)) vd vw vl co n) = lB2 (lBq vq vd vw vl n co m9).2 (lSu (upd vq (10 + co) (trQ m9)) vd vw vl co n) from (by first | rfl | (unfold lB1; rfl)))) ?_
              refine lv_istore (lv' := [(8, .int (lB2 (lBq vq vd vw vl n co m9).2 (lSu (upd vq (10 + co) (trQ m9)) vd vw vl co n))), (7, .int (lB1 (lBq vq vd vw vl n co m9).1 (lBq vq vd vw vl n co m9).2 (trQ m9) (lSu (upd vq (10 + co) (trQ m9)) vd vw vl co n))), (11, .int (lBn (lBq vq vd vw vl n co m9).1 (trQ m9))), (10, .int (lSu (upd vq (10 + co) (trQ m9)) vd vw vl co n)), (9, .int (trQ m9)), (6, .int (vq (10 + co))), (0, .ref xo), (1, .int (nI co)), (2, .ref aq), (3, .ref ad), (4, .ref aw), (5, .ref al)]) hx hb dL_isBest_153 hl (by decide) rfl (fun ls hl => ?_)
              refine lv_iinc (v := trQ m9 + nI 1) (lv' := [(9, .int (trQ m9 + nI 1)), (8, .int (lB2 (lBq vq vd vw vl n co m9).2 (lSu (upd vq (10 + co) (trQ m9)) vd vw vl co n))), (7, .int (lB1 (lBq vq vd vw vl n co m9).1 (lBq vq vd vw vl n co m9).2 (trQ m9) (lSu (upd vq (10 + co) (trQ m9)) vd vw vl co n))), (11, .int (lBn (lBq vq vd vw vl n co m9).1 (trQ m9))), (10, .int (lSu (upd vq (10 + co) (trQ m9)) vd vw vl co n)), (6, .int (vq (10 + co))), (0, .ref xo), (1, .int (nI co)), (2, .ref aq), (3, .ref ad), (4, .ref aw), (5, .ref al)]) hx hb dL_isBest_155 hl (k := 4) rfl (by rfl) (by decide) rfl (fun ls hl => ?_)
              refine lv_goto (tgt := 18) hx hb dL_isBest_158 (by decide) ?_
              have hl : lv_has ls 12 [(9, .int (trQ m9 + nI 1)), (8, .int (lB2 (lBq vq vd vw vl n co m9).2 (lSu (upd vq (10 + co) (trQ m9)) vd vw vl co n))), (7, .int (lB1 (lBq vq vd vw vl n co m9).1 (lBq vq vd vw vl n co m9).2 (trQ m9) (lSu (upd vq (10 + co) (trQ m9)) vd vw vl co n))), (6, .int (vq (10 + co))), (0, .ref xo), (1, .int (nI co)), (2, .ref aq), (3, .ref ad), (4, .ref aw), (5, .ref al)] := lv_sub hl [0, 1, 2, 5, 6, 7, 8, 9, 10, 11] rfl
              have hl : lv_has ls 12 [(9, .int (trQ (m9 + 1))), (8, .int ((lBq vq vd vw vl n co (m9 + 1)).2)), (7, .int ((lBq vq vd vw vl n co (m9 + 1)).1)), (6, .int (vq (10 + co))), (0, .ref xo), (1, .int (nI co)), (2, .ref aq), (3, .ref ad), (4, .ref aw), (5, .ref al)] := by rw [← trQ_s]; exact hl
              exact ih18 (m9 + 1) (upd vq (10 + co) (trQ m9)) (by omega) (by omega) (fun z => upd_upd vq (10 + co) _ z) _ _ hP hS _ hl
            · refine lv_iload hx hb dL_isBest_47 (lv_at hl 1 rfl) ?_
              refine lv_iload hx hb dL_isBest_49 (lv_at hl 0 rfl) ?_
              refine lv_iload_n hx hb dL_isBest_51 rfl (lv_at hl 7 rfl) ?_
              refine lv_aload_n hx hb dL_isBest_52 rfl (lv_at hl 8 rfl) ?_
              refine lv_aload_n hx hb dL_isBest_53 rfl (lv_at hl 9 rfl) ?_
              refine lv_aload hx hb dL_isBest_54 (lv_at hl 10 rfl) ?_
              refine lv_aload hx hb dL_isBest_56 (lv_at hl 11 rfl) ?_
              refine rwS6 (rest := [.int (lSu (upd vq (10 + co) (trQ m9)) vd vw vl co k)]) S (c_L_off l E k co aq ad aw al (upd vq (10 + co) (trQ m9)) vd vw vl (by omega) hco) cd_L_off bw_404 ⟨Nat.le_of_ble_eq_true rfl, Nat.le_of_ble_eq_true rfl⟩ ⟨Nat.zero_le _, Nat.zero_le _⟩ hP (hDa.to rfl) hE hA hS [3, 4, 5, 6] rfl rfl [aq, ad, aw, al] rfl rfl (Nat.le_of_ble_eq_true rfl) hl.1 dL_isBest_58 (fun H locs hP _ hS => ?_)
              have hP : va_P E.1 vwCl [(xo, .inr (4, [.ref r, .ref r2, .ref r3, .ref d, .ref y, .ref q2, .int sf])), (r, .inr (2, [.ref rc])), (rc, .inl (E.2.1, 293, .inl f)), (aq, .inl (E.2.1, 13, .inl (upd vq (10 + co) (trQ m9)))), (ad, .inl (E.2.1, 63, .inl vd)), (aw, .inl (E.2.1, 63, .inl vw)), (al, .inl (E.2.1, 63, .inl vl))] H := hP
              refine rwS1 (rest := [.int (lSu (upd vq (10 + co) (trQ m9)) vd vw vl co k)]) S (c_L_size l E (lOf (upd vq (10 + co) (trQ m9)) vd vw vl k co)) cd_L_size bw_392 ⟨Nat.le_of_ble_eq_true rfl, Nat.le_of_ble_eq_true rfl⟩ ⟨Nat.zero_le _, Nat.zero_le _⟩ hP (hDa.to rfl) hE hA hS [] rfl rfl [] rfl rfl (Nat.le_of_ble_eq_true rfl) hl.1 dL_isBest_61 (fun H locs hP _ hS => ?_)
              have hP : va_P E.1 vwCl [(xo, .inr (4, [.ref r, .ref r2, .ref r3, .ref d, .ref y, .ref q2, .int sf])), (r, .inr (2, [.ref rc])), (rc, .inl (E.2.1, 293, .inl f)), (aq, .inl (E.2.1, 13, .inl (upd vq (10 + co) (trQ m9)))), (ad, .inl (E.2.1, 63, .inl vd)), (aw, .inl (E.2.1, 63, .inl vw)), (al, .inl (E.2.1, 63, .inl vl))] H := hP
              refine lv_iadd hx hb dL_isBest_64 ?_
              refine lv_istore (lv' := [(10, .int (lSu (upd vq (10 + co) (trQ m9)) vd vw vl co k + (lSz (lOf (upd vq (10 + co) (trQ m9)) vd vw vl k co)))), (11, .int (nI k)), (9, .int (trQ m9)), (8, .int ((lBq vq vd vw vl n co m9).2)), (7, .int ((lBq vq vd vw vl n co m9).1)), (6, .int (vq (10 + co))), (0, .ref xo), (1, .int (nI co)), (2, .ref aq), (3, .ref ad), (4, .ref aw), (5, .ref al)]) hx hb dL_isBest_65 hl (by decide) rfl (fun ls hl => ?_)
              refine rn_inc (a := k) (d := 1) (lv' := [(11, .int (nI (k + 1))), (10, .int (lSu (upd vq (10 + co) (trQ m9)) vd vw vl co k + (lSz (lOf (upd vq (10 + co) (trQ m9)) vd vw vl k co)))), (9, .int (trQ m9)), (8, .int ((lBq vq vd vw vl n co m9).2)), (7, .int ((lBq vq vd vw vl n co m9).1)), (6, .int (vq (10 + co))), (0, .ref xo), (1, .int (nI co)), (2, .ref aq), (3, .ref ad), (4, .ref aw), (5, .ref al)]) hx hb dL_isBest_67 hl (k := 1) rfl (by decide) (by decide) rfl (fun ls hl => ?_)
              refine lv_goto (tgt := 39) hx hb dL_isBest_70 (by decide) ?_
              have hl : lv_has ls 12 [(11, .int (nI (k + 1))), (10, .int (lSu (upd vq (10 + co) (trQ m9)) vd vw vl co (k + 1))), (9, .int (trQ m9)), (8, .int ((lBq vq vd vw vl n co m9).2)), (7, .int ((lBq vq vd vw vl n co m9).1)), (6, .int (vq (10 + co))), (0, .ref xo), (1, .int (nI co)), (2, .ref aq), (3, .ref ad), (4, .ref aw), (5, .ref al)] := lv_sub hl [0, 1, 2, 3, 4, 5, 6, 7, 8, 9, 10, 11] rfl
              exact ih39 (k + 1) (by omega) (by omega) _ _ hP hS _ hl
        have hl : lv_has ls 12 [(11, .int (nI 0)), (10, .int (lSu (upd vq (10 + co) (trQ m9)) vd vw vl co 0)), (9, .int (trQ m9)), (8, .int ((lBq vq vd vw vl n co m9).2)), (7, .int ((lBq vq vd vw vl n co m9).1)), (6, .int (vq (10 + co))), (0, .ref xo), (1, .int (nI co)), (2, .ref aq), (3, .ref ad), (4, .ref aw), (5, .ref al)] := lv_sub hl [0, 1, 2, 3, 4, 5, 6, 7, 8, 9, 10, 11] rfl
        exact loop39 _ 0 (Nat.lt_succ_self _) (by omega) _ _ hP hS _ hl
  have hl : lv_has ls 12 [(9, .int (-20)), (8, .int (-1)), (7, .int (nI 0)), (6, .int (vq (10 + co))), (0, .ref xo), (1, .int (nI co)), (2, .ref aq), (3, .ref ad), (4, .ref aw), (5, .ref al)] := lv_sub hl [0, 1, 2, 3, 4, 5, 6, 7, 8, 9] rfl
  have hl : lv_has ls 12 [(9, .int (trQ 0)), (8, .int ((lBq vq vd vw vl n co 0).2)), (7, .int ((lBq vq vd vw vl n co 0).1)), (6, .int (vq (10 + co))), (0, .ref xo), (1, .int (nI co)), (2, .ref aq), (3, .ref ad), (4, .ref aw), (5, .ref al)] := by rw [show trQ 0 = (-20) from by decide]; exact hl
  exact loop18 _ 0 vq (Nat.lt_succ_self _) (by omega) (fun z => rfl) _ _ hP hS _ hl

