/-! the law holds all that the class tells against its rows -/
def lS1 (vq vr : Nat → Int32) : Nat → Int32
  | 0 => nI 0
  | k + 1 => lS1 vq vr k ||| (if lBa vq vr k = 0 then nI 0 else (nI 1) <<< (nI k &&& 31))
def lS2 (vr : Nat → Int32) : Nat → Int32
  | 0 => nI 0
  | k + 1 => lS2 vr k ||| (if vr (3 * k) ≤ 0 then nI 0 else (nI 1) <<< (nI k &&& 31))
def lS3 (vq vd vl : Nat → Int32) (n : Nat) : Nat → Int32
  | 0 => nI 0
  | k + 1 => lS3 vq vd vl n k ||| (if lJu vq vd vl n k = 0 then nI 0 else (nI 1) <<< (nI k &&& 31))
def lS4 (vq vd vw vl : Nat → Int32) : Nat → Int32
  | 0 => nI 0
  | k + 1 => lS4 vq vd vw vl k ||| (if lSz (lOf vq vd vw vl k 0) ≤ vq 1 then nI 0 else (nI 1) <<< (nI k &&& 31)) ||| (if lSz (lOf vq vd vw vl k 1) ≤ vq 1 then nI 0 else (nI 1) <<< (nI k &&& 31)) ||| (if lSz (lOf vq vd vw vl k 2) ≤ vq 1 then nI 0 else (nI 1) <<< (nI k &&& 31))
def soOK (f : Nat → Int32) (n : Nat) (vq : Nat → Int32) (vf : Nat → Int32) (vd : Nat → Int32) (vw : Nat → Int32) (vl : Nat → Int32) (vr : Nat → Int32) (L : Nat) (z : Nat) (x : Int32) : Prop :=
  (fCo f n L z (nI 0) = nI n) ∧
  (fCo f n L z (nI 1) = lFt vf n) ∧
  (fCo f n L z (nI 2) = vq 5) ∧
  (fCo f n L z (nI 3) = lS1 vq vr n) ∧
  (fCo f n L z (nI 4) = lS2 vr n) ∧
  (fCo f n L z (nI 5) = lS3 vq vd vl n n) ∧
  (fCo f n L z (nI 6) = vq 6) ∧
  (fCo f n L z (nI 7) = lS4 vq vd vw vl n) ∧
  (fLa f (nI (lowN x 3)) (nI 0) = vq (7 + lowN x 3)) ∧
  (fLa f (nI (lowN x 3)) (nI 1) = ((vq (7 + lowN x 3)) * (vq 3)) / (nI 100)) ∧
  (fLa f (nI (lowN x 3)) (nI 2) = vq (10 + lowN x 3) + (nI 20)) ∧
  (fCo f n L z (nI 8) = vq 0) ∧
  (fCo f n L z (nI 9) = vq 1) ∧
  (fCo f n L z (nI 10) = vq 2) ∧
  (fCo f n L z (nI 11) = vq 3) ∧
  (fOf f n (nI n) (nI 0) = (-1))
theorem cd_L_isSo : cdS yL_isSo cL_isSo 15 (some .boolean) 8 := ⟨⟨bw_415, bw_1, by decide, by decide, by decide +kernel⟩, bw_414⟩
set_option maxHeartbeats 4000000 in
set_option maxRecDepth 100000 in
theorem c_L_isSo (l : Launch) (E : EV) (xo : Nat) (r : Nat) (r2 : Nat) (r3 : Nat) (d : Nat) (y : Nat) (q2 : Nat) (sf : Int32) (rc : Nat) (f : Nat → Int32) (ch : Nat) (nu : Nat) (L : Nat) (a : Int32) (b : Int32) (le : Int32) (co : Int32) (mi : Int32) (t : Nat → Int32) (u : Nat → Int32) (q : Nat) (w : Nat) (o : Nat) (z : Nat) (h : Nat → Int32) (x : Int32) (aq : Nat) (af : Nat) (ad : Nat) (aw : Nat) (al : Nat) (ar : Nat) (vq : Nat → Int32) (vf : Nat → Int32) (vd : Nat → Int32) (vw : Nat → Int32) (vl : Nat → Int32) (vr : Nat → Int32) (n : Nat) (hf : f 12 = nI n) (hq : vq 4 = nI n) (hn : n ≤ 20) (hbe : ∀ c9 : Nat, c9 < 3 → beOK f n vq vd vw vl c9) (hsh : ∀ (k9 c9 : Nat) (y9 : Int32), k9 < n → c9 < 3 → shOK f n vq vf vd vw vl vr k9 c9 y9) (hok : soOK f n vq vf vd vw vl vr L z x) : rcI l E yL_isSo cL_isSo 15 .boolean 8 [.ref xo, .int x, .ref aq, .ref af, .ref ad, .ref aw, .ref al, .ref ar] [(xo, .inr (4, [.ref r, .ref r2, .ref r3, .ref d, .ref y, .ref q2, .int sf])), (r, .inr (2, [.ref rc])), (rc, .inl (E.2.1, 293, .inl f)), (d, .inr (1, [.ref ch, .ref nu, .int (nI L), .int a, .int b, .int le, .int co, .int mi])), (ch, .inl (E.2.2.1, 80, .inl t)), (nu, .inl (E.2.1, 4, .inl u)), (y, .inr (0, [.ref q, .int (nI o), .int (nI z)])), (q, .inr (3, [.ref w])), (w, .inl (E.2.1, 1758, .inl h)), (aq, .inl (E.2.1, 13, .inl vq)), (af, .inl (E.2.1, 21, .inl vf)), (ad, .inl (E.2.1, 63, .inl vd)), (aw, .inl (E.2.1, 63, .inl vw)), (al, .inl (E.2.1, 63, .inl vl)), (ar, .inl (E.2.1, 63, .inl vr))] (nI 1) [(xo, .inr (4, [.ref r, .ref r2, .ref r3, .ref d, .ref y, .ref q2, .int sf])), (r, .inr (2, [.ref rc])), (rc, .inl (E.2.1, 293, .inl f)), (d, .inr (1, [.ref ch, .ref nu, .int (nI L), .int a, .int b, .int le, .int co, .int mi])), (ch, .inl (E.2.2.1, 80, .inl t)), (nu, .inl (E.2.1, 4, .inl u)), (y, .inr (0, [.ref q, .int (nI o), .int (nI z)])), (q, .inr (3, [.ref w])), (w, .inl (E.2.1, 1758, .inl h)), (aq, .inl (E.2.1, 13, .inl vq)), (af, .inl (E.2.1, 21, .inl vf)), (ad, .inl (E.2.1, 63, .inl vd)), (aw, .inl (E.2.1, 63, .inl vw)), (al, .inl (E.2.1, 63, .inl vl)), (ar, .inl (E.2.1, 63, .inl vr))] := by
  refine rcI_of (by decide) (Nat.le_of_ble_eq_true rfl) ?_
  intro pg e s m below meth c Q A ls S hP hD0 hE hA hl hret
  have hx := S.1
  have hb := S.2.1
  have hown := S.2.2.2.1
  have hts := S.2.2.2.2
  have hK := hE.1
  have hS : va_S A s.heap s.heap [] := va_S.rf
  have hDa : va_Da A [xo, r, rc, d, ch, nu, y, q, w, aq, af, ad, aw, al, ar] := ⟨_, hD0, rfl⟩
  have hl : lv_has ls 15 [(0, .ref xo), (1, .int x), (2, .ref aq), (3, .ref af), (4, .ref ad), (5, .ref aw), (6, .ref al), (7, .ref ar)] := hl
  have hz3 := lowN_lt x (m := 3) (by omega)
  have hz3b := lowN_lt (x >>> (nI 3 &&& 31)) (m := 3) (by omega)
  obtain ⟨e_1, e_2, e_3, e_4, e_5, e_6, e_7, e_8, e_9, e_10, e_11, e_12, e_13, e_14, e_15, e_16⟩ := hok
  refine lv_iconst (v := nI 0) hx hb dL_isSo_0 (by decide) ?_
  refine lv_istore (lv' := [(8, .int (nI 0)), (0, .ref xo), (1, .int x), (2, .ref aq), (3, .ref af), (4, .ref ad), (5, .ref aw), (6, .ref al), (7, .ref ar)]) hx hb dL_isSo_1 hl (by decide) rfl (fun ls hl => ?_)
  refine lv_iconst (v := nI 0) hx hb dL_isSo_3 (by decide) ?_
  refine lv_istore (lv' := [(9, .int (nI 0)), (8, .int (nI 0)), (0, .ref xo), (1, .int x), (2, .ref aq), (3, .ref af), (4, .ref ad), (5, .ref aw), (6, .ref al), (7, .ref ar)]) hx hb dL_isSo_4 hl (by decide) rfl (fun ls hl => ?_)
  refine lv_iconst (v := nI 0) hx hb dL_isSo_6 (by decide) ?_
  refine lv_istore (lv' := [(10, .int (nI 0)), (9, .int (nI 0)), (8, .int (nI 0)), (0, .ref xo), (1, .int x), (2, .ref aq), (3, .ref af), (4, .ref ad), (5, .ref aw), (6, .ref al), (7, .ref ar)]) hx hb dL_isSo_7 hl (by decide) rfl (fun ls hl => ?_)
  refine lv_iconst (v := nI 0) hx hb dL_isSo_9 (by decide) ?_
  refine lv_istore (lv' := [(11, .int (nI 0)), (10, .int (nI 0)), (9, .int (nI 0)), (8, .int (nI 0)), (0, .ref xo), (1, .int x), (2, .ref aq), (3, .ref af), (4, .ref ad), (5, .ref aw), (6, .ref al), (7, .ref ar)]) hx hb dL_isSo_10 hl (by decide) rfl (fun ls hl => ?_)
  refine lv_iconst (v := nI 0) hx hb dL_isSo_12 (by decide) ?_
  refine lv_istore (lv' := [(12, .int (nI 0)), (11, .int (nI 0)), (10, .int (nI 0)), (9, .int (nI 0)), (8, .int (nI 0)), (0, .ref xo), (1, .int x), (2, .ref aq), (3, .ref af), (4, .ref ad), (5, .ref aw), (6, .ref al), (7, .ref ar)]) hx hb dL_isSo_13 hl (by decide) rfl (fun ls hl => ?_)
  have loop15 : ∀ (fuel : Nat) (k : Nat), n - k < fuel → (k ≤ n) → ∀ (H : Heap) (locs : List Loc), va_P E.1 vwCl [(xo, .inr (4, [.ref r, .ref r2, .ref r3, .ref d, .ref y, .ref q2, .int sf])), (r, .inr (2, [.ref rc])), (rc, .inl (E.2.1, 293, .inl f)), (d, .inr (1, [.ref ch, .ref nu, .int (nI L), .int a, .int b, .int le, .int co, .int mi])), (ch, .inl (E.2.2.1, 80, .inl t)), (nu, .inl (E.2.1, 4, .inl u)), (y, .inr (0, [.ref q, .int (nI o), .int (nI z)])), (q, .inr (3, [.ref w])), (w, .inl (E.2.1, 1758, .inl h)), (aq, .inl (E.2.1, 13, .inl vq)), (af, .inl (E.2.1, 21, .inl vf)), (ad, .inl (E.2.1, 63, .inl vd)), (aw, .inl (E.2.1, 63, .inl vw)), (al, .inl (E.2.1, 63, .inl vl)), (ar, .inl (E.2.1, 63, .inl vr))] H → va_S A s.heap H locs → ∀ ls : Array Slot, lv_has ls 15 [(12, .int (nI k)), (11, .int (lS4 vq vd vw vl k)), (10, .int (lS3 vq vd vl n k)), (9, .int (lS2 vr k)), (8, .int (lS1 vq vr k)), (0, .ref xo), (1, .int x), (2, .ref aq), (3, .ref af), (4, .ref ad), (5, .ref aw), (6, .ref al), (7, .ref ar)] → W pg l e (rq 8) s m ([.ref xo, .int x, .ref aq, .ref af, .ref ad, .ref aw, .ref al, .ref ar] : List Value).toArray below meth c H locs 0 0 Q (F0 m 15 ls []) := by
    intro fuel
    induction fuel with
    | zero => intro k h9; exact absurd h9 (Nat.not_lt_zero _)
    | succ fuel ih15 =>
      intro k hfu15 hk H locs hP hS ls hl
      refine lv_iload hx hb dL_isSo_15 (lv_at hl 0 rfl) ?_
      refine lv_aload_n hx hb dL_isSo_17 rfl (lv_at hl 7 rfl) ?_
      refine lv_iconst (v := nI 4) hx hb dL_isSo_18 (by decide) ?_
      refine rn_iald (i := 4) hx hb hK hP 9 0 rfl rfl (by omega) (by omega) dL_isSo_19 ?_
      refine W.eq (congrArg (fun z9 => F0 m 20 ls (.int z9 :: [.int (nI k)])) (show vq 4 = nI n from hq)) ?_
      refine rn_icmp_ge (a := k) (b := n) (tgt := 153) hx hb (by omega) (by omega) dL_isSo_20 (by decide) (fun c_1 => ?_) (fun c_1 => ?_)
      · have hex : n = k := by omega
        subst hex
        refine lv_iload_n hx hb dL_isSo_153 rfl (lv_at hl 6 rfl) ?_
        refine lv_iconst (v := nI 3) hx hb dL_isSo_154 (by decide) ?_
        refine rwS2 (rest := []) S (c_L_low l E x 3 (by omega) (by omega)) cd_L_low bw_140 ⟨Nat.le_of_ble_eq_true rfl, Nat.le_of_ble_eq_true rfl⟩ ⟨Nat.zero_le _, Nat.zero_le _⟩ hP (hDa.to rfl) hE hA hS [] rfl rfl [] rfl rfl (Nat.le_of_ble_eq_true rfl) hl.1 dL_isSo_155 (fun H locs hP _ hS => ?_)
        have hP : va_P E.1 vwCl [(xo, .inr (4, [.ref r, .ref r2, .ref r3, .ref d, .ref y, .ref q2, .int sf])), (r, .inr (2, [.ref rc])), (rc, .inl (E.2.1, 293, .inl f)), (d, .inr (1, [.ref ch, .ref nu, .int (nI L), .int a, .int b, .int le, .int co, .int mi])), (ch, .inl (E.2.2.1, 80, .inl t)), (nu, .inl (E.2.1, 4, .inl u)), (y, .inr (0, [.ref q, .int (nI o), .int (nI z)])), (q, .inr (3, [.ref w])), (w, .inl (E.2.1, 1758, .inl h)), (aq, .inl (E.2.1, 13, .inl vq)), (af, .inl (E.2.1, 21, .inl vf)), (ad, .inl (E.2.1, 63, .inl vd)), (aw, .inl (E.2.1, 63, .inl vw)), (al, .inl (E.2.1, 63, .inl vl)), (ar, .inl (E.2.1, 63, .inl vr))] H := hP
        refine lv_istore (lv' := [(12, .int (nI (lowN x 3))), (11, .int (lS4 vq vd vw vl n)), (10, .int (lS3 vq vd vl n n)), (9, .int (lS2 vr n)), (8, .int (lS1 vq vr n)), (0, .ref xo), (1, .int x), (2, .ref aq), (3, .ref af), (4, .ref ad), (5, .ref aw), (6, .ref al), (7, .ref ar)]) hx hb dL_isSo_158 hl (by decide) rfl (fun ls hl => ?_)
        refine lv_aload_n hx hb dL_isSo_160 rfl (lv_at hl 5 rfl) ?_
        refine lv_iconst (v := nI 0) hx hb dL_isSo_161 (by decide) ?_
        refine rwV1 (rest := []) S (c_X7_count l E xo r r2 r3 d y q2 sf rc f ch nu L a b le co mi t u q w o z h n (nI 0) hf hn) cd_X7_count bw_419 ⟨Nat.le_of_ble_eq_true rfl, Nat.le_of_ble_eq_true rfl⟩ ⟨Nat.zero_le _, Nat.zero_le _⟩ hP (hDa.to rfl) hE hA hS [0, 1, 2, 3, 4, 5, 6, 7, 8] rfl rfl [xo, r, rc, d, ch, nu, y, q, w] rfl rfl (ci := 4) rfl (q0 := 0) rfl (Nat.le_of_ble_eq_true rfl) hl.1 dL_isSo_162 (fun H locs hP _ hS => ?_)
        have hP : va_P E.1 vwCl [(xo, .inr (4, [.ref r, .ref r2, .ref r3, .ref d, .ref y, .ref q2, .int sf])), (r, .inr (2, [.ref rc])), (rc, .inl (E.2.1, 293, .inl f)), (d, .inr (1, [.ref ch, .ref nu, .int (nI L), .int a, .int b, .int le, .int co, .int mi])), (ch, .inl (E.2.2.1, 80, .inl t)), (nu, .inl (E.2.1, 4, .inl u)), (y, .inr (0, [.ref q, .int (nI o), .int (nI z)])), (q, .inr (3, [.ref w])), (w, .inl (E.2.1, 1758, .inl h)), (aq, .inl (E.2.1, 13, .inl vq)), (af, .inl (E.2.1, 21, .inl vf)), (ad, .inl (E.2.1, 63, .inl vd)), (aw, .inl (E.2.1, 63, .inl vw)), (al, .inl (E.2.1, 63, .inl vl)), (ar, .inl (E.2.1, 63, .inl vr))] H := hP
        refine lv_aload_n hx hb dL_isSo_165 rfl (lv_at hl 7 rfl) ?_
        refine lv_iconst (v := nI 4) hx hb dL_isSo_166 (by decide) ?_
        refine rn_iald (i := 4) hx hb hK hP 9 0 rfl rfl (by omega) (by omega) dL_isSo_167 ?_
        refine W.eq (congrArg (fun z9 => F0 m 168 ls (.int z9 :: [.int (fCo f n L z (nI 0))])) (show vq 4 = nI n from hq)) ?_
        refine lv_icmp_ne (tgt := 316) hx hb dL_isSo_168 (by decide) (fun c9 => absurd e_1 c9) (fun _ => ?_)
        refine lv_aload_n hx hb dL_isSo_171 rfl (lv_at hl 5 rfl) ?_
        refine lv_iconst (v := nI 1) hx hb dL_isSo_172 (by decide) ?_
        refine rwV1 (rest := []) S (c_X7_count l E xo r r2 r3 d y q2 sf rc f ch nu L a b le co mi t u q w o z h n (nI 1) hf hn) cd_X7_count bw_419 ⟨Nat.le_of_ble_eq_true rfl, Nat.le_of_ble_eq_true rfl⟩ ⟨Nat.zero_le _, Nat.zero_le _⟩ hP (hDa.to rfl) hE hA hS [0, 1, 2, 3, 4, 5, 6, 7, 8] rfl rfl [xo, r, rc, d, ch, nu, y, q, w] rfl rfl (ci := 4) rfl (q0 := 0) rfl (Nat.le_of_ble_eq_true rfl) hl.1 dL_isSo_173 (fun H locs hP _ hS => ?_)
        have hP : va_P E.1 vwCl [(xo, .inr (4, [.ref r, .ref r2, .ref r3, .ref d, .ref y, .ref q2, .int sf])), (r, .inr (2, [.ref rc])), (rc, .inl (E.2.1, 293, .inl f)), (d, .inr (1, [.ref ch, .ref nu, .int (nI L), .int a, .int b, .int le, .int co, .int mi])), (ch, .inl (E.2.2.1, 80, .inl t)), (nu, .inl (E.2.1, 4, .inl u)), (y, .inr (0, [.ref q, .int (nI o), .int (nI z)])), (q, .inr (3, [.ref w])), (w, .inl (E.2.1, 1758, .inl h)), (aq, .inl (E.2.1, 13, .inl vq)), (af, .inl (E.2.1, 21, .inl vf)), (ad, .inl (E.2.1, 63, .inl vd)), (aw, .inl (E.2.1, 63, .inl vw)), (al, .inl (E.2.1, 63, .inl vl)), (ar, .inl (E.2.1, 63, .inl vr))] H := hP
        refine lv_aload_n hx hb dL_isSo_176 rfl (lv_at hl 7 rfl) ?_
        refine lv_iconst (v := nI 4) hx hb dL_isSo_177 (by decide) ?_
        refine rn_iald (i := 4) hx hb hK hP 9 0 rfl rfl (by omega) (by omega) dL_isSo_178 ?_
        refine W.eq (congrArg (fun z9 => F0 m 179 ls (.int z9 :: [.int (fCo f n L z (nI 1))])) (show vq 4 = nI n from hq)) ?_
        refine lv_aload_n hx hb dL_isSo_179 rfl (lv_at hl 8 rfl) ?_
        refine rwS2 (rest := [.int (fCo f n L z (nI 1))]) S (c_L_feet l E n af vf hn) cd_L_feet bw_401 ⟨Nat.le_of_ble_eq_true rfl, Nat.le_of_ble_eq_true rfl⟩ ⟨Nat.zero_le _, Nat.zero_le _⟩ hP (hDa.to rfl) hE hA hS [10] rfl rfl [af] rfl rfl (Nat.le_of_ble_eq_true rfl) hl.1 dL_isSo_180 (fun H locs hP _ hS => ?_)
        have hP : va_P E.1 vwCl [(xo, .inr (4, [.ref r, .ref r2, .ref r3, .ref d, .ref y, .ref q2, .int sf])), (r, .inr (2, [.ref rc])), (rc, .inl (E.2.1, 293, .inl f)), (d, .inr (1, [.ref ch, .ref nu, .int (nI L), .int a, .int b, .int le, .int co, .int mi])), (ch, .inl (E.2.2.1, 80, .inl t)), (nu, .inl (E.2.1, 4, .inl u)), (y, .inr (0, [.ref q, .int (nI o), .int (nI z)])), (q, .inr (3, [.ref w])), (w, .inl (E.2.1, 1758, .inl h)), (aq, .inl (E.2.1, 13, .inl vq)), (af, .inl (E.2.1, 21, .inl vf)), (ad, .inl (E.2.1, 63, .inl vd)), (aw, .inl (E.2.1, 63, .inl vw)), (al, .inl (E.2.1, 63, .inl vl)), (ar, .inl (E.2.1, 63, .inl vr))] H := hP
        refine lv_icmp_ne (tgt := 316) hx hb dL_isSo_183 (by decide) (fun c9 => absurd e_2 c9) (fun _ => ?_)
        refine lv_aload_n hx hb dL_isSo_186 rfl (lv_at hl 5 rfl) ?_
        refine lv_iconst (v := nI 2) hx hb dL_isSo_187 (by decide) ?_
        refine rwV1 (rest := []) S (c_X7_count l E xo r r2 r3 d y q2 sf rc f ch nu L a b le co mi t u q w o z h n (nI 2) hf hn) cd_X7_count bw_419 ⟨Nat.le_of_ble_eq_true rfl, Nat.le_of_ble_eq_true rfl⟩ ⟨Nat.zero_le _, Nat.zero_le _⟩ hP (hDa.to rfl) hE hA hS [0, 1, 2, 3, 4, 5, 6, 7, 8] rfl rfl [xo, r, rc, d, ch, nu, y, q, w] rfl rfl (ci := 4) rfl (q0 := 0) rfl (Nat.le_of_ble_eq_true rfl) hl.1 dL_isSo_188 (fun H locs hP _ hS => ?_)
        have hP : va_P E.1 vwCl [(xo, .inr (4, [.ref r, .ref r2, .ref r3, .ref d, .ref y, .ref q2, .int sf])), (r, .inr (2, [.ref rc])), (rc, .inl (E.2.1, 293, .inl f)), (d, .inr (1, [.ref ch, .ref nu, .int (nI L), .int a, .int b, .int le, .int co, .int mi])), (ch, .inl (E.2.2.1, 80, .inl t)), (nu, .inl (E.2.1, 4, .inl u)), (y, .inr (0, [.ref q, .int (nI o), .int (nI z)])), (q, .inr (3, [.ref w])), (w, .inl (E.2.1, 1758, .inl h)), (aq, .inl (E.2.1, 13, .inl vq)), (af, .inl (E.2.1, 21, .inl vf)), (ad, .inl (E.2.1, 63, .inl vd)), (aw, .inl (E.2.1, 63, .inl vw)), (al, .inl (E.2.1, 63, .inl vl)), (ar, .inl (E.2.1, 63, .inl vr))] H := hP
        refine lv_aload_n hx hb dL_isSo_191 rfl (lv_at hl 7 rfl) ?_
        refine lv_iconst (v := nI 5) hx hb dL_isSo_192 (by decide) ?_
        refine rn_iald (i := 5) hx hb hK hP 9 0 rfl rfl (by omega) (by omega) dL_isSo_193 ?_
        refine lv_icmp_ne (tgt := 316) hx hb dL_isSo_194 (by decide) (fun c9 => absurd e_3 c9) (fun _ => ?_)
        refine lv_aload_n hx hb dL_isSo_197 rfl (lv_at hl 5 rfl) ?_
        refine lv_iconst (v := nI 3) hx hb dL_isSo_198 (by decide) ?_
        refine rwV1 (rest := []) S (c_X7_count l E xo r r2 r3 d y q2 sf rc f ch nu L a b le co mi t u q w o z h n (nI 3) hf hn) cd_X7_count bw_419 ⟨Nat.le_of_ble_eq_true rfl, Nat.le_of_ble_eq_true rfl⟩ ⟨Nat.zero_le _, Nat.zero_le _⟩ hP (hDa.to rfl) hE hA hS [0, 1, 2, 3, 4, 5, 6, 7, 8] rfl rfl [xo, r, rc, d, ch, nu, y, q, w] rfl rfl (ci := 4) rfl (q0 := 0) rfl (Nat.le_of_ble_eq_true rfl) hl.1 dL_isSo_199 (fun H locs hP _ hS => ?_)
        have hP : va_P E.1 vwCl [(xo, .inr (4, [.ref r, .ref r2, .ref r3, .ref d, .ref y, .ref q2, .int sf])), (r, .inr (2, [.ref rc])), (rc, .inl (E.2.1, 293, .inl f)), (d, .inr (1, [.ref ch, .ref nu, .int (nI L), .int a, .int b, .int le, .int co, .int mi])), (ch, .inl (E.2.2.1, 80, .inl t)), (nu, .inl (E.2.1, 4, .inl u)), (y, .inr (0, [.ref q, .int (nI o), .int (nI z)])), (q, .inr (3, [.ref w])), (w, .inl (E.2.1, 1758, .inl h)), (aq, .inl (E.2.1, 13, .inl vq)), (af, .inl (E.2.1, 21, .inl vf)), (ad, .inl (E.2.1, 63, .inl vd)), (aw, .inl (E.2.1, 63, .inl vw)), (al, .inl (E.2.1, 63, .inl vl)), (ar, .inl (E.2.1, 63, .inl vr))] H := hP
        refine lv_iload hx hb dL_isSo_202 (lv_at hl 4 rfl) ?_
        refine lv_icmp_ne (tgt := 316) hx hb dL_isSo_204 (by decide) (fun c9 => absurd e_4 c9) (fun _ => ?_)
        refine lv_aload_n hx hb dL_isSo_207 rfl (lv_at hl 5 rfl) ?_
        refine lv_iconst (v := nI 4) hx hb dL_isSo_208 (by decide) ?_
        refine rwV1 (rest := []) S (c_X7_count l E xo r r2 r3 d y q2 sf rc f ch nu L a b le co mi t u q w o z h n (nI 4) hf hn) cd_X7_count bw_419 ⟨Nat.le_of_ble_eq_true rfl, Nat.le_of_ble_eq_true rfl⟩ ⟨Nat.zero_le _, Nat.zero_le _⟩ hP (hDa.to rfl) hE hA hS [0, 1, 2, 3, 4, 5, 6, 7, 8] rfl rfl [xo, r, rc, d, ch, nu, y, q, w] rfl rfl (ci := 4) rfl (q0 := 0) rfl (Nat.le_of_ble_eq_true rfl) hl.1 dL_isSo_209 (fun H locs hP _ hS => ?_)
        have hP : va_P E.1 vwCl [(xo, .inr (4, [.ref r, .ref r2, .ref r3, .ref d, .ref y, .ref q2, .int sf])), (r, .inr (2, [.ref rc])), (rc, .inl (E.2.1, 293, .inl f)), (d, .inr (1, [.ref ch, .ref nu, .int (nI L), .int a, .int b, .int le, .int co, .int mi])), (ch, .inl (E.2.2.1, 80, .inl t)), (nu, .inl (E.2.1, 4, .inl u)), (y, .inr (0, [.ref q, .int (nI o), .int (nI z)])), (q, .inr (3, [.ref w])), (w, .inl (E.2.1, 1758, .inl h)), (aq, .inl (E.2.1, 13, .inl vq)), (af, .inl (E.2.1, 21, .inl vf)), (ad, .inl (E.2.1, 63, .inl vd)), (aw, .inl (E.2.1, 63, .inl vw)), (al, .inl (E.2.1, 63, .inl vl)), (ar, .inl (E.2.1, 63, .inl vr))] H := hP
        refine lv_iload hx hb dL_isSo_212 (lv_at hl 3 rfl) ?_
        refine lv_icmp_ne (tgt := 316) hx hb dL_isSo_214 (by decide) (fun c9 => absurd e_5 c9) (fun _ => ?_)
        refine lv_aload_n hx hb dL_isSo_217 rfl (lv_at hl 5 rfl) ?_
        refine lv_iconst (v := nI 5) hx hb dL_isSo_218 (by decide) ?_
        refine rwV1 (rest := []) S (c_X7_count l E xo r r2 r3 d y q2 sf rc f ch nu L a b le co mi t u q w o z h n (nI 5) hf hn) cd_X7_count bw_419 ⟨Nat.le_of_ble_eq_true rfl, Nat.le_of_ble_eq_true rfl⟩ ⟨Nat.zero_le _, Nat.zero_le _⟩ hP (hDa.to rfl) hE hA hS [0, 1, 2, 3, 4, 5, 6, 7, 8] rfl rfl [xo, r, rc, d, ch, nu, y, q, w] rfl rfl (ci := 4) rfl (q0 := 0) rfl (Nat.le_of_ble_eq_true rfl) hl.1 dL_isSo_219 (fun H locs hP _ hS => ?_)
        have hP : va_P E.1 vwCl [(xo, .inr (4, [.ref r, .ref r2, .ref r3, .ref d, .ref y, .ref q2, .int sf])), (r, .inr (2, [.ref rc])), (rc, .inl (E.2.1, 293, .inl f)), (d, .inr (1, [.ref ch, .ref nu, .int (nI L), .int a, .int b, .int le, .int co, .int mi])), (ch, .inl (E.2.2.1, 80, .inl t)), (nu, .inl (E.2.1, 4, .inl u)), (y, .inr (0, [.ref q, .int (nI o), .int (nI z)])), (q, .inr (3, [.ref w])), (w, .inl (E.2.1, 1758, .inl h)), (aq, .inl (E.2.1, 13, .inl vq)), (af, .inl (E.2.1, 21, .inl vf)), (ad, .inl (E.2.1, 63, .inl vd)), (aw, .inl (E.2.1, 63, .inl vw)), (al, .inl (E.2.1, 63, .inl vl)), (ar, .inl (E.2.1, 63, .inl vr))] H := hP
        refine lv_iload hx hb dL_isSo_222 (lv_at hl 2 rfl) ?_
        refine lv_icmp_ne (tgt := 316) hx hb dL_isSo_224 (by decide) (fun c9 => absurd e_6 c9) (fun _ => ?_)
        refine lv_aload_n hx hb dL_isSo_227 rfl (lv_at hl 5 rfl) ?_
        refine lv_bipush (v := nI 6) hx hb dL_isSo_228 (by decide) ?_
        refine rwV1 (rest := []) S (c_X7_count l E xo r r2 r3 d y q2 sf rc f ch nu L a b le co mi t u q w o z h n (nI 6) hf hn) cd_X7_count bw_419 ⟨Nat.le_of_ble_eq_true rfl, Nat.le_of_ble_eq_true rfl⟩ ⟨Nat.zero_le _, Nat.zero_le _⟩ hP (hDa.to rfl) hE hA hS [0, 1, 2, 3, 4, 5, 6, 7, 8] rfl rfl [xo, r, rc, d, ch, nu, y, q, w] rfl rfl (ci := 4) rfl (q0 := 0) rfl (Nat.le_of_ble_eq_true rfl) hl.1 dL_isSo_230 (fun H locs hP _ hS => ?_)
        have hP : va_P E.1 vwCl [(xo, .inr (4, [.ref r, .ref r2, .ref r3, .ref d, .ref y, .ref q2, .int sf])), (r, .inr (2, [.ref rc])), (rc, .inl (E.2.1, 293, .inl f)), (d, .inr (1, [.ref ch, .ref nu, .int (nI L), .int a, .int b, .int le, .int co, .int mi])), (ch, .inl (E.2.2.1, 80, .inl t)), (nu, .inl (E.2.1, 4, .inl u)), (y, .inr (0, [.ref q, .int (nI o), .int (nI z)])), (q, .inr (3, [.ref w])), (w, .inl (E.2.1, 1758, .inl h)), (aq, .inl (E.2.1, 13, .inl vq)), (af, .inl (E.2.1, 21, .inl vf)), (ad, .inl (E.2.1, 63, .inl vd)), (aw, .inl (E.2.1, 63, .inl vw)), (al, .inl (E.2.1, 63, .inl vl)), (ar, .inl (E.2.1, 63, .inl vr))] H := hP
        refine lv_aload_n hx hb dL_isSo_233 rfl (lv_at hl 7 rfl) ?_
        refine lv_bipush (v := nI 6) hx hb dL_isSo_234 (by decide) ?_
        refine rn_iald (i := 6) hx hb hK hP 9 0 rfl rfl (by omega) (by omega) dL_isSo_236 ?_
        refine lv_icmp_ne (tgt := 316) hx hb dL_isSo_237 (by decide) (fun c9 => absurd e_7 c9) (fun _ => ?_)
        refine lv_aload_n hx hb dL_isSo_240 rfl (lv_at hl 5 rfl) ?_
        refine lv_bipush (v := nI 7) hx hb dL_isSo_241 (by decide) ?_
        refine rwV1 (rest := []) S (c_X7_count l E xo r r2 r3 d y q2 sf rc f ch nu L a b le co mi t u q w o z h n (nI 7) hf hn) cd_X7_count bw_419 ⟨Nat.le_of_ble_eq_true rfl, Nat.le_of_ble_eq_true rfl⟩ ⟨Nat.zero_le _, Nat.zero_le _⟩ hP (hDa.to rfl) hE hA hS [0, 1, 2, 3, 4, 5, 6, 7, 8] rfl rfl [xo, r, rc, d, ch, nu, y, q, w] rfl rfl (ci := 4) rfl (q0 := 0) rfl (Nat.le_of_ble_eq_true rfl) hl.1 dL_isSo_243 (fun H locs hP _ hS => ?_)
        have hP : va_P E.1 vwCl [(xo, .inr (4, [.ref r, .ref r2, .ref r3, .ref d, .ref y, .ref q2, .int sf])), (r, .inr (2, [.ref rc])), (rc, .inl (E.2.1, 293, .inl f)), (d, .inr (1, [.ref ch, .ref nu, .int (nI L), .int a, .int b, .int le, .int co, .int mi])), (ch, .inl (E.2.2.1, 80, .inl t)), (nu, .inl (E.2.1, 4, .inl u)), (y, .inr (0, [.ref q, .int (nI o), .int (nI z)])), (q, .inr (3, [.ref w])), (w, .inl (E.2.1, 1758, .inl h)), (aq, .inl (E.2.1, 13, .inl vq)), (af, .inl (E.2.1, 21, .inl vf)), (ad, .inl (E.2.1, 63, .inl vd)), (aw, .inl (E.2.1, 63, .inl vw)), (al, .inl (E.2.1, 63, .inl vl)), (ar, .inl (E.2.1, 63, .inl vr))] H := hP
        refine lv_iload hx hb dL_isSo_246 (lv_at hl 1 rfl) ?_
        refine lv_icmp_ne (tgt := 316) hx hb dL_isSo_248 (by decide) (fun c9 => absurd e_8 c9) (fun _ => ?_)
        refine lv_aload_n hx hb dL_isSo_251 rfl (lv_at hl 5 rfl) ?_
        refine lv_iload hx hb dL_isSo_252 (lv_at hl 0 rfl) ?_
        refine lv_iconst (v := nI 0) hx hb dL_isSo_254 (by decide) ?_
        refine rwV2 (rest := []) S (c_X7_ofLamp l E xo r r2 r3 d y q2 sf rc f (nI (lowN x 3)) (nI 0)) cd_X7_ofLamp bw_449 ⟨Nat.le_of_ble_eq_true rfl, Nat.le_of_ble_eq_true rfl⟩ ⟨Nat.zero_le _, Nat.zero_le _⟩ hP (hDa.to rfl) hE hA hS [0, 1, 2] rfl rfl [xo, r, rc] rfl rfl (ci := 4) rfl (q0 := 0) rfl (Nat.le_of_ble_eq_true rfl) hl.1 dL_isSo_255 (fun H locs hP _ hS => ?_)
        have hP : va_P E.1 vwCl [(xo, .inr (4, [.ref r, .ref r2, .ref r3, .ref d, .ref y, .ref q2, .int sf])), (r, .inr (2, [.ref rc])), (rc, .inl (E.2.1, 293, .inl f)), (d, .inr (1, [.ref ch, .ref nu, .int (nI L), .int a, .int b, .int le, .int co, .int mi])), (ch, .inl (E.2.2.1, 80, .inl t)), (nu, .inl (E.2.1, 4, .inl u)), (y, .inr (0, [.ref q, .int (nI o), .int (nI z)])), (q, .inr (3, [.ref w])), (w, .inl (E.2.1, 1758, .inl h)), (aq, .inl (E.2.1, 13, .inl vq)), (af, .inl (E.2.1, 21, .inl vf)), (ad, .inl (E.2.1, 63, .inl vd)), (aw, .inl (E.2.1, 63, .inl vw)), (al, .inl (E.2.1, 63, .inl vl)), (ar, .inl (E.2.1, 63, .inl vr))] H := hP
        refine lv_aload_n hx hb dL_isSo_258 rfl (lv_at hl 7 rfl) ?_
        refine lv_bipush (v := nI 7) hx hb dL_isSo_259 (by decide) ?_
        refine lv_iload hx hb dL_isSo_261 (lv_at hl 0 rfl) ?_
        refine rn_add (a := 7) (b := lowN x 3) hx hb dL_isSo_263 ?_
        refine rn_iald (i := 7 + lowN x 3) hx hb hK hP 9 0 rfl rfl (by omega) (by omega) dL_isSo_264 ?_
        refine lv_icmp_ne (tgt := 316) hx hb dL_isSo_265 (by decide) (fun c9 => absurd e_9 c9) (fun _ => ?_)
        refine lv_aload_n hx hb dL_isSo_268 rfl (lv_at hl 5 rfl) ?_
        refine lv_iload hx hb dL_isSo_269 (lv_at hl 0 rfl) ?_
        refine lv_iconst (v := nI 1) hx hb dL_isSo_271 (by decide) ?_
        refine rwV2 (rest := []) S (c_X7_ofLamp l E xo r r2 r3 d y q2 sf rc f (nI (lowN x 3)) (nI 1)) cd_X7_ofLamp bw_449 ⟨Nat.le_of_ble_eq_true rfl, Nat.le_of_ble_eq_true rfl⟩ ⟨Nat.zero_le _, Nat.zero_le _⟩ hP (hDa.to rfl) hE hA hS [0, 1, 2] rfl rfl [xo, r, rc] rfl rfl (ci := 4) rfl (q0 := 0) rfl (Nat.le_of_ble_eq_true rfl) hl.1 dL_isSo_272 (fun H locs hP _ hS => ?_)
        have hP : va_P E.1 vwCl [(xo, .inr (4, [.ref r, .ref r2, .ref r3, .ref d, .ref y, .ref q2, .int sf])), (r, .inr (2, [.ref rc])), (rc, .inl (E.2.1, 293, .inl f)), (d, .inr (1, [.ref ch, .ref nu, .int (nI L), .int a, .int b, .int le, .int co, .int mi])), (ch, .inl (E.2.2.1, 80, .inl t)), (nu, .inl (E.2.1, 4, .inl u)), (y, .inr (0, [.ref q, .int (nI o), .int (nI z)])), (q, .inr (3, [.ref w])), (w, .inl (E.2.1, 1758, .inl h)), (aq, .inl (E.2.1, 13, .inl vq)), (af, .inl (E.2.1, 21, .inl vf)), (ad, .inl (E.2.1, 63, .inl vd)), (aw, .inl (E.2.1, 63, .inl vw)), (al, .inl (E.2.1, 63, .inl vl)), (ar, .inl (E.2.1, 63, .inl vr))] H := hP
        refine lv_aload_n hx hb dL_isSo_275 rfl (lv_at hl 7 rfl) ?_
        refine lv_bipush (v := nI 7) hx hb dL_isSo_276 (by decide) ?_
        refine lv_iload hx hb dL_isSo_278 (lv_at hl 0 rfl) ?_
        refine rn_add (a := 7) (b := lowN x 3) hx hb dL_isSo_280 ?_
        refine rn_iald (i := 7 + lowN x 3) hx hb hK hP 9 0 rfl rfl (by omega) (by omega) dL_isSo_281 ?_
        refine lv_aload_n hx hb dL_isSo_282 rfl (lv_at hl 7 rfl) ?_
        refine lv_iconst (v := nI 3) hx hb dL_isSo_283 (by decide) ?_
        refine rn_iald (i := 3) hx hb hK hP 9 0 rfl rfl (by omega) (by omega) dL_isSo_284 ?_
        refine lv_imul hx hb dL_isSo_285 ?_
        refine lv_bipush (v := nI 100) hx hb dL_isSo_286 (by decide) ?_
        refine lv_idiv hx hb dL_isSo_288 (by decide) ?_
        refine lv_icmp_ne (tgt := 316) hx hb dL_isSo_289 (by decide) (fun c9 => absurd e_10 c9) (fun _ => ?_)
        refine lv_aload_n hx hb dL_isSo_292 rfl (lv_at hl 5 rfl) ?_
        refine lv_iload hx hb dL_isSo_293 (lv_at hl 0 rfl) ?_
        refine lv_iconst (v := nI 2) hx hb dL_isSo_295 (by decide) ?_
        refine rwV2 (rest := []) S (c_X7_ofLamp l E xo r r2 r3 d y q2 sf rc f (nI (lowN x 3)) (nI 2)) cd_X7_ofLamp bw_449 ⟨Nat.le_of_ble_eq_true rfl, Nat.le_of_ble_eq_true rfl⟩ ⟨Nat.zero_le _, Nat.zero_le _⟩ hP (hDa.to rfl) hE hA hS [0, 1, 2] rfl rfl [xo, r, rc] rfl rfl (ci := 4) rfl (q0 := 0) rfl (Nat.le_of_ble_eq_true rfl) hl.1 dL_isSo_296 (fun H locs hP _ hS => ?_)
        have hP : va_P E.1 vwCl [(xo, .inr (4, [.ref r, .ref r2, .ref r3, .ref d, .ref y, .ref q2, .int sf])), (r, .inr (2, [.ref rc])), (rc, .inl (E.2.1, 293, .inl f)), (d, .inr (1, [.ref ch, .ref nu, .int (nI L), .int a, .int b, .int le, .int co, .int mi])), (ch, .inl (E.2.2.1, 80, .inl t)), (nu, .inl (E.2.1, 4, .inl u)), (y, .inr (0, [.ref q, .int (nI o), .int (nI z)])), (q, .inr (3, [.ref w])), (w, .inl (E.2.1, 1758, .inl h)), (aq, .inl (E.2.1, 13, .inl vq)), (af, .inl (E.2.1, 21, .inl vf)), (ad, .inl (E.2.1, 63, .inl vd)), (aw, .inl (E.2.1, 63, .inl vw)), (al, .inl (E.2.1, 63, .inl vl)), (ar, .inl (E.2.1, 63, .inl vr))] H := hP
        refine lv_aload_n hx hb dL_isSo_299 rfl (lv_at hl 7 rfl) ?_
        refine lv_bipush (v := nI 10) hx hb dL_isSo_300 (by decide) ?_
        refine lv_iload hx hb dL_isSo_302 (lv_at hl 0 rfl) ?_
        refine rn_add (a := 10) (b := lowN x 3) hx hb dL_isSo_304 ?_
        refine rn_iald (i := 10 + lowN x 3) hx hb hK hP 9 0 rfl rfl (by omega) (by omega) dL_isSo_305 ?_
        refine lv_bipush (v := nI 20) hx hb dL_isSo_306 (by decide) ?_
        refine lv_iadd hx hb dL_isSo_308 ?_
        refine lv_icmp_ne (tgt := 316) hx hb dL_isSo_309 (by decide) (fun c9 => absurd e_11 c9) (fun _ => ?_)
        refine lv_iconst (v := nI 1) hx hb dL_isSo_312 (by decide) ?_
        refine lv_goto (tgt := 317) hx hb dL_isSo_313 (by decide) ?_
        refine lv_istore (lv' := [(13, .int (nI 1)), (12, .int (nI (lowN x 3))), (11, .int (lS4 vq vd vw vl n)), (10, .int (lS3 vq vd vl n n)), (9, .int (lS2 vr n)), (8, .int (lS1 vq vr n)), (0, .ref xo), (1, .int x), (2, .ref aq), (3, .ref af), (4, .ref ad), (5, .ref aw), (6, .ref al), (7, .ref ar)]) hx hb dL_isSo_317 hl (by decide) rfl (fun ls hl => ?_)
        refine lv_iconst (v := nI 0) hx hb dL_isSo_319 (by decide) ?_
        refine lv_istore (lv' := [(14, .int (nI 0)), (13, .int (nI 1)), (12, .int (nI (lowN x 3))), (11, .int (lS4 vq vd vw vl n)), (10, .int (lS3 vq vd vl n n)), (9, .int (lS2 vr n)), (8, .int (lS1 vq vr n)), (0, .ref xo), (1, .int x), (2, .ref aq), (3, .ref af), (4, .ref ad), (5, .ref aw), (6, .ref al), (7, .ref ar)]) hx hb dL_isSo_320 hl (by decide) rfl (fun ls hl => ?_)
        refine lv_iload hx hb dL_isSo_322 (lv_at hl 0 rfl) ?_
        refine lv_iconst (v := nI 4) hx hb dL_isSo_324 (by decide) ?_
        refine rn_icmp_ge (a := 0) (b := 4) (tgt := 362) hx hb (by omega) (by omega) dL_isSo_325 (by decide) (fun c_13 => absurd c_13 (by omega)) (fun c_13 => ?_)
        refine lv_iload hx hb dL_isSo_328 (lv_at hl 1 rfl) ?_
        refine lv_if_eq (tgt := 353) hx hb dL_isSo_330 (by decide) (fun c9 => by first | exact absurd c9 (by decide) | exact absurd (by decide) c9) (fun _ => ?_)
        refine lv_aload_n hx hb dL_isSo_333 rfl (lv_at hl 7 rfl) ?_
        refine lv_bipush (v := nI 8) hx hb dL_isSo_334 (by decide) ?_
        refine lv_iload hx hb dL_isSo_336 (lv_at hl 0 rfl) ?_
        refine rn_add (a := 8) (b := 0) hx hb dL_isSo_338 ?_
        refine rwV1 (rest := []) S (c_X7_count l E xo r r2 r3 d y q2 sf rc f ch nu L a b le co mi t u q w o z h n (nI 8) hf hn) cd_X7_count bw_419 ⟨Nat.le_of_ble_eq_true rfl, Nat.le_of_ble_eq_true rfl⟩ ⟨Nat.zero_le _, Nat.zero_le _⟩ hP (hDa.to rfl) hE hA hS [0, 1, 2, 3, 4, 5, 6, 7, 8] rfl rfl [xo, r, rc, d, ch, nu, y, q, w] rfl rfl (ci := 4) rfl (q0 := 0) rfl (Nat.le_of_ble_eq_true rfl) hl.1 dL_isSo_339 (fun H locs hP _ hS => ?_)
        have hP : va_P E.1 vwCl [(xo, .inr (4, [.ref r, .ref r2, .ref r3, .ref d, .ref y, .ref q2, .int sf])), (r, .inr (2, [.ref rc])), (rc, .inl (E.2.1, 293, .inl f)), (d, .inr (1, [.ref ch, .ref nu, .int (nI L), .int a, .int b, .int le, .int co, .int mi])), (ch, .inl (E.2.2.1, 80, .inl t)), (nu, .inl (E.2.1, 4, .inl u)), (y, .inr (0, [.ref q, .int (nI o), .int (nI z)])), (q, .inr (3, [.ref w])), (w, .inl (E.2.1, 1758, .inl h)), (aq, .inl (E.2.1, 13, .inl vq)), (af, .inl (E.2.1, 21, .inl vf)), (ad, .inl (E.2.1, 63, .inl vd)), (aw, .inl (E.2.1, 63, .inl vw)), (al, .inl (E.2.1, 63, .inl vl)), (ar, .inl (E.2.1, 63, .inl vr))] H := hP
        refine lv_aload_n hx hb dL_isSo_342 rfl (lv_at hl 9 rfl) ?_
        refine lv_iload hx hb dL_isSo_343 (lv_at hl 0 rfl) ?_
        refine rn_iald (i := 0) hx hb hK hP 9 0 rfl rfl (by omega) (by omega) dL_isSo_345 ?_
        refine lv_icmp_ne (tgt := 353) hx hb dL_isSo_346 (by decide) (fun c9 => absurd e_12 c9) (fun _ => ?_)
        refine lv_iconst (v := nI 1) hx hb dL_isSo_349 (by decide) ?_
        refine lv_goto (tgt := 354) hx hb dL_isSo_350 (by decide) ?_
        refine lv_istore (lv' := [(13, .int (nI 1)), (14, .int (nI 0)), (12, .int (nI (lowN x 3))), (11, .int (lS4 vq vd vw vl n)), (10, .int (lS3 vq vd vl n n)), (9, .int (lS2 vr n)), (8, .int (lS1 vq vr n)), (0, .ref xo), (1, .int x), (2, .ref aq), (3, .ref af), (4, .ref ad), (5, .ref aw), (6, .ref al), (7, .ref ar)]) hx hb dL_isSo_354 hl (by decide) rfl (fun ls hl => ?_)
        refine rn_inc (a := 0) (d := 1) (lv' := [(14, .int (nI 1)), (13, .int (nI 1)), (12, .int (nI (lowN x 3))), (11, .int (lS4 vq vd vw vl n)), (10, .int (lS3 vq vd vl n n)), (9, .int (lS2 vr n)), (8, .int (lS1 vq vr n)), (0, .ref xo), (1, .int x), (2, .ref aq), (3, .ref af), (4, .ref ad), (5, .ref aw), (6, .ref al), (7, .ref ar)]) hx hb dL_isSo_356 hl (k := 1) rfl (by decide) (by decide) rfl (fun ls hl => ?_)
        refine lv_goto (tgt := 322) hx hb dL_isSo_359 (by decide) ?_
        refine lv_iload hx hb dL_isSo_322 (lv_at hl 0 rfl) ?_
        refine lv_iconst (v := nI 4) hx hb dL_isSo_324 (by decide) ?_
        refine rn_icmp_ge (a := 1) (b := 4) (tgt := 362) hx hb (by omega) (by omega) dL_isSo_325 (by decide) (fun c_15 => absurd c_15 (by omega)) (fun c_15 => ?_)
        refine lv_iload hx hb dL_isSo_328 (lv_at hl 1 rfl) ?_
        refine lv_if_eq (tgt := 353) hx hb dL_isSo_330 (by decide) (fun c9 => by first | exact absurd c9 (by decide) | exact absurd (by decide) c9) (fun _ => ?_)
        refine lv_aload_n hx hb dL_isSo_333 rfl (lv_at hl 7 rfl) ?_
        refine lv_bipush (v := nI 8) hx hb dL_isSo_334 (by decide) ?_
        refine lv_iload hx hb dL_isSo_336 (lv_at hl 0 rfl) ?_
        refine rn_add (a := 8) (b := 1) hx hb dL_isSo_338 ?_
        refine rwV1 (rest := []) S (c_X7_count l E xo r r2 r3 d y q2 sf rc f ch nu L a b le co mi t u q w o z h n (nI 9) hf hn) cd_X7_count bw_419 ⟨Nat.le_of_ble_eq_true rfl, Nat.le_of_ble_eq_true rfl⟩ ⟨Nat.zero_le _, Nat.zero_le _⟩ hP (hDa.to rfl) hE hA hS [0, 1, 2, 3, 4, 5, 6, 7, 8] rfl rfl [xo, r, rc, d, ch, nu, y, q, w] rfl rfl (ci := 4) rfl (q0 := 0) rfl (Nat.le_of_ble_eq_true rfl) hl.1 dL_isSo_339 (fun H locs hP _ hS => ?_)
        have hP : va_P E.1 vwCl [(xo, .inr (4, [.ref r, .ref r2, .ref r3, .ref d, .ref y, .ref q2, .int sf])), (r, .inr (2, [.ref rc])), (rc, .inl (E.2.1, 293, .inl f)), (d, .inr (1, [.ref ch, .ref nu, .int (nI L), .int a, .int b, .int le, .int co, .int mi])), (ch, .inl (E.2.2.1, 80, .inl t)), (nu, .inl (E.2.1, 4, .inl u)), (y, .inr (0, [.ref q, .int (nI o), .int (nI z)])), (q, .inr (3, [.ref w])), (w, .inl (E.2.1, 1758, .inl h)), (aq, .inl (E.2.1, 13, .inl vq)), (af, .inl (E.2.1, 21, .inl vf)), (ad, .inl (E.2.1, 63, .inl vd)), (aw, .inl (E.2.1, 63, .inl vw)), (al, .inl (E.2.1, 63, .inl vl)), (ar, .inl (E.2.1, 63, .inl vr))] H := hP
        refine lv_aload_n hx hb dL_isSo_342 rfl (lv_at hl 9 rfl) ?_
        refine lv_iload hx hb dL_isSo_343 (lv_at hl 0 rfl) ?_
        refine rn_iald (i := 1) hx hb hK hP 9 0 rfl rfl (by omega) (by omega) dL_isSo_345 ?_
        refine lv_icmp_ne (tgt := 353) hx hb dL_isSo_346 (by decide) (fun c9 => absurd e_13 c9) (fun _ => ?_)
        refine lv_iconst (v := nI 1) hx hb dL_isSo_349 (by decide) ?_
        refine lv_goto (tgt := 354) hx hb dL_isSo_350 (by decide) ?_
        refine lv_istore (lv' := [(13, .int (nI 1)), (14, .int (nI 1)), (12, .int (nI (lowN x 3))), (11, .int (lS4 vq vd vw vl n)), (10, .int (lS3 vq vd vl n n)), (9, .int (lS2 vr n)), (8, .int (lS1 vq vr n)), (0, .ref xo), (1, .int x), (2, .ref aq), (3, .ref af), (4, .ref ad), (5, .ref aw), (6, .ref al), (7, .ref ar)]) hx hb dL_isSo_354 hl (by decide) rfl (fun ls hl => ?_)
        refine rn_inc (a := 1) (d := 1) (lv' := [(14, .int (nI 2)), (13, .int (nI 1)), (12, .int (nI (lowN x 3))), (11, .int (lS4 vq vd vw vl n)), (10, .int (lS3 vq vd vl n n)), (9, .int (lS2 vr n)), (8, .int (lS1 vq vr n)), (0, .ref xo), (1, .int x), (2, .ref aq), (3, .ref af), (4, .ref ad), (5, .ref aw), (6, .ref al), (7, .ref ar)]) hx hb dL_isSo_356 hl (k := 1) rfl (by decide) (by decide) rfl (fun ls hl => ?_)
        refine lv_goto (tgt := 322) hx hb dL_isSo_359 (by decide) ?_
        refine lv_iload hx hb dL_isSo_322 (lv_at hl 0 rfl) ?_
        refine lv_iconst (v := nI 4) hx hb dL_isSo_324 (by decide) ?_
        refine rn_icmp_ge (a := 2) (b := 4) (tgt := 362) hx hb (by omega) (by omega) dL_isSo_325 (by decide) (fun c_17 => absurd c_17 (by omega)) (fun c_17 => ?_)
        refine lv_iload hx hb dL_isSo_328 (lv_at hl 1 rfl) ?_
        refine lv_if_eq (tgt := 353) hx hb dL_isSo_330 (by decide) (fun c9 => by first | exact absurd c9 (by decide) | exact absurd (by decide) c9) (fun _ => ?_)
        refine lv_aload_n hx hb dL_isSo_333 rfl (lv_at hl 7 rfl) ?_
        refine lv_bipush (v := nI 8) hx hb dL_isSo_334 (by decide) ?_
        refine lv_iload hx hb dL_isSo_336 (lv_at hl 0 rfl) ?_
        refine rn_add (a := 8) (b := 2) hx hb dL_isSo_338 ?_
        refine rwV1 (rest := []) S (c_X7_count l E xo r r2 r3 d y q2 sf rc f ch nu L a b le co mi t u q w o z h n (nI 10) hf hn) cd_X7_count bw_419 ⟨Nat.le_of_ble_eq_true rfl, Nat.le_of_ble_eq_true rfl⟩ ⟨Nat.zero_le _, Nat.zero_le _⟩ hP (hDa.to rfl) hE hA hS [0, 1, 2, 3, 4, 5, 6, 7, 8] rfl rfl [xo, r, rc, d, ch, nu, y, q, w] rfl rfl (ci := 4) rfl (q0 := 0) rfl (Nat.le_of_ble_eq_true rfl) hl.1 dL_isSo_339 (fun H locs hP _ hS => ?_)
        have hP : va_P E.1 vwCl [(xo, .inr (4, [.ref r, .ref r2, .ref r3, .ref d, .ref y, .ref q2, .int sf])), (r, .inr (2, [.ref rc])), (rc, .inl (E.2.1, 293, .inl f)), (d, .inr (1, [.ref ch, .ref nu, .int (nI L), .int a, .int b, .int le, .int co, .int mi])), (ch, .inl (E.2.2.1, 80, .inl t)), (nu, .inl (E.2.1, 4, .inl u)), (y, .inr (0, [.ref q, .int (nI o), .int (nI z)])), (q, .inr (3, [.ref w])), (w, .inl (E.2.1, 1758, .inl h)), (aq, .inl (E.2.1, 13, .inl vq)), (af, .inl (E.2.1, 21, .inl vf)), (ad, .inl (E.2.1, 63, .inl vd)), (aw, .inl (E.2.1, 63, .inl vw)), (al, .inl (E.2.1, 63, .inl vl)), (ar, .inl (E.2.1, 63, .inl vr))] H := hP
        refine lv_aload_n hx hb dL_isSo_342 rfl (lv_at hl 9 rfl) ?_
        refine lv_iload hx hb dL_isSo_343 (lv_at hl 0 rfl) ?_
        refine rn_iald (i := 2) hx hb hK hP 9 0 rfl rfl (by omega) (by omega) dL_isSo_345 ?_
        refine lv_icmp_ne (tgt := 353) hx hb dL_isSo_346 (by decide) (fun c9 => absurd e_14 c9) (fun _ => ?_)
        refine lv_iconst (v := nI 1) hx hb dL_isSo_349 (by decide) ?_
        refine lv_goto (tgt := 354) hx hb dL_isSo_350 (by decide) ?_
        refine lv_istore (lv' := [(13, .int (nI 1)), (14, .int (nI 2)), (12, .int (nI (lowN x 3))), (11, .int (lS4 vq vd vw vl n)), (10, .int (lS3 vq vd vl n n)), (9, .int (lS2 vr n)), (8, .int (lS1 vq vr n)), (0, .ref xo), (1, .int x), (2, .ref aq), (3, .ref af), (4, .ref ad), (5, .ref aw), (6, .ref al), (7, .ref ar)]) hx hb dL_isSo_354 hl (by decide) rfl (fun ls hl => ?_)
        refine rn_inc (a := 2) (d := 1) (lv' := [(14, .int (nI 3)), (13, .int (nI 1)), (12, .int (nI (lowN x 3))), (11, .int (lS4 vq vd vw vl n)), (10, .int (lS3 vq vd vl n n)), (9, .int (lS2 vr n)), (8, .int (lS1 vq vr n)), (0, .ref xo), (1, .int x), (2, .ref aq), (3, .ref af), (4, .ref ad), (5, .ref aw), (6, .ref al), (7, .ref ar)]) hx hb dL_isSo_356 hl (k := 1) rfl (by decide) (by decide) rfl (fun ls hl => ?_)
        refine lv_goto (tgt := 322) hx hb dL_isSo_359 (by decide) ?_
        refine lv_iload hx hb dL_isSo_322 (lv_at hl 0 rfl) ?_
        refine lv_iconst (v := nI 4) hx hb dL_isSo_324 (by decide) ?_
        refine rn_icmp_ge (a := 3) (b := 4) (tgt := 362) hx hb (by omega) (by omega) dL_isSo_325 (by decide) (fun c_19 => absurd c_19 (by omega)) (fun c_19 => ?_)
        refine lv_iload hx hb dL_isSo_328 (lv_at hl 1 rfl) ?_
        refine lv_if_eq (tgt := 353) hx hb dL_isSo_330 (by decide) (fun c9 => by first | exact absurd c9 (by decide) | exact absurd (by decide) c9) (fun _ => ?_)
        refine lv_aload_n hx hb dL_isSo_333 rfl (lv_at hl 7 rfl) ?_
        refine lv_bipush (v := nI 8) hx hb dL_isSo_334 (by decide) ?_
        refine lv_iload hx hb dL_isSo_336 (lv_at hl 0 rfl) ?_
        refine rn_add (a := 8) (b := 3) hx hb dL_isSo_338 ?_
        refine rwV1 (rest := []) S (c_X7_count l E xo r r2 r3 d y q2 sf rc f ch nu L a b le co mi t u q w o z h n (nI 11) hf hn) cd_X7_count bw_419 ⟨Nat.le_of_ble_eq_true rfl, Nat.le_of_ble_eq_true rfl⟩ ⟨Nat.zero_le _, Nat.zero_le _⟩ hP (hDa.to rfl) hE hA hS [0, 1, 2, 3, 4, 5, 6, 7, 8] rfl rfl [xo, r, rc, d, ch, nu, y, q, w] rfl rfl (ci := 4) rfl (q0 := 0) rfl (Nat.le_of_ble_eq_true rfl) hl.1 dL_isSo_339 (fun H locs hP _ hS => ?_)
        have hP : va_P E.1 vwCl [(xo, .inr (4, [.ref r, .ref r2, .ref r3, .ref d, .ref y, .ref q2, .int sf])), (r, .inr (2, [.ref rc])), (rc, .inl (E.2.1, 293, .inl f)), (d, .inr (1, [.ref ch, .ref nu, .int (nI L), .int a, .int b, .int le, .int co, .int mi])), (ch, .inl (E.2.2.1, 80, .inl t)), (nu, .inl (E.2.1, 4, .inl u)), (y, .inr (0, [.ref q, .int (nI o), .int (nI z)])), (q, .inr (3, [.ref w])), (w, .inl (E.2.1, 1758, .inl h)), (aq, .inl (E.2.1, 13, .inl vq)), (af, .inl (E.2.1, 21, .inl vf)), (ad, .inl (E.2.1, 63, .inl vd)), (aw, .inl (E.2.1, 63, .inl vw)), (al, .inl (E.2.1, 63, .inl vl)), (ar, .inl (E.2.1, 63, .inl vr))] H := hP
        refine lv_aload_n hx hb dL_isSo_342 rfl (lv_at hl 9 rfl) ?_
        refine lv_iload hx hb dL_isSo_343 (lv_at hl 0 rfl) ?_
        refine rn_iald (i := 3) hx hb hK hP 9 0 rfl rfl (by omega) (by omega) dL_isSo_345 ?_
        refine lv_icmp_ne (tgt := 353) hx hb dL_isSo_346 (by decide) (fun c9 => absurd e_15 c9) (fun _ => ?_)
        refine lv_iconst (v := nI 1) hx hb dL_isSo_349 (by decide) ?_
        refine lv_goto (tgt := 354) hx hb dL_isSo_350 (by decide) ?_
        refine lv_istore (lv' := [(13, .int (nI 1)), (14, .int (nI 3)), (12, .int (nI (lowN x 3))), (11, .int (lS4 vq vd vw vl n)), (10, .int (lS3 vq vd vl n n)), (9, .int (lS2 vr n)), (8, .int (lS1 vq vr n)), (0, .ref xo), (1, .int x), (2, .ref aq), (3, .ref af), (4, .ref ad), (5, .ref aw), (6, .ref al), (7, .ref ar)]) hx hb dL_isSo_354 hl (by decide) rfl (fun ls hl => ?_)
        refine rn_inc (a := 3) (d := 1) (lv' := [(14, .int (nI 4)), (13, .int (nI 1)), (12, .int (nI (lowN x 3))), (11, .int (lS4 vq vd vw vl n)), (10, .int (lS3 vq vd vl n n)), (9, .int (lS2 vr n)), (8, .int (lS1 vq vr n)), (0, .ref xo), (1, .int x), (2, .ref aq), (3, .ref af), (4, .ref ad), (5, .ref aw), (6, .ref al), (7, .ref ar)]) hx hb dL_isSo_356 hl (k := 1) rfl (by decide) (by decide) rfl (fun ls hl => ?_)
        refine lv_goto (tgt := 322) hx hb dL_isSo_359 (by decide) ?_
        refine lv_iload hx hb dL_isSo_322 (lv_at hl 0 rfl) ?_
        refine lv_iconst (v := nI 4) hx hb dL_isSo_324 (by decide) ?_
        refine rn_icmp_ge (a := 4) (b := 4) (tgt := 362) hx hb (by omega) (by omega) dL_isSo_325 (by decide) (fun c_21 => ?_) (fun c_21 => absurd c_21 (by omega))
        refine lv_iload hx hb dL_isSo_362 (lv_at hl 1 rfl) ?_
        refine lv_if_eq (tgt := 404) hx hb dL_isSo_364 (by decide) (fun c9 => by first | exact absurd c9 (by decide) | exact absurd (by decide) c9) (fun _ => ?_)
        refine lv_aload_n hx hb dL_isSo_367 rfl (lv_at hl 7 rfl) ?_
        refine lv_aload_n hx hb dL_isSo_368 rfl (lv_at hl 9 rfl) ?_
        refine lv_iconst (v := nI 4) hx hb dL_isSo_369 (by decide) ?_
        refine rn_iald (i := 4) hx hb hK hP 9 0 rfl rfl (by omega) (by omega) dL_isSo_370 ?_
        refine W.eq (congrArg (fun z9 => F0 m 371 ls (.int z9 :: [.ref xo])) (show vq 4 = nI n from hq)) ?_
        refine lv_iconst (v := nI 0) hx hb dL_isSo_371 (by decide) ?_
        refine rwV2 (rest := []) S (c_X7_of l E xo r r2 r3 d y q2 sf rc f n (nI n) (nI 0) hf hn) cd_X7_of bw_455 ⟨Nat.le_of_ble_eq_true rfl, Nat.le_of_ble_eq_true rfl⟩ ⟨Nat.zero_le _, Nat.zero_le _⟩ hP (hDa.to rfl) hE hA hS [0, 1, 2] rfl rfl [xo, r, rc] rfl rfl (ci := 4) rfl (q0 := 0) rfl (Nat.le_of_ble_eq_true rfl) hl.1 dL_isSo_372 (fun H locs hP _ hS => ?_)
        have hP : va_P E.1 vwCl [(xo, .inr (4, [.ref r, .ref r2, .ref r3, .ref d, .ref y, .ref q2, .int sf])), (r, .inr (2, [.ref rc])), (rc, .inl (E.2.1, 293, .inl f)), (d, .inr (1, [.ref ch, .ref nu, .int (nI L), .int a, .int b, .int le, .int co, .int mi])), (ch, .inl (E.2.2.1, 80, .inl t)), (nu, .inl (E.2.1, 4, .inl u)), (y, .inr (0, [.ref q, .int (nI o), .int (nI z)])), (q, .inr (3, [.ref w])), (w, .inl (E.2.1, 1758, .inl h)), (aq, .inl (E.2.1, 13, .inl vq)), (af, .inl (E.2.1, 21, .inl vf)), (ad, .inl (E.2.1, 63, .inl vd)), (aw, .inl (E.2.1, 63, .inl vw)), (al, .inl (E.2.1, 63, .inl vl)), (ar, .inl (E.2.1, 63, .inl vr))] H := hP
        refine lv_iconst (v := (-1)) hx hb dL_isSo_375 (by decide) ?_
        refine lv_icmp_ne (tgt := 404) hx hb dL_isSo_376 (by decide) (fun c9 => absurd e_16 c9) (fun _ => ?_)
        refine lv_aload_n hx hb dL_isSo_379 rfl (lv_at hl 7 rfl) ?_
        refine lv_iload_n hx hb dL_isSo_380 rfl (lv_at hl 8 rfl) ?_
        refine lv_iconst (v := nI 3) hx hb dL_isSo_381 (by decide) ?_
        refine lv_ishr hx hb dL_isSo_382 ?_
        refine lv_iconst (v := nI 3) hx hb dL_isSo_383 (by decide) ?_
        refine rwS2 (rest := [.ref xo]) S (c_L_low l E (x >>> (nI 3 &&& 31)) 3 (by omega) (by omega)) cd_L_low bw_140 ⟨Nat.le_of_ble_eq_true rfl, Nat.le_of_ble_eq_true rfl⟩ ⟨Nat.zero_le _, Nat.zero_le _⟩ hP (hDa.to rfl) hE hA hS [] rfl rfl [] rfl rfl (Nat.le_of_ble_eq_true rfl) hl.1 dL_isSo_384 (fun H locs hP _ hS => ?_)
        have hP : va_P E.1 vwCl [(xo, .inr (4, [.ref r, .ref r2, .ref r3, .ref d, .ref y, .ref q2, .int sf])), (r, .inr (2, [.ref rc])), (rc, .inl (E.2.1, 293, .inl f)), (d, .inr (1, [.ref ch, .ref nu, .int (nI L), .int a, .int b, .int le, .int co, .int mi])), (ch, .inl (E.2.2.1, 80, .inl t)), (nu, .inl (E.2.1, 4, .inl u)), (y, .inr (0, [.ref q, .int (nI o), .int (nI z)])), (q, .inr (3, [.ref w])), (w, .inl (E.2.1, 1758, .inl h)), (aq, .inl (E.2.1, 13, .inl vq)), (af, .inl (E.2.1, 21, .inl vf)), (ad, .inl (E.2.1, 63, .inl vd)), (aw, .inl (E.2.1, 63, .inl vw)), (al, .inl (E.2.1, 63, .inl vl)), (ar, .inl (E.2.1, 63, .inl vr))] H := hP
        refine lv_aload_n hx hb dL_isSo_387 rfl (lv_at hl 9 rfl) ?_
        refine lv_aload hx hb dL_isSo_388 (lv_at hl 11 rfl) ?_
        refine lv_aload hx hb dL_isSo_390 (lv_at hl 12 rfl) ?_
        refine lv_aload hx hb dL_isSo_392 (lv_at hl 13 rfl) ?_
        refine rwS6 (rest := []) S (c_L_isBest l E xo r r2 r3 d y q2 sf rc f (lowN (x >>> (nI 3 &&& 31)) 3) aq ad aw al vq vd vw vl n hf hq hn (by omega) (hbe _ hz3b)) cd_L_isBest bw_464 ⟨Nat.le_of_ble_eq_true rfl, Nat.le_of_ble_eq_true rfl⟩ ⟨Nat.zero_le _, Nat.zero_le _⟩ hP (hDa.to rfl) hE hA hS [0, 1, 2, 9, 11, 12, 13] rfl rfl [xo, r, rc, aq, ad, aw, al] rfl rfl (Nat.le_of_ble_eq_true rfl) hl.1 dL_isSo_394 (fun H locs hP _ hS => ?_)
        have hP : va_P E.1 vwCl [(xo, .inr (4, [.ref r, .ref r2, .ref r3, .ref d, .ref y, .ref q2, .int sf])), (r, .inr (2, [.ref rc])), (rc, .inl (E.2.1, 293, .inl f)), (d, .inr (1, [.ref ch, .ref nu, .int (nI L), .int a, .int b, .int le, .int co, .int mi])), (ch, .inl (E.2.2.1, 80, .inl t)), (nu, .inl (E.2.1, 4, .inl u)), (y, .inr (0, [.ref q, .int (nI o), .int (nI z)])), (q, .inr (3, [.ref w])), (w, .inl (E.2.1, 1758, .inl h)), (aq, .inl (E.2.1, 13, .inl vq)), (af, .inl (E.2.1, 21, .inl vf)), (ad, .inl (E.2.1, 63, .inl vd)), (aw, .inl (E.2.1, 63, .inl vw)), (al, .inl (E.2.1, 63, .inl vl)), (ar, .inl (E.2.1, 63, .inl vr))] H := hP
        refine lv_if_eq (tgt := 404) hx hb dL_isSo_397 (by decide) (fun c9 => by first | exact absurd c9 (by decide) | exact absurd (by decide) c9) (fun _ => ?_)
        refine lv_iconst (v := nI 1) hx hb dL_isSo_400 (by decide) ?_
        refine lv_goto (tgt := 405) hx hb dL_isSo_401 (by decide) ?_
        refine lv_istore (lv' := [(13, .int (nI 1)), (14, .int (nI 4)), (12, .int (nI (lowN x 3))), (11, .int (lS4 vq vd vw vl n)), (10, .int (lS3 vq vd vl n n)), (9, .int (lS2 vr n)), (8, .int (lS1 vq vr n)), (0, .ref xo), (1, .int x), (2, .ref aq), (3, .ref af), (4, .ref ad), (5, .ref aw), (6, .ref al), (7, .ref ar)]) hx hb dL_isSo_405 hl (by decide) rfl (fun ls hl => ?_)
        refine lv_iload hx hb dL_isSo_407 (lv_at hl 0 rfl) ?_
        refine lv_if_eq (tgt := 454) hx hb dL_isSo_409 (by decide) (fun c9 => by first | exact absurd c9 (by decide) | exact absurd (by decide) c9) (fun _ => ?_)
        refine lv_aload_n hx hb dL_isSo_412 rfl (lv_at hl 9 rfl) ?_
        refine lv_iconst (v := nI 4) hx hb dL_isSo_413 (by decide) ?_
        refine rn_iald (i := 4) hx hb hK hP 9 0 rfl rfl (by omega) (by omega) dL_isSo_414 ?_
        refine W.eq (congrArg (fun z9 => F0 m 415 ls (.int z9 :: [])) (show vq 4 = nI n from hq)) ?_
        refine rn_if_eq (a := n) (tgt := 450) hx hb (by omega) dL_isSo_415 (by decide) (fun c_23 => ?_) (fun c_23 => ?_)
        · refine lv_iconst (v := nI 1) hx hb dL_isSo_450 (by decide) ?_
          refine lv_goto (tgt := 455) hx hb dL_isSo_451 (by decide) ?_
          exact hret _ _ _ _ _ _ rfl rfl (by decide) hP hS dL_isSo_455
        · refine lv_aload_n hx hb dL_isSo_418 rfl (lv_at hl 7 rfl) ?_
          refine lv_iload_n hx hb dL_isSo_419 rfl (lv_at hl 8 rfl) ?_
          refine lv_iconst (v := nI 5) hx hb dL_isSo_420 (by decide) ?_
          refine lv_ishr hx hb dL_isSo_421 ?_
          refine lv_aload_n hx hb dL_isSo_422 rfl (lv_at hl 9 rfl) ?_
          refine lv_iconst (v := nI 4) hx hb dL_isSo_423 (by decide) ?_
          refine rn_iald (i := 4) hx hb hK hP 9 0 rfl rfl (by omega) (by omega) dL_isSo_424 ?_
          refine W.eq (congrArg (fun z9 => F0 m 425 ls (.int z9 :: [.int (x >>> (nI 5 &&& 31)), .ref xo])) (show vq 4 = nI n from hq)) ?_
          refine rwS2 (rest := [.ref xo]) S (c_L_low l E (x >>> (nI 5 &&& 31)) n (by omega) (by omega)) cd_L_low bw_140 ⟨Nat.le_of_ble_eq_true rfl, Nat.le_of_ble_eq_true rfl⟩ ⟨Nat.zero_le _, Nat.zero_le _⟩ hP (hDa.to rfl) hE hA hS [] rfl rfl [] rfl rfl (Nat.le_of_ble_eq_true rfl) hl.1 dL_isSo_425 (fun H locs hP _ hS => ?_)
          have hP : va_P E.1 vwCl [(xo, .inr (4, [.ref r, .ref r2, .ref r3, .ref d, .ref y, .ref q2, .int sf])), (r, .inr (2, [.ref rc])), (rc, .inl (E.2.1, 293, .inl f)), (d, .inr (1, [.ref ch, .ref nu, .int (nI L), .int a, .int b, .int le, .int co, .int mi])), (ch, .inl (E.2.2.1, 80, .inl t)), (nu, .inl (E.2.1, 4, .inl u)), (y, .inr (0, [.ref q, .int (nI o), .int (nI z)])), (q, .inr (3, [.ref w])), (w, .inl (E.2.1, 1758, .inl h)), (aq, .inl (E.2.1, 13, .inl vq)), (af, .inl (E.2.1, 21, .inl vf)), (ad, .inl (E.2.1, 63, .inl vd)), (aw, .inl (E.2.1, 63, .inl vw)), (al, .inl (E.2.1, 63, .inl vl)), (ar, .inl (E.2.1, 63, .inl vr))] H := hP
          have hzn := lowN_lt (x >>> (nI 5 &&& 31)) (m := n) (by omega)
          refine lv_iload hx hb dL_isSo_428 (lv_at hl 2 rfl) ?_
          refine lv_iload_n hx hb dL_isSo_430 rfl (lv_at hl 8 rfl) ?_
          refine lv_bipush (v := nI 10) hx hb dL_isSo_431 (by decide) ?_
          refine lv_ishr hx hb dL_isSo_433 ?_
          refine lv_aload_n hx hb dL_isSo_434 rfl (lv_at hl 9 rfl) ?_
          refine lv_aload_n hx hb dL_isSo_435 rfl (lv_at hl 10 rfl) ?_
          refine lv_aload hx hb dL_isSo_436 (lv_at hl 11 rfl) ?_
          refine lv_aload hx hb dL_isSo_438 (lv_at hl 12 rfl) ?_
          refine lv_aload hx hb dL_isSo_440 (lv_at hl 13 rfl) ?_
          refine lv_aload hx hb dL_isSo_442 (lv_at hl 14 rfl) ?_
          refine rwS10 (rest := []) S (c_L_isShot l E xo r r2 r3 d y q2 sf rc f (lowN (x >>> (nI 5 &&& 31)) n) (lowN x 3) (x >>> (nI 10 &&& 31)) aq af ad aw al ar vq vf vd vw vl vr n hf hq hn (by omega) (by omega) (hsh _ _ _ hzn hz3)) cd_L_isShot bw_481 ⟨Nat.le_of_ble_eq_true rfl, Nat.le_of_ble_eq_true rfl⟩ ⟨Nat.zero_le _, Nat.zero_le _⟩ hP (hDa.to rfl) hE hA hS [0, 1, 2, 9, 10, 11, 12, 13, 14] rfl rfl [xo, r, rc, aq, af, ad, aw, al, ar] rfl rfl (Nat.le_of_ble_eq_true rfl) hl.1 dL_isSo_444 (fun H locs hP _ hS => ?_)
          have hP : va_P E.1 vwCl [(xo, .inr (4, [.ref r, .ref r2, .ref r3, .ref d, .ref y, .ref q2, .int sf])), (r, .inr (2, [.ref rc])), (rc, .inl (E.2.1, 293, .inl f)), (d, .inr (1, [.ref ch, .ref nu, .int (nI L), .int a, .int b, .int le, .int co, .int mi])), (ch, .inl (E.2.2.1, 80, .inl t)), (nu, .inl (E.2.1, 4, .inl u)), (y, .inr (0, [.ref q, .int (nI o), .int (nI z)])), (q, .inr (3, [.ref w])), (w, .inl (E.2.1, 1758, .inl h)), (aq, .inl (E.2.1, 13, .inl vq)), (af, .inl (E.2.1, 21, .inl vf)), (ad, .inl (E.2.1, 63, .inl vd)), (aw, .inl (E.2.1, 63, .inl vw)), (al, .inl (E.2.1, 63, .inl vl)), (ar, .inl (E.2.1, 63, .inl vr))] H := hP
          refine lv_if_eq (tgt := 454) hx hb dL_isSo_447 (by decide) (fun c9 => by first | exact absurd c9 (by decide) | exact absurd (by decide) c9) (fun _ => ?_)
          refine lv_iconst (v := nI 1) hx hb dL_isSo_450 (by decide) ?_
          refine lv_goto (tgt := 455) hx hb dL_isSo_451 (by decide) ?_
          exact hret _ _ _ _ _ _ rfl rfl (by decide) hP hS dL_isSo_455
      · refine lv_iload hx hb dL_isSo_23 (lv_at hl 4 rfl) ?_
        refine lv_iload hx hb dL_isSo_25 (lv_at hl 0 rfl) ?_
        refine lv_aload_n hx hb dL_isSo_27 rfl (lv_at hl 7 rfl) ?_
        refine lv_aload hx hb dL_isSo_28 (lv_at hl 12 rfl) ?_
        refine rwS3 (rest := [.int (lS1 vq vr k)]) S (c_L_isBad l E k aq ar vq vr (by omega)) cd_L_isBad bw_410 ⟨Nat.le_of_ble_eq_true rfl, Nat.le_of_ble_eq_true rfl⟩ ⟨Nat.zero_le _, Nat.zero_le _⟩ hP (hDa.to rfl) hE hA hS [9, 14] rfl rfl [aq, ar] rfl rfl (Nat.le_of_ble_eq_true rfl) hl.1 dL_isSo_30 (fun H locs hP _ hS => ?_)
        have hP : va_P E.1 vwCl [(xo, .inr (4, [.ref r, .ref r2, .ref r3, .ref d, .ref y, .ref q2, .int sf])), (r, .inr (2, [.ref rc])), (rc, .inl (E.2.1, 293, .inl f)), (d, .inr (1, [.ref ch, .ref nu, .int (nI L), .int a, .int b, .int le, .int co, .int mi])), (ch, .inl (E.2.2.1, 80, .inl t)), (nu, .inl (E.2.1, 4, .inl u)), (y, .inr (0, [.ref q, .int (nI o), .int (nI z)])), (q, .inr (3, [.ref w])), (w, .inl (E.2.1, 1758, .inl h)), (aq, .inl (E.2.1, 13, .inl vq)), (af, .inl (E.2.1, 21, .inl vf)), (ad, .inl (E.2.1, 63, .inl vd)), (aw, .inl (E.2.1, 63, .inl vw)), (al, .inl (E.2.1, 63, .inl vl)), (ar, .inl (E.2.1, 63, .inl vr))] H := hP
        refine (fun (hj : ∀ (H : Heap) (locs : List Loc), va_P E.1 vwCl [(xo, .inr (4, [.ref r, .ref r2, .ref r3, .ref d, .ref y, .ref q2, .int sf])), (r, .inr (2, [.ref rc])), (rc, .inl (E.2.1, 293, .inl f)), (d, .inr (1, [.ref ch, .ref nu, .int (nI L), .int a, .int b, .int le, .int co, .int mi])), (ch, .inl (E.2.2.1, 80, .inl t)), (nu, .inl (E.2.1, 4, .inl u)), (y, .inr (0, [.ref q, .int (nI o), .int (nI z)])), (q, .inr (3, [.ref w])), (w, .inl (E.2.1, 1758, .inl h)), (aq, .inl (E.2.1, 13, .inl vq)), (af, .inl (E.2.1, 21, .inl vf)), (ad, .inl (E.2.1, 63, .inl vd)), (aw, .inl (E.2.1, 63, .inl vw)), (al, .inl (E.2.1, 63, .inl vl)), (ar, .inl (E.2.1, 63, .inl vr))] H → va_S A s.heap H locs → W pg l e (rq 8) s m ([.ref xo, .int x, .ref aq, .ref af, .ref ad, .ref aw, .ref al, .ref ar] : List Value).toArray below meth c H locs 0 0 Q (F0 m 44 ls [.int (if lBa vq vr k = 0 then nI 0 else (nI 1) <<< (nI k &&& 31)), .int (lS1 vq vr k)])) => ?_) ?_
        · refine lv_if_eq (tgt := 43) hx hb dL_isSo_33 (by decide) (fun c_24 => ?_) (fun c_24 => ?_)
          · refine lv_iconst (v := nI 0) hx hb dL_isSo_43 (by decide) ?_
            have hj9 := hj _ _ hP hS
            rw [if_pos c_24] at hj9
            exact hj9
          · refine lv_iconst (v := nI 1) hx hb dL_isSo_36 (by decide) ?_
            refine lv_iload hx hb dL_isSo_37 (lv_at hl 0 rfl) ?_
            refine lv_ishl hx hb dL_isSo_39 ?_
            refine lv_goto (tgt := 44) hx hb dL_isSo_40 (by decide) ?_
            have hj9 := hj _ _ hP hS
            rw [if_neg c_24] at hj9
            exact hj9
        intro H locs hP hS
        refine lv_ior hx hb dL_isSo_44 ?_
        refine lv_istore (lv' := [(8, .int ((lS1 vq vr k) ||| (if lBa vq vr k = 0 then nI 0 else (nI 1) <<< (nI k &&& 31)))), (12, .int (nI k)), (11, .int (lS4 vq vd vw vl k)), (10, .int (lS3 vq vd vl n k)), (9, .int (lS2 vr k)), (0, .ref xo), (1, .int x), (2, .ref aq), (3, .ref af), (4, .ref ad), (5, .ref aw), (6, .ref al), (7, .ref ar)]) hx hb dL_isSo_45 hl (by decide) rfl (fun ls hl => ?_)
        refine lv_iload hx hb dL_isSo_47 (lv_at hl 4 rfl) ?_
        refine lv_aload hx hb dL_isSo_49 (lv_at hl 12 rfl) ?_
        refine lv_iconst (v := nI 3) hx hb dL_isSo_51 (by decide) ?_
        refine lv_iload hx hb dL_isSo_52 (lv_at hl 1 rfl) ?_
        refine rn_mul (a := 3) (b := k) hx hb dL_isSo_54 ?_
        refine rn_iald (i := 3 * k) hx hb hK hP 14 0 rfl rfl (by omega) (by omega) dL_isSo_55 ?_
        refine (fun (hj : ∀ (H : Heap) (locs : List Loc), va_P E.1 vwCl [(xo, .inr (4, [.ref r, .ref r2, .ref r3, .ref d, .ref y, .ref q2, .int sf])), (r, .inr (2, [.ref rc])), (rc, .inl (E.2.1, 293, .inl f)), (d, .inr (1, [.ref ch, .ref nu, .int (nI L), .int a, .int b, .int le, .int co, .int mi])), (ch, .inl (E.2.2.1, 80, .inl t)), (nu, .inl (E.2.1, 4, .inl u)), (y, .inr (0, [.ref q, .int (nI o), .int (nI z)])), (q, .inr (3, [.ref w])), (w, .inl (E.2.1, 1758, .inl h)), (aq, .inl (E.2.1, 13, .inl vq)), (af, .inl (E.2.1, 21, .inl vf)), (ad, .inl (E.2.1, 63, .inl vd)), (aw, .inl (E.2.1, 63, .inl vw)), (al, .inl (E.2.1, 63, .inl vl)), (ar, .inl (E.2.1, 63, .inl vr))] H → va_S A s.heap H locs → W pg l e (rq 8) s m ([.ref xo, .int x, .ref aq, .ref af, .ref ad, .ref aw, .ref al, .ref ar] : List Value).toArray below meth c H locs 0 0 Q (F0 m 67 ls [.int (if vr (3 * k) ≤ 0 then nI 0 else (nI 1) <<< (nI k &&& 31)), .int (lS2 vr k)])) => ?_) ?_
        · refine lv_if_le (tgt := 66) hx hb dL_isSo_56 (by decide) (fun c_25 => ?_) (fun c_25 => ?_)
          · refine lv_iconst (v := nI 0) hx hb dL_isSo_66 (by decide) ?_
            have hj9 := hj _ _ hP hS
            rw [if_pos c_25] at hj9
            exact hj9
          · refine lv_iconst (v := nI 1) hx hb dL_isSo_59 (by decide) ?_
            refine lv_iload hx hb dL_isSo_60 (lv_at hl 1 rfl) ?_
            refine lv_ishl hx hb dL_isSo_62 ?_
            refine lv_goto (tgt := 67) hx hb dL_isSo_63 (by decide) ?_
            have hj9 := hj _ _ hP hS
            rw [if_neg c_25] at hj9
            exact hj9
        intro H locs hP hS
        refine lv_ior hx hb dL_isSo_67 ?_
        refine lv_istore (lv' := [(9, .int ((lS2 vr k) ||| (if vr (3 * k) ≤ 0 then nI 0 else (nI 1) <<< (nI k &&& 31)))), (8, .int ((lS1 vq vr k) ||| (if lBa vq vr k = 0 then nI 0 else (nI 1) <<< (nI k &&& 31)))), (12, .int (nI k)), (11, .int (lS4 vq vd vw vl k)), (10, .int (lS3 vq vd vl n k)), (0, .ref xo), (1, .int x), (2, .ref aq), (3, .ref af), (4, .ref ad), (5, .ref aw), (6, .ref al), (7, .ref ar)]) hx hb dL_isSo_68 hl (by decide) rfl (fun ls hl => ?_)
        refine lv_iload hx hb dL_isSo_70 (lv_at hl 4 rfl) ?_
        refine lv_iload hx hb dL_isSo_72 (lv_at hl 2 rfl) ?_
        refine lv_aload_n hx hb dL_isSo_74 rfl (lv_at hl 7 rfl) ?_
        refine lv_aload hx hb dL_isSo_75 (lv_at hl 9 rfl) ?_
        refine lv_aload hx hb dL_isSo_77 (lv_at hl 11 rfl) ?_
        refine rwS4 (rest := [.int (lS3 vq vd vl n k)]) S (c_L_jumps l E k aq ad al vq vd vl n hq hn (by omega)) cd_L_jumps bw_416 ⟨Nat.le_of_ble_eq_true rfl, Nat.le_of_ble_eq_true rfl⟩ ⟨Nat.zero_le _, Nat.zero_le _⟩ hP (hDa.to rfl) hE hA hS [9, 11, 13] rfl rfl [aq, ad, al] rfl rfl (Nat.le_of_ble_eq_true rfl) hl.1 dL_isSo_79 (fun H locs hP _ hS => ?_)
        have hP : va_P E.1 vwCl [(xo, .inr (4, [.ref r, .ref r2, .ref r3, .ref d, .ref y, .ref q2, .int sf])), (r, .inr (2, [.ref rc])), (rc, .inl (E.2.1, 293, .inl f)), (d, .inr (1, [.ref ch, .ref nu, .int (nI L), .int a, .int b, .int le, .int co, .int mi])), (ch, .inl (E.2.2.1, 80, .inl t)), (nu, .inl (E.2.1, 4, .inl u)), (y, .inr (0, [.ref q, .int (nI o), .int (nI z)])), (q, .inr (3, [.ref w])), (w, .inl (E.2.1, 1758, .inl h)), (aq, .inl (E.2.1, 13, .inl vq)), (af, .inl (E.2.1, 21, .inl vf)), (ad, .inl (E.2.1, 63, .inl vd)), (aw, .inl (E.2.1, 63, .inl vw)), (al, .inl (E.2.1, 63, .inl vl)), (ar, .inl (E.2.1, 63, .inl vr))] H := hP
        refine (fun (hj : ∀ (H : Heap) (locs : List Loc), va_P E.1 vwCl [(xo, .inr (4, [.ref r, .ref r2, .ref r3, .ref d, .ref y, .ref q2, .int sf])), (r, .inr (2, [.ref rc])), (rc, .inl (E.2.1, 293, .inl f)), (d, .inr (1, [.ref ch, .ref nu, .int (nI L), .int a, .int b, .int le, .int co, .int mi])), (ch, .inl (E.2.2.1, 80, .inl t)), (nu, .inl (E.2.1, 4, .inl u)), (y, .inr (0, [.ref q, .int (nI o), .int (nI z)])), (q, .inr (3, [.ref w])), (w, .inl (E.2.1, 1758, .inl h)), (aq, .inl (E.2.1, 13, .inl vq)), (af, .inl (E.2.1, 21, .inl vf)), (ad, .inl (E.2.1, 63, .inl vd)), (aw, .inl (E.2.1, 63, .inl vw)), (al, .inl (E.2.1, 63, .inl vl)), (ar, .inl (E.2.1, 63, .inl vr))] H → va_S A s.heap H locs → W pg l e (rq 8) s m ([.ref xo, .int x, .ref aq, .ref af, .ref ad, .ref aw, .ref al, .ref ar] : List Value).toArray below meth c H locs 0 0 Q (F0 m 93 ls [.int (if lJu vq vd vl n k = 0 then nI 0 else (nI 1) <<< (nI k &&& 31)), .int (lS3 vq vd vl n k)])) => ?_) ?_
        · refine lv_if_eq (tgt := 92) hx hb dL_isSo_82 (by decide) (fun c_26 => ?_) (fun c_26 => ?_)
          · refine lv_iconst (v := nI 0) hx hb dL_isSo_92 (by decide) ?_
            have hj9 := hj _ _ hP hS
            rw [if_pos c_26] at hj9
            exact hj9
          · refine lv_iconst (v := nI 1) hx hb dL_isSo_85 (by decide) ?_
            refine lv_iload hx hb dL_isSo_86 (lv_at hl 2 rfl) ?_
            refine lv_ishl hx hb dL_isSo_88 ?_
            refine lv_goto (tgt := 93) hx hb dL_isSo_89 (by decide) ?_
            have hj9 := hj _ _ hP hS
            rw [if_neg c_26] at hj9
            exact hj9
        intro H locs hP hS
        refine lv_ior hx hb dL_isSo_93 ?_
        refine lv_istore (lv' := [(10, .int ((lS3 vq vd vl n k) ||| (if lJu vq vd vl n k = 0 then nI 0 else (nI 1) <<< (nI k &&& 31)))), (9, .int ((lS2 vr k) ||| (if vr (3 * k) ≤ 0 then nI 0 else (nI 1) <<< (nI k &&& 31)))), (8, .int ((lS1 vq vr k) ||| (if lBa vq vr k = 0 then nI 0 else (nI 1) <<< (nI k &&& 31)))), (12, .int (nI k)), (11, .int (lS4 vq vd vw vl k)), (0, .ref xo), (1, .int x), (2, .ref aq), (3, .ref af), (4, .ref ad), (5, .ref aw), (6, .ref al), (7, .ref ar)]) hx hb dL_isSo_94 hl (by decide) rfl (fun ls hl => ?_)
        refine lv_iconst (v := nI 0) hx hb dL_isSo_96 (by decide) ?_
        refine lv_istore (lv' := [(13, .int (nI 0)), (10, .int ((lS3 vq vd vl n k) ||| (if lJu vq vd vl n k = 0 then nI 0 else (nI 1) <<< (nI k &&& 31)))), (9, .int ((lS2 vr k) ||| (if vr (3 * k) ≤ 0 then nI 0 else (nI 1) <<< (nI k &&& 31)))), (8, .int ((lS1 vq vr k) ||| (if lBa vq vr k = 0 then nI 0 else (nI 1) <<< (nI k &&& 31)))), (12, .int (nI k)), (11, .int (lS4 vq vd vw vl k)), (0, .ref xo), (1, .int x), (2, .ref aq), (3, .ref af), (4, .ref ad), (5, .ref aw), (6, .ref al), (7, .ref ar)]) hx hb dL_isSo_97 hl (by decide) rfl (fun ls hl => ?_)
        refine lv_iload hx hb dL_isSo_99 (lv_at hl 0 rfl) ?_
        refine lv_iconst (v := nI 3) hx hb dL_isSo_101 (by decide) ?_
        refine rn_icmp_ge (a := 0) (b := 3) (tgt := 147) hx hb (by omega) (by omega) dL_isSo_102 (by decide) (fun c_27 => absurd c_27 (by omega)) (fun c_27 => ?_)
        refine lv_iload hx hb dL_isSo_105 (lv_at hl 5 rfl) ?_
        refine lv_iload hx hb dL_isSo_107 (lv_at hl 4 rfl) ?_
        refine lv_iload hx hb dL_isSo_109 (lv_at hl 0 rfl) ?_
        refine lv_aload_n hx hb dL_isSo_111 rfl (lv_at hl 8 rfl) ?_
        refine lv_aload hx hb dL_isSo_112 (lv_at hl 10 rfl) ?_
        refine lv_aload hx hb dL_isSo_114 (lv_at hl 11 rfl) ?_
        refine lv_aload hx hb dL_isSo_116 (lv_at hl 12 rfl) ?_
        refine rwS6 (rest := [.int (lS4 vq vd vw vl k)]) S (c_L_off l E k 0 aq ad aw al vq vd vw vl (by omega) (by omega)) cd_L_off bw_404 ⟨Nat.le_of_ble_eq_true rfl, Nat.le_of_ble_eq_true rfl⟩ ⟨Nat.zero_le _, Nat.zero_le _⟩ hP (hDa.to rfl) hE hA hS [9, 11, 12, 13] rfl rfl [aq, ad, aw, al] rfl rfl (Nat.le_of_ble_eq_true rfl) hl.1 dL_isSo_118 (fun H locs hP _ hS => ?_)
        have hP : va_P E.1 vwCl [(xo, .inr (4, [.ref r, .ref r2, .ref r3, .ref d, .ref y, .ref q2, .int sf])), (r, .inr (2, [.ref rc])), (rc, .inl (E.2.1, 293, .inl f)), (d, .inr (1, [.ref ch, .ref nu, .int (nI L), .int a, .int b, .int le, .int co, .int mi])), (ch, .inl (E.2.2.1, 80, .inl t)), (nu, .inl (E.2.1, 4, .inl u)), (y, .inr (0, [.ref q, .int (nI o), .int (nI z)])), (q, .inr (3, [.ref w])), (w, .inl (E.2.1, 1758, .inl h)), (aq, .inl (E.2.1, 13, .inl vq)), (af, .inl (E.2.1, 21, .inl vf)), (ad, .inl (E.2.1, 63, .inl vd)), (aw, .inl (E.2.1, 63, .inl vw)), (al, .inl (E.2.1, 63, .inl vl)), (ar, .inl (E.2.1, 63, .inl vr))] H := hP
        refine rwS1 (rest := [.int (lS4 vq vd vw vl k)]) S (c_L_size l E (lOf vq vd vw vl k 0)) cd_L_size bw_392 ⟨Nat.le_of_ble_eq_true rfl, Nat.le_of_ble_eq_true rfl⟩ ⟨Nat.zero_le _, Nat.zero_le _⟩ hP (hDa.to rfl) hE hA hS [] rfl rfl [] rfl rfl (Nat.le_of_ble_eq_true rfl) hl.1 dL_isSo_121 (fun H locs hP _ hS => ?_)
        have hP : va_P E.1 vwCl [(xo, .inr (4, [.ref r, .ref r2, .ref r3, .ref d, .ref y, .ref q2, .int sf])), (r, .inr (2, [.ref rc])), (rc, .inl (E.2.1, 293, .inl f)), (d, .inr (1, [.ref ch, .ref nu, .int (nI L), .int a, .int b, .int le, .int co, .int mi])), (ch, .inl (E.2.2.1, 80, .inl t)), (nu, .inl (E.2.1, 4, .inl u)), (y, .inr (0, [.ref q, .int (nI o), .int (nI z)])), (q, .inr (3, [.ref w])), (w, .inl (E.2.1, 1758, .inl h)), (aq, .inl (E.2.1, 13, .inl vq)), (af, .inl (E.2.1, 21, .inl vf)), (ad, .inl (E.2.1, 63, .inl vd)), (aw, .inl (E.2.1, 63, .inl vw)), (al, .inl (E.2.1, 63, .inl vl)), (ar, .inl (E.2.1, 63, .inl vr))] H := hP
        refine lv_aload_n hx hb dL_isSo_124 rfl (lv_at hl 8 rfl) ?_
        refine lv_iconst (v := nI 1) hx hb dL_isSo_125 (by decide) ?_
        refine rn_iald (i := 1) hx hb hK hP 9 0 rfl rfl (by omega) (by omega) dL_isSo_126 ?_
        refine (fun (hj : ∀ (H : Heap) (locs : List Loc), va_P E.1 vwCl [(xo, .inr (4, [.ref r, .ref r2, .ref r3, .ref d, .ref y, .ref q2, .int sf])), (r, .inr (2, [.ref rc])), (rc, .inl (E.2.1, 293, .inl f)), (d, .inr (1, [.ref ch, .ref nu, .int (nI L), .int a, .int b, .int le, .int co, .int mi])), (ch, .inl (E.2.2.1, 80, .inl t)), (nu, .inl (E.2.1, 4, .inl u)), (y, .inr (0, [.ref q, .int (nI o), .int (nI z)])), (q, .inr (3, [.ref w])), (w, .inl (E.2.1, 1758, .inl h)), (aq, .inl (E.2.1, 13, .inl vq)), (af, .inl (E.2.1, 21, .inl vf)), (ad, .inl (E.2.1, 63, .inl vd)), (aw, .inl (E.2.1, 63, .inl vw)), (al, .inl (E.2.1, 63, .inl vl)), (ar, .inl (E.2.1, 63, .inl vr))] H → va_S A s.heap H locs → W pg l e (rq 8) s m ([.ref xo, .int x, .ref aq, .ref af, .ref ad, .ref aw, .ref al, .ref ar] : List Value).toArray below meth c H locs 0 0 Q (F0 m 138 ls [.int (if lSz (lOf vq vd vw vl k 0) ≤ vq 1 then nI 0 else (nI 1) <<< (nI k &&& 31)), .int (lS4 vq vd vw vl k)])) => ?_) ?_
        · refine lv_icmp_le (tgt := 137) hx hb dL_isSo_127 (by decide) (fun c_28 => ?_) (fun c_28 => ?_)
          · refine lv_iconst (v := nI 0) hx hb dL_isSo_137 (by decide) ?_
            have hj9 := hj _ _ hP hS
            rw [if_pos c_28] at hj9
            exact hj9
          · refine lv_iconst (v := nI 1) hx hb dL_isSo_130 (by decide) ?_
            refine lv_iload hx hb dL_isSo_131 (lv_at hl 4 rfl) ?_
            refine lv_ishl hx hb dL_isSo_133 ?_
            refine lv_goto (tgt := 138) hx hb dL_isSo_134 (by decide) ?_
            have hj9 := hj _ _ hP hS
            rw [if_neg c_28] at hj9
            exact hj9
        intro H locs hP hS
        refine lv_ior hx hb dL_isSo_138 ?_
        refine lv_istore (lv' := [(11, .int ((lS4 vq vd vw vl k) ||| (if lSz (lOf vq vd vw vl k 0) ≤ vq 1 then nI 0 else (nI 1) <<< (nI k &&& 31)))), (13, .int (nI 0)), (10, .int ((lS3 vq vd vl n k) ||| (if lJu vq vd vl n k = 0 then nI 0 else (nI 1) <<< (nI k &&& 31)))), (9, .int ((lS2 vr k) ||| (if vr (3 * k) ≤ 0 then nI 0 else (nI 1) <<< (nI k &&& 31)))), (8, .int ((lS1 vq vr k) ||| (if lBa vq vr k = 0 then nI 0 else (nI 1) <<< (nI k &&& 31)))), (12, .int (nI k)), (0, .ref xo), (1, .int x), (2, .ref aq), (3, .ref af), (4, .ref ad), (5, .ref aw), (6, .ref al), (7, .ref ar)]) hx hb dL_isSo_139 hl (by decide) rfl (fun ls hl => ?_)
        refine rn_inc (a := 0) (d := 1) (lv' := [(13, .int (nI 1)), (11, .int ((lS4 vq vd vw vl k) ||| (if lSz (lOf vq vd vw vl k 0) ≤ vq 1 then nI 0 else (nI 1) <<< (nI k &&& 31)))), (10, .int ((lS3 vq vd vl n k) ||| (if lJu vq vd vl n k = 0 then nI 0 else (nI 1) <<< (nI k &&& 31)))), (9, .int ((lS2 vr k) ||| (if vr (3 * k) ≤ 0 then nI 0 else (nI 1) <<< (nI k &&& 31)))), (8, .int ((lS1 vq vr k) ||| (if lBa vq vr k = 0 then nI 0 else (nI 1) <<< (nI k &&& 31)))), (12, .int (nI k)), (0, .ref xo), (1, .int x), (2, .ref aq), (3, .ref af), (4, .ref ad), (5, .ref aw), (6, .ref al), (7, .ref ar)]) hx hb dL_isSo_141 hl (k := 1) rfl (by decide) (by decide) rfl (fun ls hl => ?_)
        refine lv_goto (tgt := 99) hx hb dL_isSo_144 (by decide) ?_
        refine lv_iload hx hb dL_isSo_99 (lv_at hl 0 rfl) ?_
        refine lv_iconst (v := nI 3) hx hb dL_isSo_101 (by decide) ?_
        refine rn_icmp_ge (a := 1) (b := 3) (tgt := 147) hx hb (by omega) (by omega) dL_isSo_102 (by decide) (fun c_29 => absurd c_29 (by omega)) (fun c_29 => ?_)
        refine lv_iload hx hb dL_isSo_105 (lv_at hl 1 rfl) ?_
        refine lv_iload hx hb dL_isSo_107 (lv_at hl 5 rfl) ?_
        refine lv_iload hx hb dL_isSo_109 (lv_at hl 0 rfl) ?_
        refine lv_aload_n hx hb dL_isSo_111 rfl (lv_at hl 8 rfl) ?_
        refine lv_aload hx hb dL_isSo_112 (lv_at hl 10 rfl) ?_
        refine lv_aload hx hb dL_isSo_114 (lv_at hl 11 rfl) ?_
        refine lv_aload hx hb dL_isSo_116 (lv_at hl 12 rfl) ?_
        refine rwS6 (rest := [.int ((lS4 vq vd vw vl k) ||| (if lSz (lOf vq vd vw vl k 0) ≤ vq 1 then nI 0 else (nI 1) <<< (nI k &&& 31)))]) S (c_L_off l E k 1 aq ad aw al vq vd vw vl (by omega) (by omega)) cd_L_off bw_404 ⟨Nat.le_of_ble_eq_true rfl, Nat.le_of_ble_eq_true rfl⟩ ⟨Nat.zero_le _, Nat.zero_le _⟩ hP (hDa.to rfl) hE hA hS [9, 11, 12, 13] rfl rfl [aq, ad, aw, al] rfl rfl (Nat.le_of_ble_eq_true rfl) hl.1 dL_isSo_118 (fun H locs hP _ hS => ?_)
        have hP : va_P E.1 vwCl [(xo, .inr (4, [.ref r, .ref r2, .ref r3, .ref d, .ref y, .ref q2, .int sf])), (r, .inr (2, [.ref rc])), (rc, .inl (E.2.1, 293, .inl f)), (d, .inr (1, [.ref ch, .ref nu, .int (nI L), .int a, .int b, .int le, .int co, .int mi])), (ch, .inl (E.2.2.1, 80, .inl t)), (nu, .inl (E.2.1, 4, .inl u)), (y, .inr (0, [.ref q, .int (nI o), .int (nI z)])), (q, .inr (3, [.ref w])), (w, .inl (E.2.1, 1758, .inl h)), (aq, .inl (E.2.1, 13, .inl vq)), (af, .inl (E.2.1, 21, .inl vf)), (ad, .inl (E.2.1, 63, .inl vd)), (aw, .inl (E.2.1, 63, .inl vw)), (al, .inl (E.2.1, 63, .inl vl)), (ar, .inl (E.2.1, 63, .inl vr))] H := hP
        refine rwS1 (rest := [.int ((lS4 vq vd vw vl k) ||| (if lSz (lOf vq vd vw vl k 0) ≤ vq 1 then nI 0 else (nI 1) <<< (nI k &&& 31)))]) S (c_L_size l E (lOf vq vd vw vl k 1)) cd_L_size bw_392 ⟨Nat.le_of_ble_eq_true rfl, Nat.le_of_ble_eq_true rfl⟩ ⟨Nat.zero_le _, Nat.zero_le _⟩ hP (hDa.to rfl) hE hA hS [] rfl rfl [] rfl rfl (Nat.le_of_ble_eq_true rfl) hl.1 dL_isSo_121 (fun H locs hP _ hS => ?_)
        have hP : va_P E.1 vwCl [(xo, .inr (4, [.ref r, .ref r2, .ref r3, .ref d, .ref y, .ref q2, .int sf])), (r, .inr (2, [.ref rc])), (rc, .inl (E.2.1, 293, .inl f)), (d, .inr (1, [.ref ch, .ref nu, .int (nI L), .int a, .int b, .int le, .int co, .int mi])), (ch, .inl (E.2.2.1, 80, .inl t)), (nu, .inl (E.2.1, 4, .inl u)), (y, .inr (0, [.ref q, .int (nI o), .int (nI z)])), (q, .inr (3, [.ref w])), (w, .inl (E.2.1, 1758, .inl h)), (aq, .inl (E.2.1, 13, .inl vq)), (af, .inl (E.2.1, 21, .inl vf)), (ad, .inl (E.2.1, 63, .inl vd)), (aw, .inl (E.2.1, 63, .inl vw)), (al, .inl (E.2.1, 63, .inl vl)), (ar, .inl (E.2.1, 63, .inl vr))] H := hP
        refine lv_aload_n hx hb dL_isSo_124 rfl (lv_at hl 8 rfl) ?_
        refine lv_iconst (v := nI 1) hx hb dL_isSo_125 (by decide) ?_
        refine rn_iald (i := 1) hx hb hK hP 9 0 rfl rfl (by omega) (by omega) dL_isSo_126 ?_
        refine (fun (hj : ∀ (H : Heap) (locs : List Loc), va_P E.1 vwCl [(xo, .inr (4, [.ref r, .ref r2, .ref r3, .ref d, .ref y, .ref q2, .int sf])), (r, .inr (2, [.ref rc])), (rc, .inl (E.2.1, 293, .inl f)), (d, .inr (1, [.ref ch, .ref nu, .int (nI L), .int a, .int b, .int le, .int co, .int mi])), (ch, .inl (E.2.2.1, 80, .inl t)), (nu, .inl (E.2.1, 4, .inl u)), (y, .inr (0, [.ref q, .int (nI o), .int (nI z)])), (q, .inr (3, [.ref w])), (w, .inl (E.2.1, 1758, .inl h)), (aq, .inl (E.2.1, 13, .inl vq)), (af, .inl (E.2.1, 21, .inl vf)), (ad, .inl (E.2.1, 63, .inl vd)), (aw, .inl (E.2.1, 63, .inl vw)), (al, .inl (E.2.1, 63, .inl vl)), (ar, .inl (E.2.1, 63, .inl vr))] H → va_S A s.heap H locs → W pg l e (rq 8) s m ([.ref xo, .int x, .ref aq, .ref af, .ref ad, .ref aw, .ref al, .ref ar] : List Value).toArray below meth c H locs 0 0 Q (F0 m 138 ls [.int (if lSz (lOf vq vd vw vl k 1) ≤ vq 1 then nI 0 else (nI 1) <<< (nI k &&& 31)), .int ((lS4 vq vd vw vl k) ||| (if lSz (lOf vq vd vw vl k 0) ≤ vq 1 then nI 0 else (nI 1) <<< (nI k &&& 31)))])) => ?_) ?_
        · refine lv_icmp_le (tgt := 137) hx hb dL_isSo_127 (by decide) (fun c_30 => ?_) (fun c_30 => ?_)
          · refine lv_iconst (v := nI 0) hx hb dL_isSo_137 (by decide) ?_
            have hj9 := hj _ _ hP hS
            rw [if_pos c_30] at hj9
            exact hj9
          · refine lv_iconst (v := nI 1) hx hb dL_isSo_130 (by decide) ?_
            refine lv_iload hx hb dL_isSo_131 (lv_at hl 5 rfl) ?_
            refine lv_ishl hx hb dL_isSo_133 ?_
            refine lv_goto (tgt := 138) hx hb dL_isSo_134 (by decide) ?_
            have hj9 := hj _ _ hP hS
            rw [if_neg c_30] at hj9
            exact hj9
        intro H locs hP hS
        refine lv_ior hx hb dL_isSo_138 ?_
        refine lv_istore (lv' := [(11, .int (((lS4 vq vd vw vl k) ||| (if lSz (lOf vq vd vw vl k 0) ≤ vq 1 then nI 0 else (nI 1) <<< (nI k &&& 31))) ||| (if lSz (lOf vq vd vw vl k 1) ≤ vq 1 then nI 0 else (nI 1) <<< (nI k &&& 31)))), (13, .int (nI 1)), (10, .int ((lS3 vq vd vl n k) ||| (if lJu vq vd vl n k = 0 then nI 0 else (nI 1) <<< (nI k &&& 31)))), (9, .int ((lS2 vr k) ||| (if vr (3 * k) ≤ 0 then nI 0 else (nI 1) <<< (nI k &&& 31)))), (8, .int ((lS1 vq vr k) ||| (if lBa vq vr k = 0 then nI 0 else (nI 1) <<< (nI k &&& 31)))), (12, .int (nI k)), (0, .ref xo), (1, .int x), (2, .ref aq), (3, .ref af), (4, .ref ad), (5, .ref aw), (6, .ref al), (7, .ref ar)]) hx hb dL_isSo_139 hl (by decide) rfl (fun ls hl => ?_)
        refine rn_inc (a := 1) (d := 1) (lv' := [(13, .int (nI 2)), (11, .int (((lS4 vq vd vw vl k) ||| (if lSz (lOf vq vd vw vl k 0) ≤ vq 1 then nI 0 else (nI 1) <<< (nI k &&& 31))) ||| (if lSz (lOf vq vd vw vl k 1) ≤ vq 1 then nI 0 else (nI 1) <<< (nI k &&& 31)))), (10, .int ((lS3 vq vd vl n k) ||| (if lJu vq vd vl n k = 0 then nI 0 else (nI 1) <<< (nI k &&& 31)))), (9, .int ((lS2 vr k) ||| (if vr (3 * k) ≤ 0 then nI 0 else (nI 1) <<< (nI k &&& 31)))), (8, .int ((lS1 vq vr k) ||| (if lBa vq vr k = 0 then nI 0 else (nI 1) <<< (nI k &&& 31)))), (12, .int (nI k)), (0, .ref xo), (1, .int x), (2, .ref aq), (3, .ref af), (4, .ref ad), (5, .ref aw), (6, .ref al), (7, .ref ar)]) hx hb dL_isSo_141 hl (k := 1) rfl (by decide) (by decide) rfl (fun ls hl => ?_)
        refine lv_goto (tgt := 99) hx hb dL_isSo_144 (by decide) ?_
        refine lv_iload hx hb dL_isSo_99 (lv_at hl 0 rfl) ?_
        refine lv_iconst (v := nI 3) hx hb dL_isSo_101 (by decide) ?_
        refine rn_icmp_ge (a := 2) (b := 3) (tgt := 147) hx hb (by omega) (by omega) dL_isSo_102 (by decide) (fun c_31 => absurd c_31 (by omega)) (fun c_31 => ?_)
        refine lv_iload hx hb dL_isSo_105 (lv_at hl 1 rfl) ?_
        refine lv_iload hx hb dL_isSo_107 (lv_at hl 5 rfl) ?_
        refine lv_iload hx hb dL_isSo_109 (lv_at hl 0 rfl) ?_
        refine lv_aload_n hx hb dL_isSo_111 rfl (lv_at hl 8 rfl) ?_
        refine lv_aload hx hb dL_isSo_112 (lv_at hl 10 rfl) ?_
        refine lv_aload hx hb dL_isSo_114 (lv_at hl 11 rfl) ?_
        refine lv_aload hx hb dL_isSo_116 (lv_at hl 12 rfl) ?_
        refine rwS6 (rest := [.int (((lS4 vq vd vw vl k) ||| (if lSz (lOf vq vd vw vl k 0) ≤ vq 1 then nI 0 else (nI 1) <<< (nI k &&& 31))) ||| (if lSz (lOf vq vd vw vl k 1) ≤ vq 1 then nI 0 else (nI 1) <<< (nI k &&& 31)))]) S (c_L_off l E k 2 aq ad aw al vq vd vw vl (by omega) (by omega)) cd_L_off bw_404 ⟨Nat.le_of_ble_eq_true rfl, Nat.le_of_ble_eq_true rfl⟩ ⟨Nat.zero_le _, Nat.zero_le _⟩ hP (hDa.to rfl) hE hA hS [9, 11, 12, 13] rfl rfl [aq, ad, aw, al] rfl rfl (Nat.le_of_ble_eq_true rfl) hl.1 dL_isSo_118 (fun H locs hP _ hS => ?_)
        have hP : va_P E.1 vwCl [(xo, .inr (4, [.ref r, .ref r2, .ref r3, .ref d, .ref y, .ref q2, .int sf])), (r, .inr (2, [.ref rc])), (rc, .inl (E.2.1, 293, .inl f)), (d, .inr (1, [.ref ch, .ref nu, .int (nI L), .int a, .int b, .int le, .int co, .int mi])), (ch, .inl (E.2.2.1, 80, .inl t)), (nu, .inl (E.2.1, 4, .inl u)), (y, .inr (0, [.ref q, .int (nI o), .int (nI z)])), (q, .inr (3, [.ref w])), (w, .inl (E.2.1, 1758, .inl h)), (aq, .inl (E.2.1, 13, .inl vq)), (af, .inl (E.2.1, 21, .inl vf)), (ad, .inl (E.2.1, 63, .inl vd)), (aw, .inl (E.2.1, 63, .inl vw)), (al, .inl (E.2.1, 63, .inl vl)), (ar, .inl (E.2.1, 63, .inl vr))] H := hP
        refine rwS1 (rest := [.int (((lS4 vq vd vw vl k) ||| (if lSz (lOf vq vd vw vl k 0) ≤ vq 1 then nI 0 else (nI 1) <<< (nI k &&& 31))) ||| (if lSz (lOf vq vd vw vl k 1) ≤ vq 1 then nI 0 else (nI 1) <<< (nI k &&& 31)))]) S (c_L_size l E (lOf vq vd vw vl k 2)) cd_L_size bw_392 ⟨Nat.le_of_ble_eq_true rfl, Nat.le_of_ble_eq_true rfl⟩ ⟨Nat.zero_le _, Nat.zero_le _⟩ hP (hDa.to rfl) hE hA hS [] rfl rfl [] rfl rfl (Nat.le_of_ble_eq_true rfl) hl.1 dL_isSo_121 (fun H locs hP _ hS => ?_)
        have hP : va_P E.1 vwCl [(xo, .inr (4, [.ref r, .ref r2, .ref r3, .ref d, .ref y, .ref q2, .int sf])), (r, .inr (2, [.ref rc])), (rc, .inl (E.2.1, 293, .inl f)), (d, .inr (1, [.ref ch, .ref nu, .int (nI L), .int a, .int b, .int le, .int co, .int mi])), (ch, .inl (E.2.2.1, 80, .inl t)), (nu, .inl (E.2.1, 4, .inl u)), (y, .inr (0, [.ref q, .int (nI o), .int (nI z)])), (q, .inr (3, [.ref w])), (w, .inl (E.2.1, 1758, .inl h)), (aq, .inl (E.2.1, 13, .inl vq)), (af, .inl (E.2.1, 21, .inl vf)), (ad, .inl (E.2.1, 63, .inl vd)), (aw, .inl (E.2.1, 63, .inl vw)), (al, .inl (E.2.1, 63, .inl vl)), (ar, .inl (E.2.1, 63, .inl vr))] H := hP
        refine lv_aload_n hx hb dL_isSo_124 rfl (lv_at hl 8 rfl) ?_
        refine lv_iconst (v := nI 1) hx hb dL_isSo_125 (by decide) ?_
        refine rn_iald (i := 1) hx hb hK hP 9 0 rfl rfl (by omega) (by omega) dL_isSo_126 ?_
        refine (fun (hj : ∀ (H : Heap) (locs : List Loc), va_P E.1 vwCl [(xo, .inr (4, [.ref r, .ref r2, .ref r3, .ref d, .ref y, .ref q2, .int sf])), (r, .inr (2, [.ref rc])), (rc, .inl (E.2.1, 293, .inl f)), (d, .inr (1, [.ref ch, .ref nu, .int (nI L), .int a, .int b, .int le, .int co, .int mi])), (ch, .inl (E.2.2.1, 80, .inl t)), (nu, .inl (E.2.1, 4, .inl u)), (y, .inr (0, [.ref q, .int (nI o), .int (nI z)])), (q, .inr (3, [.ref w])), (w, .inl (E.2.1, 1758, .inl h)), (aq, .inl (E.2.1, 13, .inl vq)), (af, .inl (E.2.1, 21, .inl vf)), (ad, .inl (E.2.1, 63, .inl vd)), (aw, .inl (E.2.1, 63, .inl vw)), (al, .inl (E.2.1, 63, .inl vl)), (ar, .inl (E.2.1, 63, .inl vr))] H → va_S A s.heap H locs → W pg l e (rq 8) s m ([.ref xo, .int x, .ref aq, .ref af, .ref ad, .ref aw, .ref al, .ref ar] : List Value).toArray below meth c H locs 0 0 Q (F0 m 138 ls [.int (if lSz (lOf vq vd vw vl k 2) ≤ vq 1 then nI 0 else (nI 1) <<< (nI k &&& 31)), .int (((lS4 vq vd vw vl k) ||| (if lSz (lOf vq vd vw vl k 0) ≤ vq 1 then nI 0 else (nI 1) <<< (nI k &&& 31))) ||| (if lSz (lOf vq vd vw vl k 1) ≤ vq 1 then nI 0 else (nI 1) <<< (nI k &&& 31)))])) => ?_) ?_
        · refine lv_icmp_le (tgt := 137) hx hb dL_isSo_127 (by decide) (fun c_32 => ?_) (fun c_32 => ?_)
          · refine lv_iconst (v := nI 0) hx hb dL_isSo_137 (by decide) ?_
            have hj9 := hj _ _ hP hS
            rw [if_pos c_32] at hj9
            exact hj9
          · refine lv_iconst (v := nI 1) hx hb dL_isSo_130 (by decide) ?_
            refine lv_iload hx hb dL_isSo_131 (lv_at hl 5 rfl) ?_
            refine lv_ishl hx hb dL_isSo_133 ?_
            refine lv_goto (tgt := 138) hx hb dL_isSo_134 (by decide) ?_
            have hj9 := hj _ _ hP hS
            rw [if_neg c_32] at hj9
            exact hj9
        intro H locs hP hS
        refine lv_ior hx hb dL_isSo_138 ?_
        refine lv_istore (lv' := [(11, .int ((((lS4 vq vd vw vl k) ||| (if lSz (lOf vq vd vw vl k 0) ≤ vq 1 then nI 0 else (nI 1) <<< (nI k &&& 31))) ||| (if lSz (lOf vq vd vw vl k 1) ≤ vq 1 then nI 0 else (nI 1) <<< (nI k &&& 31))) ||| (if lSz (lOf vq vd vw vl k 2) ≤ vq 1 then nI 0 else (nI 1) <<< (nI k &&& 31)))), (13, .int (nI 2)), (10, .int ((lS3 vq vd vl n k) ||| (if lJu vq vd vl n k = 0 then nI 0 else (nI 1) <<< (nI k &&& 31)))), (9, .int ((lS2 vr k) ||| (if vr (3 * k) ≤ 0 then nI 0 else (nI 1) <<< (nI k &&& 31)))), (8, .int ((lS1 vq vr k) ||| (if lBa vq vr k = 0 then nI 0 else (nI 1) <<< (nI k &&& 31)))), (12, .int (nI k)), (0, .ref xo), (1, .int x), (2, .ref aq), (3, .ref af), (4, .ref ad), (5, .ref aw), (6, .ref al), (7, .ref ar)]) hx hb dL_isSo_139 hl (by decide) rfl (fun ls hl => ?_)
        refine rn_inc (a := 2) (d := 1) (lv' := [(13, .int (nI 3)), (11, .int ((((lS4 vq vd vw vl k) ||| (if lSz (lOf vq vd vw vl k 0) ≤ vq 1 then nI 0 else (nI 1) <<< (nI k &&& 31))) ||| (if lSz (lOf vq vd vw vl k 1) ≤ vq 1 then nI 0 else (nI 1) <<< (nI k &&& 31))) ||| (if lSz (lOf vq vd vw vl k 2) ≤ vq 1 then nI 0 else (nI 1) <<< (nI k &&& 31)))), (10, .int ((lS3 vq vd vl n k) ||| (if lJu vq vd vl n k = 0 then nI 0 else (nI 1) <<< (nI k &&& 31)))), (9, .int ((lS2 vr k) ||| (if vr (3 * k) ≤ 0 then nI 0 else (nI 1) <<< (nI k &&& 31)))), (8, .int ((lS1 vq vr k) ||| (if lBa vq vr k = 0 then nI 0 else (nI 1) <<< (nI k &&& 31)))), (12, .int (nI k)), (0, .ref xo), (1, .int x), (2, .ref aq), (3, .ref af), (4, .ref ad), (5, .ref aw), (6, .ref al), (7, .ref ar)]) hx hb dL_isSo_141 hl (k := 1) rfl (by decide) (by decide) rfl (fun ls hl => ?_)
        refine lv_goto (tgt := 99) hx hb dL_isSo_144 (by decide) ?_
        refine lv_iload hx hb dL_isSo_99 (lv_at hl 0 rfl) ?_
        refine lv_iconst (v := nI 3) hx hb dL_isSo_101 (by decide) ?_
        refine rn_icmp_ge (a := 3) (b := 3) (tgt := 147) hx hb (by omega) (by omega) dL_isSo_102 (by decide) (fun c_33 => ?_) (fun c_33 => absurd c_33 (by omega))
        refine rn_inc (a := k) (d := 1) (lv' := [(12, .int (nI (k + 1))), (13, .int (nI 3)), (11, .int ((((lS4 vq vd vw vl k) ||| (if lSz (lOf vq vd vw vl k 0) ≤ vq 1 then nI 0 else (nI 1) <<< (nI k &&& 31))) ||| (if lSz (lOf vq vd vw vl k 1) ≤ vq 1 then nI 0 else (nI 1) <<< (nI k &&& 31))) ||| (if lSz (lOf vq vd vw vl k 2) ≤ vq 1 then nI 0 else (nI 1) <<< (nI k &&& 31)))), (10, .int ((lS3 vq vd vl n k) ||| (if lJu vq vd vl n k = 0 then nI 0 else (nI 1) <<< (nI k &&& 31)))), (9, .int ((lS2 vr k) ||| (if vr (3 * k) ≤ 0 then nI 0 else (nI 1) <<< (nI k &&& 31)))), (8, .int ((lS1 vq vr k) ||| (if lBa vq vr k = 0 then nI 0 else (nI 1) <<< (nI k &&& 31)))), (0, .ref xo), (1, .int x), (2, .ref aq), (3, .ref af), (4, .ref ad), (5, .ref aw), (6, .ref al), (7, .ref ar)]) hx hb dL_isSo_147 hl (k := 5) rfl (by decide) (by decide) rfl (fun ls hl => ?_)
        refine lv_goto (tgt := 15) hx hb dL_isSo_150 (by decide) ?_
        have hl : lv_has ls 15 [(12, .int (nI (k + 1))), (11, .int (lS4 vq vd vw vl (k + 1))), (10, .int (lS3 vq vd vl n (k + 1))), (9, .int (lS2 vr (k + 1))), (8, .int (lS1 vq vr (k + 1))), (0, .ref xo), (1, .int x), (2, .ref aq), (3, .ref af), (4, .ref ad), (5, .ref aw), (6, .ref al), (7, .ref ar)] := lv_sub hl [0, 2, 3, 4, 5, 6, 7, 8, 9, 10, 11, 12, 13] rfl
        exact ih15 (k + 1) (by omega) (by omega) _ _ hP hS _ hl
  have hl : lv_has ls 15 [(12, .int (nI 0)), (11, .int (lS4 vq vd vw vl 0)), (10, .int (lS3 vq vd vl n 0)), (9, .int (lS2 vr 0)), (8, .int (lS1 vq vr 0)), (0, .ref xo), (1, .int x), (2, .ref aq), (3, .ref af), (4, .ref ad), (5, .ref aw), (6, .ref al), (7, .ref ar)] := lv_sub hl [0, 1, 2, 3, 4, 5, 6, 7, 8, 9, 10, 11, 12] rfl
  exact loop15 _ 0 (Nat.lt_succ_self _) (by omega) _ _ hP hS _ hl

