/-- the bad ones of the first k shots corrected -/
abbrev LA : Type := (Nat → Int32) × (Nat → Int32) × (Nat → Int32)
def lA (vq vl vr : Nat → Int32) : Nat → LA
  | 0 => (vq, vl, vr)
  | k + 1 => if lBa (lA vq vl vr k).1 (lA vq vl vr k).2.2 k = 0 then lA vq vl vr k else (lCq (lA vq vl vr k).1 (lA vq vl vr k).2.1 (lA vq vl vr k).2.2 k, lCl (lA vq vl vr k).1 (lA vq vl vr k).2.1 (lA vq vl vr k).2.2 k, lCr (lA vq vl vr k).1 (lA vq vl vr k).2.1 (lA vq vl vr k).2.2 k)
theorem lA_p {vq vl vr : Nat → Int32} {k : Nat} (h : lBa (lA vq vl vr k).1 (lA vq vl vr k).2.2 k = 0) : lA vq vl vr (k + 1) = lA vq vl vr k := by rw [lA, if_pos h]
theorem lA_n {vq vl vr : Nat → Int32} {k : Nat} (h : ¬ lBa (lA vq vl vr k).1 (lA vq vl vr k).2.2 k = 0) : lA vq vl vr (k + 1) = (lCq (lA vq vl vr k).1 (lA vq vl vr k).2.1 (lA vq vl vr k).2.2 k, lCl (lA vq vl vr k).1 (lA vq vl vr k).2.1 (lA vq vl vr k).2.2 k, lCr (lA vq vl vr k).1 (lA vq vl vr k).2.1 (lA vq vl vr k).2.2 k) := by rw [lA, if_neg h]
theorem lCq_u (vq vl vr : Nat → Int32) (k j : Nat) (h : j ≠ 6) : lCq vq vl vr k j = vq j := pk_un h
theorem lA_u (vq vl vr : Nat → Int32) (j : Nat) (h : j ≠ 6) : ∀ k : Nat, (lA vq vl vr k).1 j = vq j
  | 0 => rfl
  | k + 1 => by
    rw [← lA_u vq vl vr j h k]
    by_cases c : lBa (lA vq vl vr k).1 (lA vq vl vr k).2.2 k = 0
    · rw [lA_p c]
    · rw [lA_n c]; exact lCq_u _ _ _ _ _ h
def lAn (vq vl vr : Nat → Int32) : Nat → Int32
  | 0 => nI 0
  | k + 1 => if lBa (lA vq vl vr k).1 (lA vq vl vr k).2.2 k = 0 then lAn vq vl vr k else if lCv (lA vq vl vr k).1 (lA vq vl vr k).2.1 (lA vq vl vr k).2.2 k < 0 then lAn vq vl vr k + nI 0 else lAn vq vl vr k + nI 1
theorem lAn_p {vq vl vr : Nat → Int32} {k : Nat} (h : lBa (lA vq vl vr k).1 (lA vq vl vr k).2.2 k = 0) : lAn vq vl vr (k + 1) = lAn vq vl vr k := by rw [lAn, if_pos h]
theorem lAn_a {vq vl vr : Nat → Int32} {k : Nat} (h : ¬ lBa (lA vq vl vr k).1 (lA vq vl vr k).2.2 k = 0) (h2 : lCv (lA vq vl vr k).1 (lA vq vl vr k).2.1 (lA vq vl vr k).2.2 k < 0) : lAn vq vl vr (k + 1) = lAn vq vl vr k + nI 0 := by rw [lAn, if_neg h, if_pos h2]
theorem lAn_b {vq vl vr : Nat → Int32} {k : Nat} (h : ¬ lBa (lA vq vl vr k).1 (lA vq vl vr k).2.2 k = 0) (h2 : ¬ lCv (lA vq vl vr k).1 (lA vq vl vr k).2.1 (lA vq vl vr k).2.2 k < 0) : lAn vq vl vr (k + 1) = lAn vq vl vr k + nI 1 := by rw [lAn, if_neg h, if_neg h2]
theorem le_nl {v : Int32} (h : 0 ≤ v) : ¬ v < 0 := by
  rw [Int32.le_iff_toInt_le, show (0 : Int32).toInt = 0 by decide] at h
  rw [Int32.lt_iff_toInt_lt, show (0 : Int32).toInt = 0 by decide]; omega
theorem nle_l {v : Int32} (h : ¬ 0 ≤ v) : v < 0 := by
  rw [Int32.le_iff_toInt_le, show (0 : Int32).toInt = 0 by decide] at h
  rw [Int32.lt_iff_toInt_lt, show (0 : Int32).toInt = 0 by decide]; omega
def l20 (x : Int32) : Int32 := if x ≤ nI 20 then x else nI 20
def u8V (vq : Nat → Int32) (vf : Nat → Int32) (vd : Nat → Int32) (vw : Nat → Int32) (vl : Nat → Int32) (vr : Nat → Int32) (n : Nat) (a : Nat) (b : Nat) (x : Int32) : Int32 := lAn vq vl vr n
def u8Q (vq : Nat → Int32) (vf : Nat → Int32) (vd : Nat → Int32) (vw : Nat → Int32) (vl : Nat → Int32) (vr : Nat → Int32) (n : Nat) (a : Nat) (b : Nat) (x : Int32) : Nat → Int32 := (lA vq vl vr n).1
def u8F (vq : Nat → Int32) (vf : Nat → Int32) (vd : Nat → Int32) (vw : Nat → Int32) (vl : Nat → Int32) (vr : Nat → Int32) (n : Nat) (a : Nat) (b : Nat) (x : Int32) : Nat → Int32 := vf
def u8D (vq : Nat → Int32) (vf : Nat → Int32) (vd : Nat → Int32) (vw : Nat → Int32) (vl : Nat → Int32) (vr : Nat → Int32) (n : Nat) (a : Nat) (b : Nat) (x : Int32) : Nat → Int32 := vd
def u8W (vq : Nat → Int32) (vf : Nat → Int32) (vd : Nat → Int32) (vw : Nat → Int32) (vl : Nat → Int32) (vr : Nat → Int32) (n : Nat) (a : Nat) (b : Nat) (x : Int32) : Nat → Int32 := vw
def u8L (vq : Nat → Int32) (vf : Nat → Int32) (vd : Nat → Int32) (vw : Nat → Int32) (vl : Nat → Int32) (vr : Nat → Int32) (n : Nat) (a : Nat) (b : Nat) (x : Int32) : Nat → Int32 := (lA vq vl vr n).2.1
def u8R (vq : Nat → Int32) (vf : Nat → Int32) (vd : Nat → Int32) (vw : Nat → Int32) (vl : Nat → Int32) (vr : Nat → Int32) (n : Nat) (a : Nat) (b : Nat) (x : Int32) : Nat → Int32 := (lA vq vl vr n).2.2
set_option maxHeartbeats 4000000 in
set_option maxRecDepth 100000 in
theorem c_L_due_8 (l : Launch) (E : EV) (a : Nat) (b : Nat) (x : Int32) (aq : Nat) (af : Nat) (ad : Nat) (aw : Nat) (al : Nat) (ar : Nat) (vq : Nat → Int32) (vf : Nat → Int32) (vd : Nat → Int32) (vw : Nat → Int32) (vl : Nat → Int32) (vr : Nat → Int32) (n : Nat) (hf : vq 4 = nI n) (hn : n ≤ 20) (ha9 : a < 21) (hst : ¬ vq 0 = 0) : rcI l E yL_due cL_due 13 .int 4 [.int (nI 8), .int (nI a), .int (nI b), .int x, .ref aq, .ref af, .ref ad, .ref aw, .ref al, .ref ar] [(aq, .inl (E.2.1, 13, .inl vq)), (af, .inl (E.2.1, 21, .inl vf)), (ad, .inl (E.2.1, 63, .inl vd)), (aw, .inl (E.2.1, 63, .inl vw)), (al, .inl (E.2.1, 63, .inl vl)), (ar, .inl (E.2.1, 63, .inl vr))] (u8V vq vf vd vw vl vr n a b x) [(aq, .inl (E.2.1, 13, .inl (u8Q vq vf vd vw vl vr n a b x))), (af, .inl (E.2.1, 21, .inl (u8F vq vf vd vw vl vr n a b x))), (ad, .inl (E.2.1, 63, .inl (u8D vq vf vd vw vl vr n a b x))), (aw, .inl (E.2.1, 63, .inl (u8W vq vf vd vw vl vr n a b x))), (al, .inl (E.2.1, 63, .inl (u8L vq vf vd vw vl vr n a b x))), (ar, .inl (E.2.1, 63, .inl (u8R vq vf vd vw vl vr n a b x)))] := by
  refine rcI_of (by decide) (Nat.le_of_ble_eq_true rfl) ?_
  intro pg e s m below meth c Q A ls S hP hD0 hE hA hl hret
  have hx := S.1
  have hb := S.2.1
  have hown := S.2.2.2.1
  have hts := S.2.2.2.2
  have hK := hE.1
  have hS : va_S A s.heap s.heap [] := va_S.rf
  have hDa : va_Da A [aq, af, ad, aw, al, ar] := ⟨_, hD0, rfl⟩
  have hl : lv_has ls 13 [(0, .int (nI 8)), (1, .int (nI a)), (2, .int (nI b)), (3, .int x), (4, .ref aq), (5, .ref af), (6, .ref ad), (7, .ref aw), (8, .ref al), (9, .ref ar)] := hl
  refine lv_iload_n hx hb dL_due_0 rfl (lv_at hl 0 rfl) ?_
  refine lv_if_ne (tgt := 135) hx hb dL_due_1 (by decide) (fun _ => ?_) (fun c9 => by first | exact absurd (by decide) c9 | exact absurd c9 (by decide))
  refine lv_iload_n hx hb dL_due_135 rfl (lv_at hl 0 rfl) ?_
  refine lv_bipush (v := nI 6) hx hb dL_due_136 (by decide) ?_
  refine rn_icmp_lt (a := 8) (b := 6) (tgt := 153) hx hb (by omega) (by omega) dL_due_138 (by decide) (fun c_1 => absurd c_1 (by omega)) (fun c_1 => ?_)
  refine lv_iload_n hx hb dL_due_141 rfl (lv_at hl 0 rfl) ?_
  refine lv_bipush (v := nI 7) hx hb dL_due_142 (by decide) ?_
  refine rn_icmp_eq (a := 8) (b := 7) (tgt := 153) hx hb (by omega) (by omega) dL_due_144 (by decide) (fun c_2 => absurd c_2 (by omega)) (fun c_2 => ?_)
  refine lv_iload_n hx hb dL_due_147 rfl (lv_at hl 0 rfl) ?_
  refine lv_bipush (v := nI 12) hx hb dL_due_148 (by decide) ?_
  refine rn_icmp_ne (a := 8) (b := 12) (tgt := 185) hx hb (by omega) (by omega) dL_due_150 (by decide) (fun c_3 => ?_) (fun c_3 => absurd c_3 (by omega))
  refine lv_iconst (v := nI 0) hx hb dL_due_185 (by decide) ?_
  refine lv_istore (lv' := [(10, .int (nI 0)), (0, .int (nI 8)), (1, .int (nI a)), (2, .int (nI b)), (3, .int x), (4, .ref aq), (5, .ref af), (6, .ref ad), (7, .ref aw), (8, .ref al), (9, .ref ar)]) hx hb dL_due_186 hl (by decide) rfl (fun ls hl => ?_)
  refine lv_iload_n hx hb dL_due_188 rfl (lv_at hl 1 rfl) ?_
  refine lv_bipush (v := nI 6) hx hb dL_due_189 (by decide) ?_
  refine rn_icmp_ne (a := 8) (b := 6) (tgt := 222) hx hb (by omega) (by omega) dL_due_191 (by decide) (fun c_4 => ?_) (fun c_4 => absurd c_4 (by omega))
  refine lv_iload_n hx hb dL_due_222 rfl (lv_at hl 1 rfl) ?_
  refine lv_bipush (v := nI 8) hx hb dL_due_223 (by decide) ?_
  refine rn_icmp_ne (a := 8) (b := 8) (tgt := 289) hx hb (by omega) (by omega) dL_due_225 (by decide) (fun c_5 => absurd c_5 (by omega)) (fun c_5 => ?_)
  refine lv_iconst (v := nI 0) hx hb dL_due_228 (by decide) ?_
  refine lv_istore (lv' := [(11, .int (nI 0)), (10, .int (nI 0)), (0, .int (nI 8)), (1, .int (nI a)), (2, .int (nI b)), (3, .int x), (4, .ref aq), (5, .ref af), (6, .ref ad), (7, .ref aw), (8, .ref al), (9, .ref ar)]) hx hb dL_due_229 hl (by decide) rfl (fun ls hl => ?_)
  have loop231 : ∀ (fuel : Nat) (k : Nat), n - k < fuel → (k ≤ n) → ∀ (H : Heap) (locs : List Loc), va_P E.1 vwCl [(aq, .inl (E.2.1, 13, .inl ((lA vq vl vr k).1))), (af, .inl (E.2.1, 21, .inl vf)), (ad, .inl (E.2.1, 63, .inl vd)), (aw, .inl (E.2.1, 63, .inl vw)), (al, .inl (E.2.1, 63, .inl ((lA vq vl vr k).2.1))), (ar, .inl (E.2.1, 63, .inl ((lA vq vl vr k).2.2)))] H → va_S A s.heap H locs → ∀ ls : Array Slot, lv_has ls 13 [(11, .int (nI k)), (10, .int (lAn vq vl vr k)), (0, .int (nI 8)), (1, .int (nI a)), (2, .int (nI b)), (3, .int x), (4, .ref aq), (5, .ref af), (6, .ref ad), (7, .ref aw), (8, .ref al), (9, .ref ar)] → W pg l e (rq 4) s m ([.int (nI 8), .int (nI a), .int (nI b), .int x, .ref aq, .ref af, .ref ad, .ref aw, .ref al, .ref ar] : List Value).toArray below meth c H locs 0 0 Q (F0 m 231 ls []) := by
    intro fuel
    induction fuel with
    | zero => intro k h9; exact absurd h9 (Nat.not_lt_zero _)
    | succ fuel ih231 =>
      intro k hfu231 hk H locs hP hS ls hl
      refine lv_iload hx hb dL_due_231 (lv_at hl 0 rfl) ?_
      refine lv_aload hx hb dL_due_233 (lv_at hl 6 rfl) ?_
      refine lv_iconst (v := nI 4) hx hb dL_due_235 (by decide) ?_
      refine rn_iald (i := 4) hx hb hK hP 0 0 rfl rfl (by omega) (by omega) dL_due_236 ?_
      refine W.eq (congrArg (fun z9 => F0 m 237 ls (.int z9 :: [.int (nI k)])) (show ((lA vq vl vr k).1) 4 = nI n from ((lA_u vq vl vr 4 (by decide) k).trans hf))) ?_
      refine rn_icmp_ge (a := k) (b := n) (tgt := 286) hx hb (by omega) (by omega) dL_due_237 (by decide) (fun c_6 => ?_) (fun c_6 => ?_)
      · have hex : n = k := by omega
        subst hex
        refine lv_iload hx hb dL_due_286 (lv_at hl 1 rfl) ?_
        exact hret _ _ _ _ _ _ (by rw [u8V]) (by rw [show u8Q vq vf vd vw vl vr n a b x = (lA vq vl vr n).1 from by rw [u8Q], show u8F vq vf vd vw vl vr n a b x = vf from by rw [u8F], show u8D vq vf vd vw vl vr n a b x = vd from by rw [u8D], show u8W vq vf vd vw vl vr n a b x = vw from by rw [u8W], show u8L vq vf vd vw vl vr n a b x = (lA vq vl vr n).2.1 from by rw [u8L], show u8R vq vf vd vw vl vr n a b x = (lA vq vl vr n).2.2 from by rw [u8R]]) rfl hP hS dL_due_288
      · refine lv_iload hx hb dL_due_240 (lv_at hl 0 rfl) ?_
        refine lv_aload hx hb dL_due_242 (lv_at hl 6 rfl) ?_
        refine lv_aload hx hb dL_due_244 (lv_at hl 11 rfl) ?_
        refine rwS3 (rest := []) S (c_L_isBad l E k aq ar ((lA vq vl vr k).1) ((lA vq vl vr k).2.2) (by omega)) cd_L_isBad bw_410 ⟨Nat.le_of_ble_eq_true rfl, Nat.le_of_ble_eq_true rfl⟩ ⟨Nat.zero_le _, Nat.zero_le _⟩ hP (hDa.to rfl) hE hA hS [0, 5] rfl rfl [aq, ar] rfl rfl (Nat.le_of_ble_eq_true rfl) hl.1 dL_due_246 (fun H locs hP _ hS => ?_)
        have hP : va_P E.1 vwCl [(aq, .inl (E.2.1, 13, .inl ((lA vq vl vr k).1))), (af, .inl (E.2.1, 21, .inl vf)), (ad, .inl (E.2.1, 63, .inl vd)), (aw, .inl (E.2.1, 63, .inl vw)), (al, .inl (E.2.1, 63, .inl ((lA vq vl vr k).2.1))), (ar, .inl (E.2.1, 63, .inl ((lA vq vl vr k).2.2)))] H := hP
        refine lv_if_eq (tgt := 280) hx hb dL_due_249 (by decide) (fun c_7 => ?_) (fun c_7 => ?_)
        · refine rn_inc (a := k) (d := 1) (lv' := [(11, .int (nI (k + 1))), (10, .int (lAn vq vl vr k)), (0, .int (nI 8)), (1, .int (nI a)), (2, .int (nI b)), (3, .int x), (4, .ref aq), (5, .ref af), (6, .ref ad), (7, .ref aw), (8, .ref al), (9, .ref ar)]) hx hb dL_due_280 hl (k := 0) rfl (by decide) (by decide) rfl (fun ls hl => ?_)
          refine lv_goto (tgt := 231) hx hb dL_due_283 (by decide) ?_
          have hP : va_P E.1 vwCl [(aq, .inl (E.2.1, 13, .inl ((lA vq vl vr (k + 1)).1))), (af, .inl (E.2.1, 21, .inl vf)), (ad, .inl (E.2.1, 63, .inl vd)), (aw, .inl (E.2.1, 63, .inl vw)), (al, .inl (E.2.1, 63, .inl ((lA vq vl vr (k + 1)).2.1))), (ar, .inl (E.2.1, 63, .inl ((lA vq vl vr (k + 1)).2.2)))] H := by rw [lA_p c_7]; exact hP
          have hl : lv_has ls 13 [(11, .int (nI (k + 1))), (10, .int (lAn vq vl vr k)), (0, .int (nI 8)), (1, .int (nI a)), (2, .int (nI b)), (3, .int x), (4, .ref aq), (5, .ref af), (6, .ref ad), (7, .ref aw), (8, .ref al), (9, .ref ar)] := lv_sub hl [0, 1, 2, 3, 4, 5, 6, 7, 8, 9, 10, 11] rfl
          have hl : lv_has ls 13 [(11, .int (nI (k + 1))), (10, .int (lAn vq vl vr (k + 1))), (0, .int (nI 8)), (1, .int (nI a)), (2, .int (nI b)), (3, .int x), (4, .ref aq), (5, .ref af), (6, .ref ad), (7, .ref aw), (8, .ref al), (9, .ref ar)] := by rw [lAn_p c_7]; exact hl
          exact ih231 (k + 1) (by omega) (by omega) _ _ hP hS _ hl
        · refine lv_iload hx hb dL_due_252 (lv_at hl 0 rfl) ?_
          refine lv_aload hx hb dL_due_254 (lv_at hl 6 rfl) ?_
          refine lv_aload hx hb dL_due_256 (lv_at hl 10 rfl) ?_
          refine lv_aload hx hb dL_due_258 (lv_at hl 11 rfl) ?_
          refine rwS4 (rest := []) S (c_L_corrects l E k aq al ar ((lA vq vl vr k).1) ((lA vq vl vr k).2.1) ((lA vq vl vr k).2.2) (by omega) (by rw [lA_u vq vl vr 0 (by decide)]; exact hst)) cd_L_corrects bw_395 ⟨Nat.le_of_ble_eq_true rfl, Nat.le_of_ble_eq_true rfl⟩ ⟨Nat.zero_le _, Nat.zero_le _⟩ hP (hDa.to rfl) hE hA hS [0, 4, 5] rfl rfl [aq, al, ar] rfl rfl (Nat.le_of_ble_eq_true rfl) hl.1 dL_due_260 (fun H locs hP _ hS => ?_)
          have hP : va_P E.1 vwCl [(aq, .inl (E.2.1, 13, .inl (lCq ((lA vq vl vr k).1) ((lA vq vl vr k).2.1) ((lA vq vl vr k).2.2) k))), (af, .inl (E.2.1, 21, .inl vf)), (ad, .inl (E.2.1, 63, .inl vd)), (aw, .inl (E.2.1, 63, .inl vw)), (al, .inl (E.2.1, 63, .inl (lCl ((lA vq vl vr k).1) ((lA vq vl vr k).2.1) ((lA vq vl vr k).2.2) k))), (ar, .inl (E.2.1, 63, .inl (lCr ((lA vq vl vr k).1) ((lA vq vl vr k).2.1) ((lA vq vl vr k).2.2) k)))] H := hP
          refine lv_istore (lv' := [(12, .int (lCv ((lA vq vl vr k).1) ((lA vq vl vr k).2.1) ((lA vq vl vr k).2.2) k)), (11, .int (nI k)), (10, .int (lAn vq vl vr k)), (0, .int (nI 8)), (1, .int (nI a)), (2, .int (nI b)), (3, .int x), (4, .ref aq), (5, .ref af), (6, .ref ad), (7, .ref aw), (8, .ref al), (9, .ref ar)]) hx hb dL_due_263 hl (by decide) rfl (fun ls hl => ?_)
          refine lv_iload hx hb dL_due_265 (lv_at hl 2 rfl) ?_
          refine lv_iload hx hb dL_due_267 (lv_at hl 0 rfl) ?_
          refine lv_if_ge (tgt := 276) hx hb dL_due_269 (by decide) (fun c_8 => ?_) (fun c_8 => ?_)
          · refine lv_iconst (v := nI 1) hx hb dL_due_276 (by decide) ?_
            refine lv_iadd hx hb dL_due_277 ?_
            refine lv_istore (lv' := [(10, .int (lAn vq vl vr k + (nI 1))), (12, .int (lCv ((lA vq vl vr k).1) ((lA vq vl vr k).2.1) ((lA vq vl vr k).2.2) k)), (11, .int (nI k)), (0, .int (nI 8)), (1, .int (nI a)), (2, .int (nI b)), (3, .int x), (4, .ref aq), (5, .ref af), (6, .ref ad), (7, .ref aw), (8, .ref al), (9, .ref ar)]) hx hb dL_due_278 hl (by decide) rfl (fun ls hl => ?_)
            refine rn_inc (a := k) (d := 1) (lv' := [(11, .int (nI (k + 1))), (10, .int (lAn vq vl vr k + (nI 1))), (12, .int (lCv ((lA vq vl vr k).1) ((lA vq vl vr k).2.1) ((lA vq vl vr k).2.2) k)), (0, .int (nI 8)), (1, .int (nI a)), (2, .int (nI b)), (3, .int x), (4, .ref aq), (5, .ref af), (6, .ref ad), (7, .ref aw), (8, .ref al), (9, .ref ar)]) hx hb dL_due_280 hl (k := 2) rfl (by decide) (by decide) rfl (fun ls hl => ?_)
            refine lv_goto (tgt := 231) hx hb dL_due_283 (by decide) ?_
            have hP : va_P E.1 vwCl [(aq, .inl (E.2.1, 13, .inl ((lA vq vl vr (k + 1)).1))), (af, .inl (E.2.1, 21, .inl vf)), (ad, .inl (E.2.1, 63, .inl vd)), (aw, .inl (E.2.1, 63, .inl vw)), (al, .inl (E.2.1, 63, .inl ((lA vq vl vr (k + 1)).2.1))), (ar, .inl (E.2.1, 63, .inl ((lA vq vl vr (k + 1)).2.2)))] H := by rw [lA_n c_7]; exact hP
            have hl : lv_has ls 13 [(11, .int (nI (k + 1))), (10, .int (lAn vq vl vr k + (nI 1))), (0, .int (nI 8)), (1, .int (nI a)), (2, .int (nI b)), (3, .int x), (4, .ref aq), (5, .ref af), (6, .ref ad), (7, .ref aw), (8, .ref al), (9, .ref ar)] := lv_sub hl [0, 1, 3, 4, 5, 6, 7, 8, 9, 10, 11, 12] rfl
            have hl : lv_has ls 13 [(11, .int (nI (k + 1))), (10, .int (lAn vq vl vr (k + 1))), (0, .int (nI 8)), (1, .int (nI a)), (2, .int (nI b)), (3, .int x), (4, .ref aq), (5, .ref af), (6, .ref ad), (7, .ref aw), (8, .ref al), (9, .ref ar)] := by rw [lAn_b c_7 (le_nl c_8)]; exact hl
            exact ih231 (k + 1) (by omega) (by omega) _ _ hP hS _ hl
          · refine lv_iconst (v := nI 0) hx hb dL_due_272 (by decide) ?_
            refine lv_goto (tgt := 277) hx hb dL_due_273 (by decide) ?_
            refine lv_iadd hx hb dL_due_277 ?_
            refine lv_istore (lv' := [(10, .int (lAn vq vl vr k + (nI 0))), (12, .int (lCv ((lA vq vl vr k).1) ((lA vq vl vr k).2.1) ((lA vq vl vr k).2.2) k)), (11, .int (nI k)), (0, .int (nI 8)), (1, .int (nI a)), (2, .int (nI b)), (3, .int x), (4, .ref aq), (5, .ref af), (6, .ref ad), (7, .ref aw), (8, .ref al), (9, .ref ar)]) hx hb dL_due_278 hl (by decide) rfl (fun ls hl => ?_)
            refine rn_inc (a := k) (d := 1) (lv' := [(11, .int (nI (k + 1))), (10, .int (lAn vq vl vr k + (nI 0))), (12, .int (lCv ((lA vq vl vr k).1) ((lA vq vl vr k).2.1) ((lA vq vl vr k).2.2) k)), (0, .int (nI 8)), (1, .int (nI a)), (2, .int (nI b)), (3, .int x), (4, .ref aq), (5, .ref af), (6, .ref ad), (7, .ref aw), (8, .ref al), (9, .ref ar)]) hx hb dL_due_280 hl (k := 2) rfl (by decide) (by decide) rfl (fun ls hl => ?_)
            refine lv_goto (tgt := 231) hx hb dL_due_283 (by decide) ?_
            have hP : va_P E.1 vwCl [(aq, .inl (E.2.1, 13, .inl ((lA vq vl vr (k + 1)).1))), (af, .inl (E.2.1, 21, .inl vf)), (ad, .inl (E.2.1, 63, .inl vd)), (aw, .inl (E.2.1, 63, .inl vw)), (al, .inl (E.2.1, 63, .inl ((lA vq vl vr (k + 1)).2.1))), (ar, .inl (E.2.1, 63, .inl ((lA vq vl vr (k + 1)).2.2)))] H := by rw [lA_n c_7]; exact hP
            have hl : lv_has ls 13 [(11, .int (nI (k + 1))), (10, .int (lAn vq vl vr k + (nI 0))), (0, .int (nI 8)), (1, .int (nI a)), (2, .int (nI b)), (3, .int x), (4, .ref aq), (5, .ref af), (6, .ref ad), (7, .ref aw), (8, .ref al), (9, .ref ar)] := lv_sub hl [0, 1, 3, 4, 5, 6, 7, 8, 9, 10, 11, 12] rfl
            have hl : lv_has ls 13 [(11, .int (nI (k + 1))), (10, .int (lAn vq vl vr (k + 1))), (0, .int (nI 8)), (1, .int (nI a)), (2, .int (nI b)), (3, .int x), (4, .ref aq), (5, .ref af), (6, .ref ad), (7, .ref aw), (8, .ref al), (9, .ref ar)] := by rw [lAn_a c_7 (nle_l c_8)]; exact hl
            exact ih231 (k + 1) (by omega) (by omega) _ _ hP hS _ hl
  have hP : va_P E.1 vwCl [(aq, .inl (E.2.1, 13, .inl ((lA vq vl vr 0).1))), (af, .inl (E.2.1, 21, .inl vf)), (ad, .inl (E.2.1, 63, .inl vd)), (aw, .inl (E.2.1, 63, .inl vw)), (al, .inl (E.2.1, 63, .inl ((lA vq vl vr 0).2.1))), (ar, .inl (E.2.1, 63, .inl ((lA vq vl vr 0).2.2)))] s.heap := by exact hP
  have hl : lv_has ls 13 [(11, .int (nI 0)), (10, .int (lAn vq vl vr 0)), (0, .int (nI 8)), (1, .int (nI a)), (2, .int (nI b)), (3, .int x), (4, .ref aq), (5, .ref af), (6, .ref ad), (7, .ref aw), (8, .ref al), (9, .ref ar)] := lv_sub hl [0, 1, 2, 3, 4, 5, 6, 7, 8, 9, 10, 11] rfl
  exact loop231 _ 0 (Nat.lt_succ_self _) (by omega) _ _ hP hS _ hl

