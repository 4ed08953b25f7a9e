def u1V (vq : Nat → Int32) (vf : Nat → Int32) (vd : Nat → Int32) (vw : Nat → Int32) (vl : Nat → Int32) (vr : Nat → Int32) (n : Nat) (a : Nat) (b : Nat) (x : Int32) : Int32 := if a < n then s1V vq vf vd vw vl vr n a b x else (-1)
def u1Q (vq : Nat → Int32) (vf : Nat → Int32) (vd : Nat → Int32) (vw : Nat → Int32) (vl : Nat → Int32) (vr : Nat → Int32) (n : Nat) (a : Nat) (b : Nat) (x : Int32) : Nat → Int32 := if a < n then s1Q vq vf vd vw vl vr n a b x else vq
def u1F (vq : Nat → Int32) (vf : Nat → Int32) (vd : Nat → Int32) (vw : Nat → Int32) (vl : Nat → Int32) (vr : Nat → Int32) (n : Nat) (a : Nat) (b : Nat) (x : Int32) : Nat → Int32 := if a < n then s1F vq vf vd vw vl vr n a b x else vf
def u1D (vq : Nat → Int32) (vf : Nat → Int32) (vd : Nat → Int32) (vw : Nat → Int32) (vl : Nat → Int32) (vr : Nat → Int32) (n : Nat) (a : Nat) (b : Nat) (x : Int32) : Nat → Int32 := if a < n then s1D vq vf vd vw vl vr n a b x else vd
def u1W (vq : Nat → Int32) (vf : Nat → Int32) (vd : Nat → Int32) (vw : Nat → Int32) (vl : Nat → Int32) (vr : Nat → Int32) (n : Nat) (a : Nat) (b : Nat) (x : Int32) : Nat → Int32 := if a < n then s1W vq vf vd vw vl vr n a b x else vw
def u1L (vq : Nat → Int32) (vf : Nat → Int32) (vd : Nat → Int32) (vw : Nat → Int32) (vl : Nat → Int32) (vr : Nat → Int32) (n : Nat) (a : Nat) (b : Nat) (x : Int32) : Nat → Int32 := if a < n then s1L vq vf vd vw vl vr n a b x else vl
def u1R (vq : Nat → Int32) (vf : Nat → Int32) (vd : Nat → Int32) (vw : Nat → Int32) (vl : Nat → Int32) (vr : Nat → Int32) (n : Nat) (a : Nat) (b : Nat) (x : Int32) : Nat → Int32 := if a < n then s1R vq vf vd vw vl vr n a b x else vr
set_option maxHeartbeats 4000000 in
set_option maxRecDepth 100000 in
theorem c_L_due_1 (l : Launch) (E : EV) (a : Nat) (b : Nat) (x : Int32) (aq : Nat) (af : Nat) (ad : Nat) (aw : Nat) (al : Nat) (ar : Nat) (vq : Nat → Int32) (vf : Nat → Int32) (vd : Nat → Int32) (vw : Nat → Int32) (vl : Nat → Int32) (vr : Nat → Int32) (n : Nat) (hf : vq 4 = nI n) (hn : n ≤ 20) (ha9 : a < 21) (hb3 : b < 3) : rcI l E yL_due cL_due 13 .int 4 [.int (nI 1), .int (nI a), .int (nI b), .int x, .ref aq, .ref af, .ref ad, .ref aw, .ref al, .ref ar] [(aq, .inl (E.2.1, 13, .inl vq)), (af, .inl (E.2.1, 21, .inl vf)), (ad, .inl (E.2.1, 63, .inl vd)), (aw, .inl (E.2.1, 63, .inl vw)), (al, .inl (E.2.1, 63, .inl vl)), (ar, .inl (E.2.1, 63, .inl vr))] (u1V vq vf vd vw vl vr n a b x) [(aq, .inl (E.2.1, 13, .inl (u1Q vq vf vd vw vl vr n a b x))), (af, .inl (E.2.1, 21, .inl (u1F vq vf vd vw vl vr n a b x))), (ad, .inl (E.2.1, 63, .inl (u1D vq vf vd vw vl vr n a b x))), (aw, .inl (E.2.1, 63, .inl (u1W vq vf vd vw vl vr n a b x))), (al, .inl (E.2.1, 63, .inl (u1L vq vf vd vw vl vr n a b x))), (ar, .inl (E.2.1, 63, .inl (u1R vq vf vd vw vl vr n a b x)))] := by
  refine rcI_of (by decide) (Nat.le_of_ble_eq_true rfl) ?_
  intro pg e s m below meth c Q A ls S hP hD0 hE hA hl hret
  have hx := S.1
  have hb := S.2.1
  have hown := S.2.2.2.1
  have hts := S.2.2.2.2
  have hK := hE.1
  have hS : va_S A s.heap s.heap [] := va_S.rf
  have hDa : va_Da A [aq, af, ad, aw, al, ar] := ⟨_, hD0, rfl⟩
  have hl : lv_has ls 13 [(0, .int (nI 1)), (1, .int (nI a)), (2, .int (nI b)), (3, .int x), (4, .ref aq), (5, .ref af), (6, .ref ad), (7, .ref aw), (8, .ref al), (9, .ref ar)] := hl
  refine lv_iload_n hx hb dL_due_0 rfl (lv_at hl 0 rfl) ?_
  refine lv_if_ne (tgt := 135) hx hb dL_due_1 (by decide) (fun _ => ?_) (fun c9 => by first | exact absurd (by decide) c9 | exact absurd c9 (by decide))
  refine lv_iload_n hx hb dL_due_135 rfl (lv_at hl 0 rfl) ?_
  refine lv_bipush (v := nI 6) hx hb dL_due_136 (by decide) ?_
  refine rn_icmp_lt (a := 1) (b := 6) (tgt := 153) hx hb (by omega) (by omega) dL_due_138 (by decide) (fun c_1 => ?_) (fun c_1 => absurd c_1 (by omega))
  refine lv_iload_n hx hb dL_due_153 rfl (lv_at hl 1 rfl) ?_
  refine lv_aload hx hb dL_due_154 (lv_at hl 4 rfl) ?_
  refine lv_iconst (v := nI 4) hx hb dL_due_156 (by decide) ?_
  refine rn_iald (i := 4) hx hb hK hP 0 0 rfl rfl (by omega) (by omega) dL_due_157 ?_
  refine W.eq (congrArg (fun z9 => F0 m 158 ls (.int z9 :: [.int (nI a)])) (show vq 4 = nI n from hf)) ?_
  refine rn_icmp_lt (a := a) (b := n) (tgt := 165) hx hb (by omega) (by omega) dL_due_158 (by decide) (fun c_2 => ?_) (fun c_2 => ?_)
  · refine lv_iload_n hx hb dL_due_165 rfl (lv_at hl 0 rfl) ?_
    refine lv_iload_n hx hb dL_due_166 rfl (lv_at hl 1 rfl) ?_
    refine lv_iload_n hx hb dL_due_167 rfl (lv_at hl 2 rfl) ?_
    refine lv_iload_n hx hb dL_due_168 rfl (lv_at hl 3 rfl) ?_
    refine lv_aload hx hb dL_due_169 (lv_at hl 4 rfl) ?_
    refine lv_aload hx hb dL_due_171 (lv_at hl 5 rfl) ?_
    refine lv_aload hx hb dL_due_173 (lv_at hl 6 rfl) ?_
    refine lv_aload hx hb dL_due_175 (lv_at hl 7 rfl) ?_
    refine lv_aload hx hb dL_due_177 (lv_at hl 8 rfl) ?_
    refine lv_aload hx hb dL_due_179 (lv_at hl 9 rfl) ?_
    refine rwS10 (rest := []) S (c_L_ofShot_1 l E a b x aq af ad aw al ar vq vf vd vw vl vr n hf hn c_2 hb3) cd_L_ofShot bw_389 ⟨Nat.le_of_ble_eq_true rfl, Nat.le_of_ble_eq_true rfl⟩ ⟨Nat.zero_le _, Nat.zero_le _⟩ hP (hDa.to rfl) hE hA hS [0, 1, 2, 3, 4, 5] rfl rfl [aq, af, ad, aw, al, ar] rfl rfl (Nat.le_of_ble_eq_true rfl) hl.1 dL_due_181 (fun H locs hP _ hS => ?_)
    have hP : va_P E.1 vwCl [(aq, .inl (E.2.1, 13, .inl (s1Q vq vf vd vw vl vr n a b x))), (af, .inl (E.2.1, 21, .inl (s1F vq vf vd vw vl vr n a b x))), (ad, .inl (E.2.1, 63, .inl (s1D vq vf vd vw vl vr n a b x))), (aw, .inl (E.2.1, 63, .inl (s1W vq vf vd vw vl vr n a b x))), (al, .inl (E.2.1, 63, .inl (s1L vq vf vd vw vl vr n a b x))), (ar, .inl (E.2.1, 63, .inl (s1R vq vf vd vw vl vr n a b x)))] H := hP
    exact hret _ _ _ _ _ _ (by rw [u1V, if_pos c_2]) (by rw [show u1Q vq vf vd vw vl vr n a b x = s1Q vq vf vd vw vl vr n a b x from by rw [u1Q, if_pos c_2], show u1F vq vf vd vw vl vr n a b x = s1F vq vf vd vw vl vr n a b x from by rw [u1F, if_pos c_2], show u1D vq vf vd vw vl vr n a b x = s1D vq vf vd vw vl vr n a b x from by rw [u1D, if_pos c_2], show u1W vq vf vd vw vl vr n a b x = s1W vq vf vd vw vl vr n a b x from by rw [u1W, if_pos c_2], show u1L vq vf vd vw vl vr n a b x = s1L vq vf vd vw vl vr n a b x from by rw [u1L, if_pos c_2], show u1R vq vf vd vw vl vr n a b x = s1R vq vf vd vw vl vr n a b x from by rw [u1R, if_pos c_2]]) rfl hP hS dL_due_184
  · refine lv_iconst (v := (-1)) hx hb dL_due_161 (by decide) ?_
    refine lv_goto (tgt := 184) hx hb dL_due_162 (by decide) ?_
    exact hret _ _ _ _ _ _ (by rw [u1V, if_neg c_2]) (by rw [show u1Q vq vf vd vw vl vr n a b x = vq from by rw [u1Q, if_neg c_2], show u1F vq vf vd vw vl vr n a b x = vf from by rw [u1F, if_neg c_2], show u1D vq vf vd vw vl vr n a b x = vd from by rw [u1D, if_neg c_2], show u1W vq vf vd vw vl vr n a b x = vw from by rw [u1W, if_neg c_2], show u1L vq vf vd vw vl vr n a b x = vl from by rw [u1L, if_neg c_2], show u1R vq vf vd vw vl vr n a b x = vr from by rw [u1R, if_neg c_2]]) rfl hP hS dL_due_184

def u2V (vq : Nat → Int32) (vf : Nat → Int32) (vd : Nat → Int32) (vw : Nat → Int32) (vl : Nat → Int32) (vr : Nat → Int32) (n : Nat) (a : Nat) (b : Nat) (x : Int32) : Int32 := if a < n then s2V vq vf vd vw vl vr n a b x else (-1)
def u2Q (vq : Nat → Int32) (vf : Nat → Int32) (vd : Nat → Int32) (vw : Nat → Int32) (vl : Nat → Int32) (vr : Nat → Int32) (n : Nat) (a : Nat) (b : Nat) (x : Int32) : Nat → Int32 := if a < n then s2Q vq vf vd vw vl vr n a b x else vq
def u2F (vq : Nat → Int32) (vf : Nat → Int32) (vd : Nat → Int32) (vw : Nat → Int32) (vl : Nat → Int32) (vr : Nat → Int32) (n : Nat) (a : Nat) (b : Nat) (x : Int32) : Nat → Int32 := if a < n then s2F vq vf vd vw vl vr n a b x else vf
def u2D (vq : Nat → Int32) (vf : Nat → Int32) (vd : Nat → Int32) (vw : Nat → Int32) (vl : Nat → Int32) (vr : Nat → Int32) (n : Nat) (a : Nat) (b : Nat) (x : Int32) : Nat → Int32 := if a < n then s2D vq vf vd vw vl vr n a b x else vd
def u2W (vq : Nat → Int32) (vf : Nat → Int32) (vd : Nat → Int32) (vw : Nat → Int32) (vl : Nat → Int32) (vr : Nat → Int32) (n : Nat) (a : Nat) (b : Nat) (x : Int32) : Nat → Int32 := if a < n then s2W vq vf vd vw vl vr n a b x else vw
def u2L (vq : Nat → Int32) (vf : Nat → Int32) (vd : Nat → Int32) (vw : Nat → Int32) (vl : Nat → Int32) (vr : Nat → Int32) (n : Nat) (a : Nat) (b : Nat) (x : Int32) : Nat → Int32 := if a < n then s2L vq vf vd vw vl vr n a b x else vl
def u2R (vq : Nat → Int32) (vf : Nat → Int32) (vd : Nat → Int32) (vw : Nat → Int32) (vl : Nat → Int32) (vr : Nat → Int32) (n : Nat) (a : Nat) (b : Nat) (x : Int32) : Nat → Int32 := if a < n then s2R vq vf vd vw vl vr n a b x else vr
set_option maxHeartbeats 4000000 in
set_option maxRecDepth 100000 in
theorem c_L_due_2 (l : Launch) (E : EV) (a : Nat) (b : Nat) (x : Int32) (aq : Nat) (af : Nat) (ad : Nat) (aw : Nat) (al : Nat) (ar : Nat) (vq : Nat → Int32) (vf : Nat → Int32) (vd : Nat → Int32) (vw : Nat → Int32) (vl : Nat → Int32) (vr : Nat → Int32) (n : Nat) (hf : vq 4 = nI n) (hn : n ≤ 20) (ha9 : a < 21) (hb3 : b < 3) : rcI l E yL_due cL_due 13 .int 4 [.int (nI 2), .int (nI a), .int (nI b), .int x, .ref aq, .ref af, .ref ad, .ref aw, .ref al, .ref ar] [(aq, .inl (E.2.1, 13, .inl vq)), (af, .inl (E.2.1, 21, .inl vf)), (ad, .inl (E.2.1, 63, .inl vd)), (aw, .inl (E.2.1, 63, .inl vw)), (al, .inl (E.2.1, 63, .inl vl)), (ar, .inl (E.2.1, 63, .inl vr))] (u2V vq vf vd vw vl vr n a b x) [(aq, .inl (E.2.1, 13, .inl (u2Q vq vf vd vw vl vr n a b x))), (af, .inl (E.2.1, 21, .inl (u2F vq vf vd vw vl vr n a b x))), (ad, .inl (E.2.1, 63, .inl (u2D vq vf vd vw vl vr n a b x))), (aw, .inl (E.2.1, 63, .inl (u2W vq vf vd vw vl vr n a b x))), (al, .inl (E.2.1, 63, .inl (u2L vq vf vd vw vl vr n a b x))), (ar, .inl (E.2.1, 63, .inl (u2R vq vf vd vw vl vr n a b x)))] := by
  refine rcI_of (by decide) (Nat.le_of_ble_eq_true rfl) ?_
  intro pg e s m below meth c Q A ls S hP hD0 hE hA hl hret
  have hx := S.1
  have hb := S.2.1
  have hown := S.2.2.2.1
  have hts := S.2.2.2.2
  have hK := hE.1
  have hS : va_S A s.heap s.heap [] := va_S.rf
  have hDa : va_Da A [aq, af, ad, aw, al, ar] := ⟨_, hD0, rfl⟩
  have hl : lv_has ls 13 [(0, .int (nI 2)), (1, .int (nI a)), (2, .int (nI b)), (3, .int x), (4, .ref aq), (5, .ref af), (6, .ref ad), (7, .ref aw), (8, .ref al), (9, .ref ar)] := hl
  refine lv_iload_n hx hb dL_due_0 rfl (lv_at hl 0 rfl) ?_
  refine lv_if_ne (tgt := 135) hx hb dL_due_1 (by decide) (fun _ => ?_) (fun c9 => by first | exact absurd (by decide) c9 | exact absurd c9 (by decide))
  refine lv_iload_n hx hb dL_due_135 rfl (lv_at hl 0 rfl) ?_
  refine lv_bipush (v := nI 6) hx hb dL_due_136 (by decide) ?_
  refine rn_icmp_lt (a := 2) (b := 6) (tgt := 153) hx hb (by omega) (by omega) dL_due_138 (by decide) (fun c_1 => ?_) (fun c_1 => absurd c_1 (by omega))
  refine lv_iload_n hx hb dL_due_153 rfl (lv_at hl 1 rfl) ?_
  refine lv_aload hx hb dL_due_154 (lv_at hl 4 rfl) ?_
  refine lv_iconst (v := nI 4) hx hb dL_due_156 (by decide) ?_
  refine rn_iald (i := 4) hx hb hK hP 0 0 rfl rfl (by omega) (by omega) dL_due_157 ?_
  refine W.eq (congrArg (fun z9 => F0 m 158 ls (.int z9 :: [.int (nI a)])) (show vq 4 = nI n from hf)) ?_
  refine rn_icmp_lt (a := a) (b := n) (tgt := 165) hx hb (by omega) (by omega) dL_due_158 (by decide) (fun c_2 => ?_) (fun c_2 => ?_)
  · refine lv_iload_n hx hb dL_due_165 rfl (lv_at hl 0 rfl) ?_
    refine lv_iload_n hx hb dL_due_166 rfl (lv_at hl 1 rfl) ?_
    refine lv_iload_n hx hb dL_due_167 rfl (lv_at hl 2 rfl) ?_
    refine lv_iload_n hx hb dL_due_168 rfl (lv_at hl 3 rfl) ?_
    refine lv_aload hx hb dL_due_169 (lv_at hl 4 rfl) ?_
    refine lv_aload hx hb dL_due_171 (lv_at hl 5 rfl) ?_
    refine lv_aload hx hb dL_due_173 (lv_at hl 6 rfl) ?_
    refine lv_aload hx hb dL_due_175 (lv_at hl 7 rfl) ?_
    refine lv_aload hx hb dL_due_177 (lv_at hl 8 rfl) ?_
    refine lv_aload hx hb dL_due_179 (lv_at hl 9 rfl) ?_
    refine rwS10 (rest := []) S (c_L_ofShot_2 l E a b x aq af ad aw al ar vq vf vd vw vl vr n hf hn c_2 hb3) cd_L_ofShot bw_389 ⟨Nat.le_of_ble_eq_true rfl, Nat.le_of_ble_eq_true rfl⟩ ⟨Nat.zero_le _, Nat.zero_le _⟩ hP (hDa.to rfl) hE hA hS [0, 1, 2, 3, 4, 5] rfl rfl [aq, af, ad, aw, al, ar] rfl rfl (Nat.le_of_ble_eq_true rfl) hl.1 dL_due_181 (fun H locs hP _ hS => ?_)
    have hP : va_P E.1 vwCl [(aq, .inl (E.2.1, 13, .inl (s2Q vq vf vd vw vl vr n a b x))), (af, .inl (E.2.1, 21, .inl (s2F vq vf vd vw vl vr n a b x))), (ad, .inl (E.2.1, 63, .inl (s2D vq vf vd vw vl vr n a b x))), (aw, .inl (E.2.1, 63, .inl (s2W vq vf vd vw vl vr n a b x))), (al, .inl (E.2.1, 63, .inl (s2L vq vf vd vw vl vr n a b x))), (ar, .inl (E.2.1, 63, .inl (s2R vq vf vd vw vl vr n a b x)))] H := hP
    exact hret _ _ _ _ _ _ (by rw [u2V, if_pos c_2]) (by rw [show u2Q vq vf vd vw vl vr n a b x = s2Q vq vf vd vw vl vr n a b x from by rw [u2Q, if_pos c_2], show u2F vq vf vd vw vl vr n a b x = s2F vq vf vd vw vl vr n a b x from by rw [u2F, if_pos c_2], show u2D vq vf vd vw vl vr n a b x = s2D vq vf vd vw vl vr n a b x from by rw [u2D, if_pos c_2], show u2W vq vf vd vw vl vr n a b x = s2W vq vf vd vw vl vr n a b x from by rw [u2W, if_pos c_2], show u2L vq vf vd vw vl vr n a b x = s2L vq vf vd vw vl vr n a b x from by rw [u2L, if_pos c_2], show u2R vq vf vd vw vl vr n a b x = s2R vq vf vd vw vl vr n a b x from by rw [u2R, if_pos c_2]]) rfl hP hS dL_due_184
  · refine lv_iconst (v := (-1)) hx hb dL_due_161 (by decide) ?_
    refine lv_goto (tgt := 184) hx hb dL_due_162 (by decide) ?_
    exact hret _ _ _ _ _ _ (by rw [u2V, if_neg c_2]) (by rw [show u2Q vq vf vd vw vl vr n a b x = vq from by rw [u2Q, if_neg c_2], show u2F vq vf vd vw vl vr n a b x = vf from by rw [u2F, if_neg c_2], show u2D vq vf vd vw vl vr n a b x = vd from by rw [u2D, if_neg c_2], show u2W vq vf vd vw vl vr n a b x = vw from by rw [u2W, if_neg c_2], show u2L vq vf vd vw vl vr n a b x = vl from by rw [u2L, if_neg c_2], show u2R vq vf vd vw vl vr n a b x = vr from by rw [u2R, if_neg c_2]]) rfl hP hS dL_due_184

def u3V (vq : Nat → Int32) (vf : Nat → Int32) (vd : Nat → Int32) (vw : Nat → Int32) (vl : Nat → Int32) (vr : Nat → Int32) (n : Nat) (a : Nat) (b : Nat) (x : Int32) : Int32 := if a < n then s3V vq vf vd vw vl vr n a b x else (-1)
def u3Q (vq : Nat → Int32) (vf : Nat → Int32) (vd : Nat → Int32) (vw : Nat → Int32) (vl : Nat → Int32) (vr : Nat → Int32) (n : Nat) (a : Nat) (b : Nat) (x : Int32) : Nat → Int32 := if a < n then s3Q vq vf vd vw vl vr n a b x else vq
def u3F (vq : Nat → Int32) (vf : Nat → Int32) (vd : Nat → Int32) (vw : Nat → Int32) (vl : Nat → Int32) (vr : Nat → Int32) (n : Nat) (a : Nat) (b : Nat) (x : Int32) : Nat → Int32 := if a < n then s3F vq vf vd vw vl vr n a b x else vf
def u3D (vq : Nat → Int32) (vf : Nat → Int32) (vd : Nat → Int32) (vw : Nat → Int32) (vl : Nat → Int32) (vr : Nat → Int32) (n : Nat) (a : Nat) (b : Nat) (x : Int32) : Nat → Int32 := if a < n then s3D vq vf vd vw vl vr n a b x else vd
def u3W (vq : Nat → Int32) (vf : Nat → Int32) (vd : Nat → Int32) (vw : Nat → Int32) (vl : Nat → Int32) (vr : Nat → Int32) (n : Nat) (a : Nat) (b : Nat) (x : Int32) : Nat → Int32 := if a < n then s3W vq vf vd vw vl vr n a b x else vw
def u3L (vq : Nat → Int32) (vf : Nat → Int32) (vd : Nat → Int32) (vw : Nat → Int32) (vl : Nat → Int32) (vr : Nat → Int32) (n : Nat) (a : Nat) (b : Nat) (x : Int32) : Nat → Int32 := if a < n then s3L vq vf vd vw vl vr n a b x else vl
def u3R (vq : Nat → Int32) (vf : Nat → Int32) (vd : Nat → Int32) (vw : Nat → Int32) (vl : Nat → Int32) (vr : Nat → Int32) (n : Nat) (a : Nat) (b : Nat) (x : Int32) : Nat → Int32 := if a < n then s3R vq vf vd vw vl vr n a b x else vr
set_option maxHeartbeats 4000000 in
set_option maxRecDepth 100000 in
theorem c_L_due_3 (l : Launch) (E : EV) (a : Nat) (b : Nat) (x : Int32) (aq : Nat) (af : Nat) (ad : Nat) (aw : Nat) (al : Nat) (ar : Nat) (vq : Nat → Int32) (vf : Nat → Int32) (vd : Nat → Int32) (vw : Nat → Int32) (vl : Nat → Int32) (vr : Nat → Int32) (n : Nat) (hf : vq 4 = nI n) (hn : n ≤ 20) (ha9 : a < 21) : rcI l E yL_due cL_due 13 .int 4 [.int (nI 3), .int (nI a), .int (nI b), .int x, .ref aq, .ref af, .ref ad, .ref aw, .ref al, .ref ar] [(aq, .inl (E.2.1, 13, .inl vq)), (af, .inl (E.2.1, 21, .inl vf)), (ad, .inl (E.2.1, 63, .inl vd)), (aw, .inl (E.2.1, 63, .inl vw)), (al, .inl (E.2.1, 63, .inl vl)), (ar, .inl (E.2.1, 63, .inl vr))] (u3V vq vf vd vw vl vr n a b x) [(aq, .inl (E.2.1, 13, .inl (u3Q vq vf vd vw vl vr n a b x))), (af, .inl (E.2.1, 21, .inl (u3F vq vf vd vw vl vr n a b x))), (ad, .inl (E.2.1, 63, .inl (u3D vq vf vd vw vl vr n a b x))), (aw, .inl (E.2.1, 63, .inl (u3W vq vf vd vw vl vr n a b x))), (al, .inl (E.2.1, 63, .inl (u3L vq vf vd vw vl vr n a b x))), (ar, .inl (E.2.1, 63, .inl (u3R vq vf vd vw vl vr n a b x)))] := by
  refine rcI_of (by decide) (Nat.le_of_ble_eq_true rfl) ?_
  intro pg e s m below meth c Q A ls S hP hD0 hE hA hl hret
  have hx := S.1
  have hb := S.2.1
  have hown := S.2.2.2.1
  have hts := S.2.2.2.2
  have hK := hE.1
  have hS : va_S A s.heap s.heap [] := va_S.rf
  have hDa : va_Da A [aq, af, ad, aw, al, ar] := ⟨_, hD0, rfl⟩
  have hl : lv_has ls 13 [(0, .int (nI 3)), (1, .int (nI a)), (2, .int (nI b)), (3, .int x), (4, .ref aq), (5, .ref af), (6, .ref ad), (7, .ref aw), (8, .ref al), (9, .ref ar)] := hl
  refine lv_iload_n hx hb dL_due_0 rfl (lv_at hl 0 rfl) ?_
  refine lv_if_ne (tgt := 135) hx hb dL_due_1 (by decide) (fun _ => ?_) (fun c9 => by first | exact absurd (by decide) c9 | exact absurd c9 (by decide))
  refine lv_iload_n hx hb dL_due_135 rfl (lv_at hl 0 rfl) ?_
  refine lv_bipush (v := nI 6) hx hb dL_due_136 (by decide) ?_
  refine rn_icmp_lt (a := 3) (b := 6) (tgt := 153) hx hb (by omega) (by omega) dL_due_138 (by decide) (fun c_1 => ?_) (fun c_1 => absurd c_1 (by omega))
  refine lv_iload_n hx hb dL_due_153 rfl (lv_at hl 1 rfl) ?_
  refine lv_aload hx hb dL_due_154 (lv_at hl 4 rfl) ?_
  refine lv_iconst (v := nI 4) hx hb dL_due_156 (by decide) ?_
  refine rn_iald (i := 4) hx hb hK hP 0 0 rfl rfl (by omega) (by omega) dL_due_157 ?_
  refine W.eq (congrArg (fun z9 => F0 m 158 ls (.int z9 :: [.int (nI a)])) (show vq 4 = nI n from hf)) ?_
  refine rn_icmp_lt (a := a) (b := n) (tgt := 165) hx hb (by omega) (by omega) dL_due_158 (by decide) (fun c_2 => ?_) (fun c_2 => ?_)
  · refine lv_iload_n hx hb dL_due_165 rfl (lv_at hl 0 rfl) ?_
    refine lv_iload_n hx hb dL_due_166 rfl (lv_at hl 1 rfl) ?_
    refine lv_iload_n hx hb dL_due_167 rfl (lv_at hl 2 rfl) ?_
    refine lv_iload_n hx hb dL_due_168 rfl (lv_at hl 3 rfl) ?_
    refine lv_aload hx hb dL_due_169 (lv_at hl 4 rfl) ?_
    refine lv_aload hx hb dL_due_171 (lv_at hl 5 rfl) ?_
    refine lv_aload hx hb dL_due_173 (lv_at hl 6 rfl) ?_
    refine lv_aload hx hb dL_due_175 (lv_at hl 7 rfl) ?_
    refine lv_aload hx hb dL_due_177 (lv_at hl 8 rfl) ?_
    refine lv_aload hx hb dL_due_179 (lv_at hl 9 rfl) ?_
    refine rwS10 (rest := []) S (c_L_ofShot_3 l E a b x aq af ad aw al ar vq vf vd vw vl vr n hf hn c_2) cd_L_ofShot bw_389 ⟨Nat.le_of_ble_eq_true rfl, Nat.le_of_ble_eq_true rfl⟩ ⟨Nat.zero_le _, Nat.zero_le _⟩ hP (hDa.to rfl) hE hA hS [0, 1, 2, 3, 4, 5] rfl rfl [aq, af, ad, aw, al, ar] rfl rfl (Nat.le_of_ble_eq_true rfl) hl.1 dL_due_181 (fun H locs hP _ hS => ?_)
    have hP : va_P E.1 vwCl [(aq, .inl (E.2.1, 13, .inl (s3Q vq vf vd vw vl vr n a b x))), (af, .inl (E.2.1, 21, .inl (s3F vq vf vd vw vl vr n a b x))), (ad, .inl (E.2.1, 63, .inl (s3D vq vf vd vw vl vr n a b x))), (aw, .inl (E.2.1, 63, .inl (s3W vq vf vd vw vl vr n a b x))), (al, .inl (E.2.1, 63, .inl (s3L vq vf vd vw vl vr n a b x))), (ar, .inl (E.2.1, 63, .inl (s3R vq vf vd vw vl vr n a b x)))] H := hP
    exact hret _ _ _ _ _ _ (by rw [u3V, if_pos c_2]) (by rw [show u3Q vq vf vd vw vl vr n a b x = s3Q vq vf vd vw vl vr n a b x from by rw [u3Q, if_pos c_2], show u3F vq vf vd vw vl vr n a b x = s3F vq vf vd vw vl vr n a b x from by rw [u3F, if_pos c_2], show u3D vq vf vd vw vl vr n a b x = s3D vq vf vd vw vl vr n a b x from by rw [u3D, if_pos c_2], show u3W vq vf vd vw vl vr n a b x = s3W vq vf vd vw vl vr n a b x from by rw [u3W, if_pos c_2], show u3L vq vf vd vw vl vr n a b x = s3L vq vf vd vw vl vr n a b x from by rw [u3L, if_pos c_2], show u3R vq vf vd vw vl vr n a b x = s3R vq vf vd vw vl vr n a b x from by rw [u3R, if_pos c_2]]) rfl hP hS dL_due_184
  · refine lv_iconst (v := (-1)) hx hb dL_due_161 (by decide) ?_
    refine lv_goto (tgt := 184) hx hb dL_due_162 (by decide) ?_
    exact hret _ _ _ _ _ _ (by rw [u3V, if_neg c_2]) (by rw [show u3Q vq vf vd vw vl vr n a b x = vq from by rw [u3Q, if_neg c_2], show u3F vq vf vd vw vl vr n a b x = vf from by rw [u3F, if_neg c_2], show u3D vq vf vd vw vl vr n a b x = vd from by rw [u3D, if_neg c_2], show u3W vq vf vd vw vl vr n a b x = vw from by rw [u3W, if_neg c_2], show u3L vq vf vd vw vl vr n a b x = vl from by rw [u3L, if_neg c_2], show u3R vq vf vd vw vl vr n a b x = vr from by rw [u3R, if_neg c_2]]) rfl hP hS dL_due_184

def u4V (vq : Nat → Int32) (vf : Nat → Int32) (vd : Nat → Int32) (vw : Nat → Int32) (vl : Nat → Int32) (vr : Nat → Int32) (n : Nat) (a : Nat) (b : Nat) (x : Int32) : Int32 := if a < n then s4V vq vf vd vw vl vr n a b x else (-1)
def u4Q (vq : Nat → Int32) (vf : Nat → Int32) (vd : Nat → Int32) (vw : Nat → Int32) (vl : Nat → Int32) (vr : Nat → Int32) (n : Nat) (a : Nat) (b : Nat) (x : Int32) : Nat → Int32 := if a < n then s4Q vq vf vd vw vl vr n a b x else vq
def u4F (vq : Nat → Int32) (vf : Nat → Int32) (vd : Nat → Int32) (vw : Nat → Int32) (vl : Nat → Int32) (vr : Nat → Int32) (n : Nat) (a : Nat) (b : Nat) (x : Int32) : Nat → Int32 := if a < n then s4F vq vf vd vw vl vr n a b x else vf
def u4D (vq : Nat → Int32) (vf : Nat → Int32) (vd : Nat → Int32) (vw : Nat → Int32) (vl : Nat → Int32) (vr : Nat → Int32) (n : Nat) (a : Nat) (b : Nat) (x : Int32) : Nat → Int32 := if a < n then s4D vq vf vd vw vl vr n a b x else vd
def u4W (vq : Nat → Int32) (vf : Nat → Int32) (vd : Nat → Int32) (vw : Nat → Int32) (vl : Nat → Int32) (vr : Nat → Int32) (n : Nat) (a : Nat) (b : Nat) (x : Int32) : Nat → Int32 := if a < n then s4W vq vf vd vw vl vr n a b x else vw
def u4L (vq : Nat → Int32) (vf : Nat → Int32) (vd : Nat → Int32) (vw : Nat → Int32) (vl : Nat → Int32) (vr : Nat → Int32) (n : Nat) (a : Nat) (b : Nat) (x : Int32) : Nat → Int32 := if a < n then s4L vq vf vd vw vl vr n a b x else vl
def u4R (vq : Nat → Int32) (vf : Nat → Int32) (vd : Nat → Int32) (vw : Nat → Int32) (vl : Nat → Int32) (vr : Nat → Int32) (n : Nat) (a : Nat) (b : Nat) (x : Int32) : Nat → Int32 := if a < n then s4R vq vf vd vw vl vr n a b x else vr
set_option maxHeartbeats 4000000 in
set_option maxRecDepth 100000 in
theorem c_L_due_4 (l : Launch) (E : EV) (a : Nat) (b : Nat) (x : Int32) (aq : Nat) (af : Nat) (ad : Nat) (aw : Nat) (al : Nat) (ar : Nat) (vq : Nat → Int32) (vf : Nat → Int32) (vd : Nat → Int32) (vw : Nat → Int32) (vl : Nat → Int32) (vr : Nat → Int32) (n : Nat) (hf : vq 4 = nI n) (hn : n ≤ 20) (ha9 : a < 21) : rcI l E yL_due cL_due 13 .int 4 [.int (nI 4), .int (nI a), .int (nI b), .int x, .ref aq, .ref af, .ref ad, .ref aw, .ref al, .ref ar] [(aq, .inl (E.2.1, 13, .inl vq)), (af, .inl (E.2.1, 21, .inl vf)), (ad, .inl (E.2.1, 63, .inl vd)), (aw, .inl (E.2.1, 63, .inl vw)), (al, .inl (E.2.1, 63, .inl vl)), (ar, .inl (E.2.1, 63, .inl vr))] (u4V vq vf vd vw vl vr n a b x) [(aq, .inl (E.2.1, 13, .inl (u4Q vq vf vd vw vl vr n a b x))), (af, .inl (E.2.1, 21, .inl (u4F vq vf vd vw vl vr n a b x))), (ad, .inl (E.2.1, 63, .inl (u4D vq vf vd vw vl vr n a b x))), (aw, .inl (E.2.1, 63, .inl (u4W vq vf vd vw vl vr n a b x))), (al, .inl (E.2.1, 63, .inl (u4L vq vf vd vw vl vr n a b x))), (ar, .inl (E.2.1, 63, .inl (u4R vq vf vd vw vl vr n a b x)))] := by
  refine rcI_of (by decide) (Nat.le_of_ble_eq_true rfl) ?_
  intro pg e s m below meth c Q A ls S hP hD0 hE hA hl hret
  have hx := S.1
  have hb := S.2.1
  have hown := S.2.2.2.1
  have hts := S.2.2.2.2
  have hK := hE.1
  have hS : va_S A s.heap s.heap [] := va_S.rf
  have hDa : va_Da A [aq, af, ad, aw, al, ar] := ⟨_, hD0, rfl⟩
  have hl : lv_has ls 13 [(0, .int (nI 4)), (1, .int (nI a)), (2, .int (nI b)), (3, .int x), (4, .ref aq), (5, .ref af), (6, .ref ad), (7, .ref aw), (8, .ref al), (9, .ref ar)] := hl
  refine lv_iload_n hx hb dL_due_0 rfl (lv_at hl 0 rfl) ?_
  refine lv_if_ne (tgt := 135) hx hb dL_due_1 (by decide) (fun _ => ?_) (fun c9 => by first | exact absurd (by decide) c9 | exact absurd c9 (by decide))
  refine lv_iload_n hx hb dL_due_135 rfl (lv_at hl 0 rfl) ?_
  refine lv_bipush (v := nI 6) hx hb dL_due_136 (by decide) ?_
  refine rn_icmp_lt (a := 4) (b := 6) (tgt := 153) hx hb (by omega) (by omega) dL_due_138 (by decide) (fun c_1 => ?_) (fun c_1 => absurd c_1 (by omega))
  refine lv_iload_n hx hb dL_due_153 rfl (lv_at hl 1 rfl) ?_
  refine lv_aload hx hb dL_due_154 (lv_at hl 4 rfl) ?_
  refine lv_iconst (v := nI 4) hx hb dL_due_156 (by decide) ?_
  refine rn_iald (i := 4) hx hb hK hP 0 0 rfl rfl (by omega) (by omega) dL_due_157 ?_
  refine W.eq (congrArg (fun z9 => F0 m 158 ls (.int z9 :: [.int (nI a)])) (show vq 4 = nI n from hf)) ?_
  refine rn_icmp_lt (a := a) (b := n) (tgt := 165) hx hb (by omega) (by omega) dL_due_158 (by decide) (fun c_2 => ?_) (fun c_2 => ?_)
  · refine lv_iload_n hx hb dL_due_165 rfl (lv_at hl 0 rfl) ?_
    refine lv_iload_n hx hb dL_due_166 rfl (lv_at hl 1 rfl) ?_
    refine lv_iload_n hx hb dL_due_167 rfl (lv_at hl 2 rfl) ?_
    refine lv_iload_n hx hb dL_due_168 rfl (lv_at hl 3 rfl) ?_
    refine lv_aload hx hb dL_due_169 (lv_at hl 4 rfl) ?_
    refine lv_aload hx hb dL_due_171 (lv_at hl 5 rfl) ?_
    refine lv_aload hx hb dL_due_173 (lv_at hl 6 rfl) ?_
    refine lv_aload hx hb dL_due_175 (lv_at hl 7 rfl) ?_
    refine lv_aload hx hb dL_due_177 (lv_at hl 8 rfl) ?_
    refine lv_aload hx hb dL_due_179 (lv_at hl 9 rfl) ?_
    refine rwS10 (rest := []) S (c_L_ofShot_4 l E a b x aq af ad aw al ar vq vf vd vw vl vr n hf hn c_2) cd_L_ofShot bw_389 ⟨Nat.le_of_ble_eq_true rfl, Nat.le_of_ble_eq_true rfl⟩ ⟨Nat.zero_le _, Nat.zero_le _⟩ hP (hDa.to rfl) hE hA hS [0, 1, 2, 3, 4, 5] rfl rfl [aq, af, ad, aw, al, ar] rfl rfl (Nat.le_of_ble_eq_true rfl) hl.1 dL_due_181 (fun H locs hP _ hS => ?_)
    have hP : va_P E.1 vwCl [(aq, .inl (E.2.1, 13, .inl (s4Q vq vf vd vw vl vr n a b x))), (af, .inl (E.2.1, 21, .inl (s4F vq vf vd vw vl vr n a b x))), (ad, .inl (E.2.1, 63, .inl (s4D vq vf vd vw vl vr n a b x))), (aw, .inl (E.2.1, 63, .inl (s4W vq vf vd vw vl vr n a b x))), (al, .inl (E.2.1, 63, .inl (s4L vq vf vd vw vl vr n a b x))), (ar, .inl (E.2.1, 63, .inl (s4R vq vf vd vw vl vr n a b x)))] H := hP
    exact hret _ _ _ _ _ _ (by rw [u4V, if_pos c_2]) (by rw [show u4Q vq vf vd vw vl vr n a b x = s4Q vq vf vd vw vl vr n a b x from by rw [u4Q, if_pos c_2], show u4F vq vf vd vw vl vr n a b x = s4F vq vf vd vw vl vr n a b x from by rw [u4F, if_pos c_2], show u4D vq vf vd vw vl vr n a b x = s4D vq vf vd vw vl vr n a b x from by rw [u4D, if_pos c_2], show u4W vq vf vd vw vl vr n a b x = s4W vq vf vd vw vl vr n a b x from by rw [u4W, if_pos c_2], show u4L vq vf vd vw vl vr n a b x = s4L vq vf vd vw vl vr n a b x from by rw [u4L, if_pos c_2], show u4R vq vf vd vw vl vr n a b x = s4R vq vf vd vw vl vr n a b x from by rw [u4R, if_pos c_2]]) rfl hP hS dL_due_184
  · refine lv_iconst (v := (-1)) hx hb dL_due_161 (by decide) ?_
    refine lv_goto (tgt := 184) hx hb dL_due_162 (by decide) ?_
    exact hret _ _ _ _ _ _ (by rw [u4V, if_neg c_2]) (by rw [show u4Q vq vf vd vw vl vr n a b x = vq from by rw [u4Q, if_neg c_2], show u4F vq vf vd vw vl vr n a b x = vf from by rw [u4F, if_neg c_2], show u4D vq vf vd vw vl vr n a b x = vd from by rw [u4D, if_neg c_2], show u4W vq vf vd vw vl vr n a b x = vw from by rw [u4W, if_neg c_2], show u4L vq vf vd vw vl vr n a b x = vl from by rw [u4L, if_neg c_2], show u4R vq vf vd vw vl vr n a b x = vr from by rw [u4R, if_neg c_2]]) rfl hP hS dL_due_184

def u5V (vq : Nat → Int32) (vf : Nat → Int32) (vd : Nat → Int32) (vw : Nat → Int32) (vl : Nat → Int32) (vr : Nat → Int32) (n : Nat) (a : Nat) (b : Nat) (x : Int32) : Int32 := if a < n then s5V vq vf vd vw vl vr n a b x else (-1)
def u5Q (vq : Nat → Int32) (vf : Nat → Int32) (vd : Nat → Int32) (vw : Nat → Int32) (vl : Nat → Int32) (vr : Nat → Int32) (n : Nat) (a : Nat) (b : Nat) (x : Int32) : Nat → Int32 := if a < n then s5Q vq vf vd vw vl vr n a b x else vq
def u5F (vq : Nat → Int32) (vf : Nat → Int32) (vd : Nat → Int32) (vw : Nat → Int32) (vl : Nat → Int32) (vr : Nat → Int32) (n : Nat) (a : Nat) (b : Nat) (x : Int32) : Nat → Int32 := if a < n then s5F vq vf vd vw vl vr n a b x else vf
def u5D (vq : Nat → Int32) (vf : Nat → Int32) (vd : Nat → Int32) (vw : Nat → Int32) (vl : Nat → Int32) (vr : Nat → Int32) (n : Nat) (a : Nat) (b : Nat) (x : Int32) : Nat → Int32 := if a < n then s5D vq vf vd vw vl vr n a b x else vd
def u5W (vq : Nat → Int32) (vf : Nat → Int32) (vd : Nat → Int32) (vw : Nat → Int32) (vl : Nat → Int32) (vr : Nat → Int32) (n : Nat) (a : Nat) (b : Nat) (x : Int32) : Nat → Int32 := if a < n then s5W vq vf vd vw vl vr n a b x else vw
def u5L (vq : Nat → Int32) (vf : Nat → Int32) (vd : Nat → Int32) (vw : Nat → Int32) (vl : Nat → Int32) (vr : Nat → Int32) (n : Nat) (a : Nat) (b : Nat) (x : Int32) : Nat → Int32 := if a < n then s5L vq vf vd vw vl vr n a b x else vl
def u5R (vq : Nat → Int32) (vf : Nat → Int32) (vd : Nat → Int32) (vw : Nat → Int32) (vl : Nat → Int32) (vr : Nat → Int32) (n : Nat) (a : Nat) (b : Nat) (x : Int32) : Nat → Int32 := if a < n then s5R vq vf vd vw vl vr n a b x else vr
set_option maxHeartbeats 4000000 in
set_option maxRecDepth 100000 in
theorem c_L_due_5 (l : Launch) (E : EV) (a : Nat) (b : Nat) (x : Int32) (aq : Nat) (af : Nat) (ad : Nat) (aw : Nat) (al : Nat) (ar : Nat) (vq : Nat → Int32) (vf : Nat → Int32) (vd : Nat → Int32) (vw : Nat → Int32) (vl : Nat → Int32) (vr : Nat → Int32) (n : Nat) (hf : vq 4 = nI n) (hn : n ≤ 20) (ha9 : a < 21) : rcI l E yL_due cL_due 13 .int 4 [.int (nI 5), .int (nI a), .int (nI b), .int x, .ref aq, .ref af, .ref ad, .ref aw, .ref al, .ref ar] [(aq, .inl (E.2.1, 13, .inl vq)), (af, .inl (E.2.1, 21, .inl vf)), (ad, .inl (E.2.1, 63, .inl vd)), (aw, .inl (E.2.1, 63, .inl vw)), (al, .inl (E.2.1, 63, .inl vl)), (ar, .inl (E.2.1, 63, .inl vr))] (u5V vq vf vd vw vl vr n a b x) [(aq, .inl (E.2.1, 13, .inl (u5Q vq vf vd vw vl vr n a b x))), (af, .inl (E.2.1, 21, .inl (u5F vq vf vd vw vl vr n a b x))), (ad, .inl (E.2.1, 63, .inl (u5D vq vf vd vw vl vr n a b x))), (aw, .inl (E.2.1, 63, .inl (u5W vq vf vd vw vl vr n a b x))), (al, .inl (E.2.1, 63, .inl (u5L vq vf vd vw vl vr n a b x))), (ar, .inl (E.2.1, 63, .inl (u5R vq vf vd vw vl vr n a b x)))] := by
  refine rcI_of (by decide) (Nat.le_of_ble_eq_true rfl) ?_
  intro pg e s m below meth c Q A ls S hP hD0 hE hA hl hret
  have hx := S.1
  have hb := S.2.1
  have hown := S.2.2.2.1
  have hts := S.2.2.2.2
  have hK := hE.1
  have hS : va_S A s.heap s.heap [] := va_S.rf
  have hDa : va_Da A [aq, af, ad, aw, al, ar] := ⟨_, hD0, rfl⟩
  have hl : lv_has ls 13 [(0, .int (nI 5)), (1, .int (nI a)), (2, .int (nI b)), (3, .int x), (4, .ref aq), (5, .ref af), (6, .ref ad), (7, .ref aw), (8, .ref al), (9, .ref ar)] := hl
  refine lv_iload_n hx hb dL_due_0 rfl (lv_at hl 0 rfl) ?_
  refine lv_if_ne (tgt := 135) hx hb dL_due_1 (by decide) (fun _ => ?_) (fun c9 => by first | exact absurd (by decide) c9 | exact absurd c9 (by decide))
  refine lv_iload_n hx hb dL_due_135 rfl (lv_at hl 0 rfl) ?_
  refine lv_bipush (v := nI 6) hx hb dL_due_136 (by decide) ?_
  refine rn_icmp_lt (a := 5) (b := 6) (tgt := 153) hx hb (by omega) (by omega) dL_due_138 (by decide) (fun c_1 => ?_) (fun c_1 => absurd c_1 (by omega))
  refine lv_iload_n hx hb dL_due_153 rfl (lv_at hl 1 rfl) ?_
  refine lv_aload hx hb dL_due_154 (lv_at hl 4 rfl) ?_
  refine lv_iconst (v := nI 4) hx hb dL_due_156 (by decide) ?_
  refine rn_iald (i := 4) hx hb hK hP 0 0 rfl rfl (by omega) (by omega) dL_due_157 ?_
  refine W.eq (congrArg (fun z9 => F0 m 158 ls (.int z9 :: [.int (nI a)])) (show vq 4 = nI n from hf)) ?_
  refine rn_icmp_lt (a := a) (b := n) (tgt := 165) hx hb (by omega) (by omega) dL_due_158 (by decide) (fun c_2 => ?_) (fun c_2 => ?_)
  · refine lv_iload_n hx hb dL_due_165 rfl (lv_at hl 0 rfl) ?_
    refine lv_iload_n hx hb dL_due_166 rfl (lv_at hl 1 rfl) ?_
    refine lv_iload_n hx hb dL_due_167 rfl (lv_at hl 2 rfl) ?_
    refine lv_iload_n hx hb dL_due_168 rfl (lv_at hl 3 rfl) ?_
    refine lv_aload hx hb dL_due_169 (lv_at hl 4 rfl) ?_
    refine lv_aload hx hb dL_due_171 (lv_at hl 5 rfl) ?_
    refine lv_aload hx hb dL_due_173 (lv_at hl 6 rfl) ?_
    refine lv_aload hx hb dL_due_175 (lv_at hl 7 rfl) ?_
    refine lv_aload hx hb dL_due_177 (lv_at hl 8 rfl) ?_
    refine lv_aload hx hb dL_due_179 (lv_at hl 9 rfl) ?_
    refine rwS10 (rest := []) S (c_L_ofShot_5 l E a b x aq af ad aw al ar vq vf vd vw vl vr n hf hn c_2) cd_L_ofShot bw_389 ⟨Nat.le_of_ble_eq_true rfl, Nat.le_of_ble_eq_true rfl⟩ ⟨Nat.zero_le _, Nat.zero_le _⟩ hP (hDa.to rfl) hE hA hS [0, 1, 2, 3, 4, 5] rfl rfl [aq, af, ad, aw, al, ar] rfl rfl (Nat.le_of_ble_eq_true rfl) hl.1 dL_due_181 (fun H locs hP _ hS => ?_)
    have hP : va_P E.1 vwCl [(aq, .inl (E.2.1, 13, .inl (s5Q vq vf vd vw vl vr n a b x))), (af, .inl (E.2.1, 21, .inl (s5F vq vf vd vw vl vr n a b x))), (ad, .inl (E.2.1, 63, .inl (s5D vq vf vd vw vl vr n a b x))), (aw, .inl (E.2.1, 63, .inl (s5W vq vf vd vw vl vr n a b x))), (al, .inl (E.2.1, 63, .inl (s5L vq vf vd vw vl vr n a b x))), (ar, .inl (E.2.1, 63, .inl (s5R vq vf vd vw vl vr n a b x)))] H := hP
    exact hret _ _ _ _ _ _ (by rw [u5V, if_pos c_2]) (by rw [show u5Q vq vf vd vw vl vr n a b x = s5Q vq vf vd vw vl vr n a b x from by rw [u5Q, if_pos c_2], show u5F vq vf vd vw vl vr n a b x = s5F vq vf vd vw vl vr n a b x from by rw [u5F, if_pos c_2], show u5D vq vf vd vw vl vr n a b x = s5D vq vf vd vw vl vr n a b x from by rw [u5D, if_pos c_2], show u5W vq vf vd vw vl vr n a b x = s5W vq vf vd vw vl vr n a b x from by rw [u5W, if_pos c_2], show u5L vq vf vd vw vl vr n a b x = s5L vq vf vd vw vl vr n a b x from by rw [u5L, if_pos c_2], show u5R vq vf vd vw vl vr n a b x = s5R vq vf vd vw vl vr n a b x from by rw [u5R, if_pos c_2]]) rfl hP hS dL_due_184
  · refine lv_iconst (v := (-1)) hx hb dL_due_161 (by decide) ?_
    refine lv_goto (tgt := 184) hx hb dL_due_162 (by decide) ?_
    exact hret _ _ _ _ _ _ (by rw [u5V, if_neg c_2]) (by rw [show u5Q vq vf vd vw vl vr n a b x = vq from by rw [u5Q, if_neg c_2], show u5F vq vf vd vw vl vr n a b x = vf from by rw [u5F, if_neg c_2], show u5D vq vf vd vw vl vr n a b x = vd from by rw [u5D, if_neg c_2], show u5W vq vf vd vw vl vr n a b x = vw from by rw [u5W, if_neg c_2], show u5L vq vf vd vw vl vr n a b x = vl from by rw [u5L, if_neg c_2], show u5R vq vf vd vw vl vr n a b x = vr from by rw [u5R, if_neg c_2]]) rfl hP hS dL_due_184

def u7V (vq : Nat → Int32) (vf : Nat → Int32) (vd : Nat → Int32) (vw : Nat → Int32) (vl : Nat → Int32) (vr : Nat → Int32) (n : Nat) (a : Nat) (b : Nat) (x : Int32) : Int32 := if a < n then s7V vq vf vd vw vl vr n a b x else (-1)
def u7Q (vq : Nat → Int32) (vf : Nat → Int32) (vd : Nat → Int32) (vw : Nat → Int32) (vl : Nat → Int32) (vr : Nat → Int32) (n : Nat) (a : Nat) (b : Nat) (x : Int32) : Nat → Int32 := if a < n then s7Q vq vf vd vw vl vr n a b x else vq
def u7F (vq : Nat → Int32) (vf : Nat → Int32) (vd : Nat → Int32) (vw : Nat → Int32) (vl : Nat → Int32) (vr : Nat → Int32) (n : Nat) (a : Nat) (b : Nat) (x : Int32) : Nat → Int32 := if a < n then s7F vq vf vd vw vl vr n a b x else vf
def u7D (vq : Nat → Int32) (vf : Nat → Int32) (vd : Nat → Int32) (vw : Nat → Int32) (vl : Nat → Int32) (vr : Nat → Int32) (n : Nat) (a : Nat) (b : Nat) (x : Int32) : Nat → Int32 := if a < n then s7D vq vf vd vw vl vr n a b x else vd
def u7W (vq : Nat → Int32) (vf : Nat → Int32) (vd : Nat → Int32) (vw : Nat → Int32) (vl : Nat → Int32) (vr : Nat → Int32) (n : Nat) (a : Nat) (b : Nat) (x : Int32) : Nat → Int32 := if a < n then s7W vq vf vd vw vl vr n a b x else vw
def u7L (vq : Nat → Int32) (vf : Nat → Int32) (vd : Nat → Int32) (vw : Nat → Int32) (vl : Nat → Int32) (vr : Nat → Int32) (n : Nat) (a : Nat) (b : Nat) (x : Int32) : Nat → Int32 := if a < n then s7L vq vf vd vw vl vr n a b x else vl
def u7R (vq : Nat → Int32) (vf : Nat → Int32) (vd : Nat → Int32) (vw : Nat → Int32) (vl : Nat → Int32) (vr : Nat → Int32) (n : Nat) (a : Nat) (b : Nat) (x : Int32) : Nat → Int32 := if a < n then s7R vq vf vd vw vl vr n a b x else vr
set_option maxHeartbeats 4000000 in
set_option maxRecDepth 100000 in
theorem c_L_due_7 (l : Launch) (E : EV) (a : Nat) (b : Nat) (x : Int32) (aq : Nat) (af : Nat) (ad : Nat) (aw : Nat) (al : Nat) (ar : Nat) (vq : Nat → Int32) (vf : Nat → Int32) (vd : Nat → Int32) (vw : Nat → Int32) (vl : Nat → Int32) (vr : Nat → Int32) (n : Nat) (hf : vq 4 = nI n) (hn : n ≤ 20) (ha9 : a < 21) (hst : ¬ vq 0 = 0) : rcI l E yL_due cL_due 13 .int 4 [.int (nI 7), .int (nI a), .int (nI b), .int x, .ref aq, .ref af, .ref ad, .ref aw, .ref al, .ref ar] [(aq, .inl (E.2.1, 13, .inl vq)), (af, .inl (E.2.1, 21, .inl vf)), (ad, .inl (E.2.1, 63, .inl vd)), (aw, .inl (E.2.1, 63, .inl vw)), (al, .inl (E.2.1, 63, .inl vl)), (ar, .inl (E.2.1, 63, .inl vr))] (u7V vq vf vd vw vl vr n a b x) [(aq, .inl (E.2.1, 13, .inl (u7Q vq vf vd vw vl vr n a b x))), (af, .inl (E.2.1, 21, .inl (u7F vq vf vd vw vl vr n a b x))), (ad, .inl (E.2.1, 63, .inl (u7D vq vf vd vw vl vr n a b x))), (aw, .inl (E.2.1, 63, .inl (u7W vq vf vd vw vl vr n a b x))), (al, .inl (E.2.1, 63, .inl (u7L vq vf vd vw vl vr n a b x))), (ar, .inl (E.2.1, 63, .inl (u7R vq vf vd vw vl vr n a b x)))] := by
  refine rcI_of (by decide) (Nat.le_of_ble_eq_true rfl) ?_
  intro pg e s m below meth c Q A ls S hP hD0 hE hA hl hret
  have hx := S.1
  have hb := S.2.1
  have hown := S.2.2.2.1
  have hts := S.2.2.2.2
  have hK := hE.1
  have hS : va_S A s.heap s.heap [] := va_S.rf
  have hDa : va_Da A [aq, af, ad, aw, al, ar] := ⟨_, hD0, rfl⟩
  have hl : lv_has ls 13 [(0, .int (nI 7)), (1, .int (nI a)), (2, .int (nI b)), (3, .int x), (4, .ref aq), (5, .ref af), (6, .ref ad), (7, .ref aw), (8, .ref al), (9, .ref ar)] := hl
  refine lv_iload_n hx hb dL_due_0 rfl (lv_at hl 0 rfl) ?_
  refine lv_if_ne (tgt := 135) hx hb dL_due_1 (by decide) (fun _ => ?_) (fun c9 => by first | exact absurd (by decide) c9 | exact absurd c9 (by decide))
  refine lv_iload_n hx hb dL_due_135 rfl (lv_at hl 0 rfl) ?_
  refine lv_bipush (v := nI 6) hx hb dL_due_136 (by decide) ?_
  refine rn_icmp_lt (a := 7) (b := 6) (tgt := 153) hx hb (by omega) (by omega) dL_due_138 (by decide) (fun c_1 => absurd c_1 (by omega)) (fun c_1 => ?_)
  refine lv_iload_n hx hb dL_due_141 rfl (lv_at hl 0 rfl) ?_
  refine lv_bipush (v := nI 7) hx hb dL_due_142 (by decide) ?_
  refine rn_icmp_eq (a := 7) (b := 7) (tgt := 153) hx hb (by omega) (by omega) dL_due_144 (by decide) (fun c_2 => ?_) (fun c_2 => absurd c_2 (by omega))
  refine lv_iload_n hx hb dL_due_153 rfl (lv_at hl 1 rfl) ?_
  refine lv_aload hx hb dL_due_154 (lv_at hl 4 rfl) ?_
  refine lv_iconst (v := nI 4) hx hb dL_due_156 (by decide) ?_
  refine rn_iald (i := 4) hx hb hK hP 0 0 rfl rfl (by omega) (by omega) dL_due_157 ?_
  refine W.eq (congrArg (fun z9 => F0 m 158 ls (.int z9 :: [.int (nI a)])) (show vq 4 = nI n from hf)) ?_
  refine rn_icmp_lt (a := a) (b := n) (tgt := 165) hx hb (by omega) (by omega) dL_due_158 (by decide) (fun c_3 => ?_) (fun c_3 => ?_)
  · refine lv_iload_n hx hb dL_due_165 rfl (lv_at hl 0 rfl) ?_
    refine lv_iload_n hx hb dL_due_166 rfl (lv_at hl 1 rfl) ?_
    refine lv_iload_n hx hb dL_due_167 rfl (lv_at hl 2 rfl) ?_
    refine lv_iload_n hx hb dL_due_168 rfl (lv_at hl 3 rfl) ?_
    refine lv_aload hx hb dL_due_169 (lv_at hl 4 rfl) ?_
    refine lv_aload hx hb dL_due_171 (lv_at hl 5 rfl) ?_
    refine lv_aload hx hb dL_due_173 (lv_at hl 6 rfl) ?_
    refine lv_aload hx hb dL_due_175 (lv_at hl 7 rfl) ?_
    refine lv_aload hx hb dL_due_177 (lv_at hl 8 rfl) ?_
    refine lv_aload hx hb dL_due_179 (lv_at hl 9 rfl) ?_
    refine rwS10 (rest := []) S (c_L_ofShot_7 l E a b x aq af ad aw al ar vq vf vd vw vl vr n hf hn c_3 hst) cd_L_ofShot bw_389 ⟨Nat.le_of_ble_eq_true rfl, Nat.le_of_ble_eq_true rfl⟩ ⟨Nat.zero_le _, Nat.zero_le _⟩ hP (hDa.to rfl) hE hA hS [0, 1, 2, 3, 4, 5] rfl rfl [aq, af, ad, aw, al, ar] rfl rfl (Nat.le_of_ble_eq_true rfl) hl.1 dL_due_181 (fun H locs hP _ hS => ?_)
    have hP : va_P E.1 vwCl [(aq, .inl (E.2.1, 13, .inl (s7Q vq vf vd vw vl vr n a b x))), (af, .inl (E.2.1, 21, .inl (s7F vq vf vd vw vl vr n a b x))), (ad, .inl (E.2.1, 63, .inl (s7D vq vf vd vw vl vr n a b x))), (aw, .inl (E.2.1, 63, .inl (s7W vq vf vd vw vl vr n a b x))), (al, .inl (E.2.1, 63, .inl (s7L vq vf vd vw vl vr n a b x))), (ar, .inl (E.2.1, 63, .inl (s7R vq vf vd vw vl vr n a b x)))] H := hP
    exact hret _ _ _ _ _ _ (by rw [u7V, if_pos c_3]) (by rw [show u7Q vq vf vd vw vl vr n a b x = s7Q vq vf vd vw vl vr n a b x from by rw [u7Q, if_pos c_3], show u7F vq vf vd vw vl vr n a b x = s7F vq vf vd vw vl vr n a b x from by rw [u7F, if_pos c_3], show u7D vq vf vd vw vl vr n a b x = s7D vq vf vd vw vl vr n a b x from by rw [u7D, if_pos c_3], show u7W vq vf vd vw vl vr n a b x = s7W vq vf vd vw vl vr n a b x from by rw [u7W, if_pos c_3], show u7L vq vf vd vw vl vr n a b x = s7L vq vf vd vw vl vr n a b x from by rw [u7L, if_pos c_3], show u7R vq vf vd vw vl vr n a b x = s7R vq vf vd vw vl vr n a b x from by rw [u7R, if_pos c_3]]) rfl hP hS dL_due_184
  · refine lv_iconst (v := (-1)) hx hb dL_due_161 (by decide) ?_
    refine lv_goto (tgt := 184) hx hb dL_due_162 (by decide) ?_
    exact hret _ _ _ _ _ _ (by rw [u7V, if_neg c_3]) (by rw [show u7Q vq vf vd vw vl vr n a b x = vq from by rw [u7Q, if_neg c_3], show u7F vq vf vd vw vl vr n a b x = vf from by rw [u7F, if_neg c_3], show u7D vq vf vd vw vl vr n a b x = vd from by rw [u7D, if_neg c_3], show u7W vq vf vd vw vl vr n a b x = vw from by rw [u7W, if_neg c_3], show u7L vq vf vd vw vl vr n a b x = vl from by rw [u7L, if_neg c_3], show u7R vq vf vd vw vl vr n a b x = vr from by rw [u7R, if_neg c_3]]) rfl hP hS dL_due_184

def u12V (vq : Nat → Int32) (vf : Nat → Int32) (vd : Nat → Int32) (vw : Nat → Int32) (vl : Nat → Int32) (vr : Nat → Int32) (n : Nat) (a : Nat) (b : Nat) (x : Int32) : Int32 := if a < n then s12V vq vf vd vw vl vr n a b x else (-1)
def u12Q (vq : Nat → Int32) (vf : Nat → Int32) (vd : Nat → Int32) (vw : Nat → Int32) (vl : Nat → Int32) (vr : Nat → Int32) (n : Nat) (a : Nat) (b : Nat) (x : Int32) : Nat → Int32 := if a < n then s12Q vq vf vd vw vl vr n a b x else vq
def u12F (vq : Nat → Int32) (vf : Nat → Int32) (vd : Nat → Int32) (vw : Nat → Int32) (vl : Nat → Int32) (vr : Nat → Int32) (n : Nat) (a : Nat) (b : Nat) (x : Int32) : Nat → Int32 := if a < n then s12F vq vf vd vw vl vr n a b x else vf
def u12D (vq : Nat → Int32) (vf : Nat → Int32) (vd : Nat → Int32) (vw : Nat → Int32) (vl : Nat → Int32) (vr : Nat → Int32) (n : Nat) (a : Nat) (b : Nat) (x : Int32) : Nat → Int32 := if a < n then s12D vq vf vd vw vl vr n a b x else vd
def u12W (vq : Nat → Int32) (vf : Nat → Int32) (vd : Nat → Int32) (vw : Nat → Int32) (vl : Nat → Int32) (vr : Nat → Int32) (n : Nat) (a : Nat) (b : Nat) (x : Int32) : Nat → Int32 := if a < n then s12W vq vf vd vw vl vr n a b x else vw
def u12L (vq : Nat → Int32) (vf : Nat → Int32) (vd : Nat → Int32) (vw : Nat → Int32) (vl : Nat → Int32) (vr : Nat → Int32) (n : Nat) (a : Nat) (b : Nat) (x : Int32) : Nat → Int32 := if a < n then s12L vq vf vd vw vl vr n a b x else vl
def u12R (vq : Nat → Int32) (vf : Nat → Int32) (vd : Nat → Int32) (vw : Nat → Int32) (vl : Nat → Int32) (vr : Nat → Int32) (n : Nat) (a : Nat) (b : Nat) (x : Int32) : Nat → Int32 := if a < n then s12R vq vf vd vw vl vr n a b x else vr
set_option maxHeartbeats 4000000 in
set_option maxRecDepth 100000 in
theorem c_L_due_12 (l : Launch) (E : EV) (a : Nat) (b : Nat) (x : Int32) (aq : Nat) (af : Nat) (ad : Nat) (aw : Nat) (al : Nat) (ar : Nat) (vq : Nat → Int32) (vf : Nat → Int32) (vd : Nat → Int32) (vw : Nat → Int32) (vl : Nat → Int32) (vr : Nat → Int32) (n : Nat) (hf : vq 4 = nI n) (hn : n ≤ 20) (ha9 : a < 21) : rcI l E yL_due cL_due 13 .int 4 [.int (nI 12), .int (nI a), .int (nI b), .int x, .ref aq, .ref af, .ref ad, .ref aw, .ref al, .ref ar] [(aq, .inl (E.2.1, 13, .inl vq)), (af, .inl (E.2.1, 21, .inl vf)), (ad, .inl (E.2.1, 63, .inl vd)), (aw, .inl (E.2.1, 63, .inl vw)), (al, .inl (E.2.1, 63, .inl vl)), (ar, .inl (E.2.1, 63, .inl vr))] (u12V vq vf vd vw vl vr n a b x) [(aq, .inl (E.2.1, 13, .inl (u12Q vq vf vd vw vl vr n a b x))), (af, .inl (E.2.1, 21, .inl (u12F vq vf vd vw vl vr n a b x))), (ad, .inl (E.2.1, 63, .inl (u12D vq vf vd vw vl vr n a b x))), (aw, .inl (E.2.1, 63, .inl (u12W vq vf vd vw vl vr n a b x))), (al, .inl (E.2.1, 63, .inl (u12L vq vf vd vw vl vr n a b x))), (ar, .inl (E.2.1, 63, .inl (u12R vq vf vd vw vl vr n a b x)))] := by
  refine rcI_of (by decide) (Nat.le_of_ble_eq_true rfl) ?_
  intro pg e s m below meth c Q A ls S hP hD0 hE hA hl hret
  have hx := S.1
  have hb := S.2.1
  have hown := S.2.2.2.1
  have hts := S.2.2.2.2
  have hK := hE.1
  have hS : va_S A s.heap s.heap [] := va_S.rf
  have hDa : va_Da A [aq, af, ad, aw, al, ar] := ⟨_, hD0, rfl⟩
  have hl : lv_has ls 13 [(0, .int (nI 12)), (1, .int (nI a)), (2, .int (nI b)), (3, .int x), (4, .ref aq), (5, .ref af), (6, .ref ad), (7, .ref aw), (8, .ref al), (9, .ref ar)] := hl
  refine lv_iload_n hx hb dL_due_0 rfl (lv_at hl 0 rfl) ?_
  refine lv_if_ne (tgt := 135) hx hb dL_due_1 (by decide) (fun _ => ?_) (fun c9 => by first | exact absurd (by decide) c9 | exact absurd c9 (by decide))
  refine lv_iload_n hx hb dL_due_135 rfl (lv_at hl 0 rfl) ?_
  refine lv_bipush (v := nI 6) hx hb dL_due_136 (by decide) ?_
  refine rn_icmp_lt (a := 12) (b := 6) (tgt := 153) hx hb (by omega) (by omega) dL_due_138 (by decide) (fun c_1 => absurd c_1 (by omega)) (fun c_1 => ?_)
  refine lv_iload_n hx hb dL_due_141 rfl (lv_at hl 0 rfl) ?_
  refine lv_bipush (v := nI 7) hx hb dL_due_142 (by decide) ?_
  refine rn_icmp_eq (a := 12) (b := 7) (tgt := 153) hx hb (by omega) (by omega) dL_due_144 (by decide) (fun c_2 => absurd c_2 (by omega)) (fun c_2 => ?_)
  refine lv_iload_n hx hb dL_due_147 rfl (lv_at hl 0 rfl) ?_
  refine lv_bipush (v := nI 12) hx hb dL_due_148 (by decide) ?_
  refine rn_icmp_ne (a := 12) (b := 12) (tgt := 185) hx hb (by omega) (by omega) dL_due_150 (by decide) (fun c_3 => absurd c_3 (by omega)) (fun c_3 => ?_)
  refine lv_iload_n hx hb dL_due_153 rfl (lv_at hl 1 rfl) ?_
  refine lv_aload hx hb dL_due_154 (lv_at hl 4 rfl) ?_
  refine lv_iconst (v := nI 4) hx hb dL_due_156 (by decide) ?_
  refine rn_iald (i := 4) hx hb hK hP 0 0 rfl rfl (by omega) (by omega) dL_due_157 ?_
  refine W.eq (congrArg (fun z9 => F0 m 158 ls (.int z9 :: [.int (nI a)])) (show vq 4 = nI n from hf)) ?_
  refine rn_icmp_lt (a := a) (b := n) (tgt := 165) hx hb (by omega) (by omega) dL_due_158 (by decide) (fun c_4 => ?_) (fun c_4 => ?_)
  · refine lv_iload_n hx hb dL_due_165 rfl (lv_at hl 0 rfl) ?_
    refine lv_iload_n hx hb dL_due_166 rfl (lv_at hl 1 rfl) ?_
    refine lv_iload_n hx hb dL_due_167 rfl (lv_at hl 2 rfl) ?_
    refine lv_iload_n hx hb dL_due_168 rfl (lv_at hl 3 rfl) ?_
    refine lv_aload hx hb dL_due_169 (lv_at hl 4 rfl) ?_
    refine lv_aload hx hb dL_due_171 (lv_at hl 5 rfl) ?_
    refine lv_aload hx hb dL_due_173 (lv_at hl 6 rfl) ?_
    refine lv_aload hx hb dL_due_175 (lv_at hl 7 rfl) ?_
    refine lv_aload hx hb dL_due_177 (lv_at hl 8 rfl) ?_
    refine lv_aload hx hb dL_due_179 (lv_at hl 9 rfl) ?_
    refine rwS10 (rest := []) S (c_L_ofShot_12 l E a b x aq af ad aw al ar vq vf vd vw vl vr n hf hn c_4) cd_L_ofShot bw_389 ⟨Nat.le_of_ble_eq_true rfl, Nat.le_of_ble_eq_true rfl⟩ ⟨Nat.zero_le _, Nat.zero_le _⟩ hP (hDa.to rfl) hE hA hS [0, 1, 2, 3, 4, 5] rfl rfl [aq, af, ad, aw, al, ar] rfl rfl (Nat.le_of_ble_eq_true rfl) hl.1 dL_due_181 (fun H locs hP _ hS => ?_)
    have hP : va_P E.1 vwCl [(aq, .inl (E.2.1, 13, .inl (s12Q vq vf vd vw vl vr n a b x))), (af, .inl (E.2.1, 21, .inl (s12F vq vf vd vw vl vr n a b x))), (ad, .inl (E.2.1, 63, .inl (s12D vq vf vd vw vl vr n a b x))), (aw, .inl (E.2.1, 63, .inl (s12W vq vf vd vw vl vr n a b x))), (al, .inl (E.2.1, 63, .inl (s12L vq vf vd vw vl vr n a b x))), (ar, .inl (E.2.1, 63, .inl (s12R vq vf vd vw vl vr n a b x)))] H := hP
    exact hret _ _ _ _ _ _ (by rw [u12V, if_pos c_4]) (by rw [show u12Q vq vf vd vw vl vr n a b x = s12Q vq vf vd vw vl vr n a b x from by rw [u12Q, if_pos c_4], show u12F vq vf vd vw vl vr n a b x = s12F vq vf vd vw vl vr n a b x from by rw [u12F, if_pos c_4], show u12D vq vf vd vw vl vr n a b x = s12D vq vf vd vw vl vr n a b x from by rw [u12D, if_pos c_4], show u12W vq vf vd vw vl vr n a b x = s12W vq vf vd vw vl vr n a b x from by rw [u12W, if_pos c_4], show u12L vq vf vd vw vl vr n a b x = s12L vq vf vd vw vl vr n a b x from by rw [u12L, if_pos c_4], show u12R vq vf vd vw vl vr n a b x = s12R vq vf vd vw vl vr n a b x from by rw [u12R, if_pos c_4]]) rfl hP hS dL_due_184
  · refine lv_iconst (v := (-1)) hx hb dL_due_161 (by decide) ?_
    refine lv_goto (tgt := 184) hx hb dL_due_162 (by decide) ?_
    exact hret _ _ _ _ _ _ (by rw [u12V, if_neg c_4]) (by rw [show u12Q vq vf vd vw vl vr n a b x = vq from by rw [u12Q, if_neg c_4], show u12F vq vf vd vw vl vr n a b x = vf from by rw [u12F, if_neg c_4], show u12D vq vf vd vw vl vr n a b x = vd from by rw [u12D, if_neg c_4], show u12W vq vf vd vw vl vr n a b x = vw from by rw [u12W, if_neg c_4], show u12L vq vf vd vw vl vr n a b x = vl from by rw [u12L, if_neg c_4], show u12R vq vf vd vw vl vr n a b x = vr from by rw [u12R, if_neg c_4]]) rfl hP hS dL_due_184

