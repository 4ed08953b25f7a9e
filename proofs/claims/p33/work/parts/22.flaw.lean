def u6V (vq : Nat → Int32) (vf : Nat → Int32) (vd : Nat → Int32) (vw : Nat → Int32) (vl : Nat → Int32) (vr : Nat → Int32) (n : Nat) (a : Nat) (b : Nat) (x : Int32) : Int32 := if n = 0 then (-5) else lPv vq vf vd vw vl vr n
def u6Q (vq : Nat → Int32) (vf : Nat → Int32) (vd : Nat → Int32) (vw : Nat → Int32) (vl : Nat → Int32) (vr : Nat → Int32) (n : Nat) (a : Nat) (b : Nat) (x : Int32) : Nat → Int32 := if n = 0 then vq else lPq vq vf vd vw vl vr n
def u6F (vq : Nat → Int32) (vf : Nat → Int32) (vd : Nat → Int32) (vw : Nat → Int32) (vl : Nat → Int32) (vr : Nat → Int32) (n : Nat) (a : Nat) (b : Nat) (x : Int32) : Nat → Int32 := vf
def u6D (vq : Nat → Int32) (vf : Nat → Int32) (vd : Nat → Int32) (vw : Nat → Int32) (vl : Nat → Int32) (vr : Nat → Int32) (n : Nat) (a : Nat) (b : Nat) (x : Int32) : Nat → Int32 := vd
def u6W (vq : Nat → Int32) (vf : Nat → Int32) (vd : Nat → Int32) (vw : Nat → Int32) (vl : Nat → Int32) (vr : Nat → Int32) (n : Nat) (a : Nat) (b : Nat) (x : Int32) : Nat → Int32 := vw
def u6L (vq : Nat → Int32) (vf : Nat → Int32) (vd : Nat → Int32) (vw : Nat → Int32) (vl : Nat → Int32) (vr : Nat → Int32) (n : Nat) (a : Nat) (b : Nat) (x : Int32) : Nat → Int32 := vl
def u6R (vq : Nat → Int32) (vf : Nat → Int32) (vd : Nat → Int32) (vw : Nat → Int32) (vl : Nat → Int32) (vr : Nat → Int32) (n : Nat) (a : Nat) (b : Nat) (x : Int32) : Nat → Int32 := if n = 0 then vr else lPrr vq vf vd vw vl vr n
set_option maxHeartbeats 4000000 in
set_option maxRecDepth 100000 in
theorem c_L_due_6 (l : Launch) (E : EV) (a : Nat) (b : Nat) (x : Int32) (aq : Nat) (af : Nat) (ad : Nat) (aw : Nat) (al : Nat) (ar : Nat) (vq : Nat → Int32) (vf : Nat → Int32) (vd : Nat → Int32) (vw : Nat → Int32) (vl : Nat → Int32) (vr : Nat → Int32) (n : Nat) (hf : vq 4 = nI n) (hn : n ≤ 20) (ha9 : a < 21) : rcI l E yL_due cL_due 13 .int 4 [.int (nI 6), .int (nI a), .int (nI b), .int x, .ref aq, .ref af, .ref ad, .ref aw, .ref al, .ref ar] [(aq, .inl (E.2.1, 13, .inl vq)), (af, .inl (E.2.1, 21, .inl vf)), (ad, .inl (E.2.1, 63, .inl vd)), (aw, .inl (E.2.1, 63, .inl vw)), (al, .inl (E.2.1, 63, .inl vl)), (ar, .inl (E.2.1, 63, .inl vr))] (u6V vq vf vd vw vl vr n a b x) [(aq, .inl (E.2.1, 13, .inl (u6Q vq vf vd vw vl vr n a b x))), (af, .inl (E.2.1, 21, .inl (u6F vq vf vd vw vl vr n a b x))), (ad, .inl (E.2.1, 63, .inl (u6D vq vf vd vw vl vr n a b x))), (aw, .inl (E.2.1, 63, .inl (u6W vq vf vd vw vl vr n a b x))), (al, .inl (E.2.1, 63, .inl (u6L vq vf vd vw vl vr n a b x))), (ar, .inl (E.2.1, 63, .inl (u6R vq vf vd vw vl vr n a b x)))] := by
  refine rcI_of (by decide) (Nat.le_of_ble_eq_true rfl) ?_
  intro pg e s m below meth c Q A ls S hP hD0 hE hA hl hret
  have hx := S.1
  have hb := S.2.1
  have hown := S.2.2.2.1
  have hts := S.2.2.2.2
  have hK := hE.1
  have hS : va_S A s.heap s.heap [] := va_S.rf
  have hDa : va_Da A [aq, af, ad, aw, al, ar] := ⟨_, hD0, rfl⟩
  have hl : lv_has ls 13 [(0, .int (nI 6)), (1, .int (nI a)), (2, .int (nI b)), (3, .int x), (4, .ref aq), (5, .ref af), (6, .ref ad), (7, .ref aw), (8, .ref al), (9, .ref ar)] := hl
  refine lv_iload_n hx hb dL_due_0 rfl (lv_at hl 0 rfl) ?_
  refine lv_if_ne (tgt := 135) hx hb dL_due_1 (by decide) (fun _ => ?_) (fun c9 => by first | exact absurd (by decide) c9 | exact absurd c9 (by decide))
  refine lv_iload_n hx hb dL_due_135 rfl (lv_at hl 0 rfl) ?_
  refine lv_bipush (v := nI 6) hx hb dL_due_136 (by decide) ?_
  refine rn_icmp_lt (a := 6) (b := 6) (tgt := 153) hx hb (by omega) (by omega) dL_due_138 (by decide) (fun c_1 => absurd c_1 (by omega)) (fun c_1 => ?_)
  refine lv_iload_n hx hb dL_due_141 rfl (lv_at hl 0 rfl) ?_
  refine lv_bipush (v := nI 7) hx hb dL_due_142 (by decide) ?_
  refine rn_icmp_eq (a := 6) (b := 7) (tgt := 153) hx hb (by omega) (by omega) dL_due_144 (by decide) (fun c_2 => absurd c_2 (by omega)) (fun c_2 => ?_)
  refine lv_iload_n hx hb dL_due_147 rfl (lv_at hl 0 rfl) ?_
  refine lv_bipush (v := nI 12) hx hb dL_due_148 (by decide) ?_
  refine rn_icmp_ne (a := 6) (b := 12) (tgt := 185) hx hb (by omega) (by omega) dL_due_150 (by decide) (fun c_3 => ?_) (fun c_3 => absurd c_3 (by omega))
  refine lv_iconst (v := nI 0) hx hb dL_due_185 (by decide) ?_
  refine lv_istore (lv' := [(10, .int (nI 0)), (0, .int (nI 6)), (1, .int (nI a)), (2, .int (nI b)), (3, .int x), (4, .ref aq), (5, .ref af), (6, .ref ad), (7, .ref aw), (8, .ref al), (9, .ref ar)]) hx hb dL_due_186 hl (by decide) rfl (fun ls hl => ?_)
  refine lv_iload_n hx hb dL_due_188 rfl (lv_at hl 1 rfl) ?_
  refine lv_bipush (v := nI 6) hx hb dL_due_189 (by decide) ?_
  refine rn_icmp_ne (a := 6) (b := 6) (tgt := 222) hx hb (by omega) (by omega) dL_due_191 (by decide) (fun c_4 => absurd c_4 (by omega)) (fun c_4 => ?_)
  refine lv_aload hx hb dL_due_194 (lv_at hl 5 rfl) ?_
  refine lv_iconst (v := nI 4) hx hb dL_due_196 (by decide) ?_
  refine rn_iald (i := 4) hx hb hK hP 0 0 rfl rfl (by omega) (by omega) dL_due_197 ?_
  refine W.eq (congrArg (fun z9 => F0 m 198 ls (.int z9 :: [])) (show vq 4 = nI n from hf)) ?_
  refine rn_if_ne (a := n) (tgt := 206) hx hb (by omega) dL_due_198 (by decide) (fun c_5 => ?_) (fun c_5 => ?_)
  · refine lv_aload hx hb dL_due_206 (lv_at hl 5 rfl) ?_
    refine lv_aload hx hb dL_due_208 (lv_at hl 6 rfl) ?_
    refine lv_aload hx hb dL_due_210 (lv_at hl 7 rfl) ?_
    refine lv_aload hx hb dL_due_212 (lv_at hl 8 rfl) ?_
    refine lv_aload hx hb dL_due_214 (lv_at hl 9 rfl) ?_
    refine lv_aload hx hb dL_due_216 (lv_at hl 10 rfl) ?_
    refine rwS6 (rest := []) S (c_L_print l E aq af ad aw al ar vq vf vd vw vl vr n hf hn (by omega)) cd_L_print bw_398 ⟨Nat.le_of_ble_eq_true rfl, Nat.le_of_ble_eq_true rfl⟩ ⟨Nat.zero_le _, Nat.zero_le _⟩ hP (hDa.to rfl) hE hA hS [0, 1, 2, 3, 4, 5] rfl rfl [aq, af, ad, aw, al, ar] rfl rfl (Nat.le_of_ble_eq_true rfl) hl.1 dL_due_218 (fun H locs hP _ hS => ?_)
    have hP : va_P E.1 vwCl [(aq, .inl (E.2.1, 13, .inl (lPq vq vf vd vw vl vr n))), (af, .inl (E.2.1, 21, .inl vf)), (ad, .inl (E.2.1, 63, .inl vd)), (aw, .inl (E.2.1, 63, .inl vw)), (al, .inl (E.2.1, 63, .inl vl)), (ar, .inl (E.2.1, 63, .inl (lPrr vq vf vd vw vl vr n)))] H := hP
    exact hret _ _ _ _ _ _ (by rw [u6V, if_neg c_5]) (by rw [show u6Q vq vf vd vw vl vr n a b x = lPq vq vf vd vw vl vr n from by rw [u6Q, if_neg c_5], show u6F vq vf vd vw vl vr n a b x = vf from by rw [u6F], show u6D vq vf vd vw vl vr n a b x = vd from by rw [u6D], show u6W vq vf vd vw vl vr n a b x = vw from by rw [u6W], show u6L vq vf vd vw vl vr n a b x = vl from by rw [u6L], show u6R vq vf vd vw vl vr n a b x = lPrr vq vf vd vw vl vr n from by rw [u6R, if_neg c_5]]) rfl hP hS dL_due_221
  · refine lv_bipush (v := (-5)) hx hb dL_due_201 (by decide) ?_
    refine lv_goto (tgt := 221) hx hb dL_due_203 (by decide) ?_
    exact hret _ _ _ _ _ _ (by rw [u6V, if_pos c_5]) (by rw [show u6Q vq vf vd vw vl vr n a b x = vq from by rw [u6Q, if_pos c_5], show u6F vq vf vd vw vl vr n a b x = vf from by rw [u6F], show u6D vq vf vd vw vl vr n a b x = vd from by rw [u6D], show u6W vq vf vd vw vl vr n a b x = vw from by rw [u6W], show u6L vq vf vd vw vl vr n a b x = vl from by rw [u6L], show u6R vq vf vd vw vl vr n a b x = vr from by rw [u6R, if_pos c_5]]) rfl hP hS dL_due_221

