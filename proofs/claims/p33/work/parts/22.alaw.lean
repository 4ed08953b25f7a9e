/-! the law's own changes of its rows, kind by kind -/
theorem cd_L_ofShot : cdS yL_ofShot cL_ofShot 13 (some .int) 10 := ⟨⟨bw_391, bw_1, by decide, by decide, by decide +kernel⟩, bw_390⟩
def s1V (vq : Nat → Int32) (vf : Nat → Int32) (vd : Nat → Int32) (vw : Nat → Int32) (vl : Nat → Int32) (vr : Nat → Int32) (n : Nat) (a : Nat) (b : Nat) (x : Int32) : Int32 := vl (3 * a + b)
def s1Q (vq : Nat → Int32) (vf : Nat → Int32) (vd : Nat → Int32) (vw : Nat → Int32) (vl : Nat → Int32) (vr : Nat → Int32) (n : Nat) (a : Nat) (b : Nat) (x : Int32) : Nat → Int32 := vq
def s1F (vq : Nat → Int32) (vf : Nat → Int32) (vd : Nat → Int32) (vw : Nat → Int32) (vl : Nat → Int32) (vr : Nat → Int32) (n : Nat) (a : Nat) (b : Nat) (x : Int32) : Nat → Int32 := vf
def s1D (vq : Nat → Int32) (vf : Nat → Int32) (vd : Nat → Int32) (vw : Nat → Int32) (vl : Nat → Int32) (vr : Nat → Int32) (n : Nat) (a : Nat) (b : Nat) (x : Int32) : Nat → Int32 := vd
def s1W (vq : Nat → Int32) (vf : Nat → Int32) (vd : Nat → Int32) (vw : Nat → Int32) (vl : Nat → Int32) (vr : Nat → Int32) (n : Nat) (a : Nat) (b : Nat) (x : Int32) : Nat → Int32 := vw
def s1L (vq : Nat → Int32) (vf : Nat → Int32) (vd : Nat → Int32) (vw : Nat → Int32) (vl : Nat → Int32) (vr : Nat → Int32) (n : Nat) (a : Nat) (b : Nat) (x : Int32) : Nat → Int32 := upd vl (3 * a + b) (nI (lowN x 51))
def s1R (vq : Nat → Int32) (vf : Nat → Int32) (vd : Nat → Int32) (vw : Nat → Int32) (vl : Nat → Int32) (vr : Nat → Int32) (n : Nat) (a : Nat) (b : Nat) (x : Int32) : Nat → Int32 := vr
set_option maxHeartbeats 4000000 in
set_option maxRecDepth 100000 in
theorem c_L_ofShot_1 (l : Launch) (E : EV) (a : Nat) (b : Nat) (x : Int32) (aq : Nat) (af : Nat) (ad : Nat) (aw : Nat) (al : Nat) (ar : Nat) (vq : Nat → Int32) (vf : Nat → Int32) (vd : Nat → Int32) (vw : Nat → Int32) (vl : Nat → Int32) (vr : Nat → Int32) (n : Nat) (hf : vq 4 = nI n) (hn : n ≤ 20) (ha : a < n) (hb3 : b < 3) : rcI l E yL_ofShot cL_ofShot 13 .int 3 [.int (nI 1), .int (nI a), .int (nI b), .int x, .ref aq, .ref af, .ref ad, .ref aw, .ref al, .ref ar] [(aq, .inl (E.2.1, 13, .inl vq)), (af, .inl (E.2.1, 21, .inl vf)), (ad, .inl (E.2.1, 63, .inl vd)), (aw, .inl (E.2.1, 63, .inl vw)), (al, .inl (E.2.1, 63, .inl vl)), (ar, .inl (E.2.1, 63, .inl vr))] (s1V vq vf vd vw vl vr n a b x) [(aq, .inl (E.2.1, 13, .inl (s1Q vq vf vd vw vl vr n a b x))), (af, .inl (E.2.1, 21, .inl (s1F vq vf vd vw vl vr n a b x))), (ad, .inl (E.2.1, 63, .inl (s1D vq vf vd vw vl vr n a b x))), (aw, .inl (E.2.1, 63, .inl (s1W vq vf vd vw vl vr n a b x))), (al, .inl (E.2.1, 63, .inl (s1L vq vf vd vw vl vr n a b x))), (ar, .inl (E.2.1, 63, .inl (s1R vq vf vd vw vl vr n a b x)))] := by
  refine rcI_of (by decide) (Nat.le_of_ble_eq_true rfl) ?_
  intro pg e s m below meth c Q A ls S hP hD0 hE hA hl hret
  have hx := S.1
  have hb := S.2.1
  have hown := S.2.2.2.1
  have hts := S.2.2.2.2
  have hK := hE.1
  have hS : va_S A s.heap s.heap [] := va_S.rf
  have hDa : va_Da A [aq, af, ad, aw, al, ar] := ⟨_, hD0, rfl⟩
  have hl : lv_has ls 13 [(0, .int (nI 1)), (1, .int (nI a)), (2, .int (nI b)), (3, .int x), (4, .ref aq), (5, .ref af), (6, .ref ad), (7, .ref aw), (8, .ref al), (9, .ref ar)] := hl
  refine lv_iload_n hx hb dL_ofShot_0 rfl (lv_at hl 0 rfl) ?_
  refine lv_iconst (v := nI 1) hx hb dL_ofShot_1 (by decide) ?_
  refine rn_icmp_ne (a := 1) (b := 1) (tgt := 16) hx hb (by omega) (by omega) dL_ofShot_2 (by decide) (fun c_1 => absurd c_1 (by omega)) (fun c_1 => ?_)
  refine lv_aload hx hb dL_ofShot_5 (lv_at hl 8 rfl) ?_
  refine lv_iconst (v := nI 3) hx hb dL_ofShot_7 (by decide) ?_
  refine lv_iload_n hx hb dL_ofShot_8 rfl (lv_at hl 1 rfl) ?_
  refine rn_mul (a := 3) (b := a) hx hb dL_ofShot_9 ?_
  refine lv_iload_n hx hb dL_ofShot_10 rfl (lv_at hl 2 rfl) ?_
  refine rn_add (a := 3 * a) (b := b) hx hb dL_ofShot_11 ?_
  refine rn_iald (i := 3 * a + b) hx hb hK hP 4 0 rfl rfl (by omega) (by omega) dL_ofShot_12 ?_
  refine lv_goto (tgt := 36) hx hb dL_ofShot_13 (by decide) ?_
  refine lv_istore (lv' := [(10, .int (vl (3 * a + b))), (0, .int (nI 1)), (1, .int (nI a)), (2, .int (nI b)), (3, .int x), (4, .ref aq), (5, .ref af), (6, .ref ad), (7, .ref aw), (8, .ref al), (9, .ref ar)]) hx hb dL_ofShot_36 hl (by decide) rfl (fun ls hl => ?_)
  refine lv_iload_n hx hb dL_ofShot_38 rfl (lv_at hl 1 rfl) ?_
  refine lv_iconst (v := nI 1) hx hb dL_ofShot_39 (by decide) ?_
  refine rn_icmp_ne (a := 1) (b := 1) (tgt := 60) hx hb (by omega) (by omega) dL_ofShot_40 (by decide) (fun c_2 => absurd c_2 (by omega)) (fun c_2 => ?_)
  refine lv_aload hx hb dL_ofShot_43 (lv_at hl 9 rfl) ?_
  refine lv_iconst (v := nI 3) hx hb dL_ofShot_45 (by decide) ?_
  refine lv_iload_n hx hb dL_ofShot_46 rfl (lv_at hl 2 rfl) ?_
  refine rn_mul (a := 3) (b := a) hx hb dL_ofShot_47 ?_
  refine lv_iload_n hx hb dL_ofShot_48 rfl (lv_at hl 3 rfl) ?_
  refine rn_add (a := 3 * a) (b := b) hx hb dL_ofShot_49 ?_
  refine lv_iload_n hx hb dL_ofShot_50 rfl (lv_at hl 4 rfl) ?_
  refine lv_bipush (v := nI 51) hx hb dL_ofShot_51 (by decide) ?_
  refine rwS2 (rest := [.int (nI (3 * a + b)), .ref al]) S (c_L_low l E x 51 (by omega) (by omega)) cd_L_low bw_140 ⟨Nat.le_of_ble_eq_true rfl, Nat.le_of_ble_eq_true rfl⟩ ⟨Nat.zero_le _, Nat.zero_le _⟩ hP (hDa.to rfl) hE hA hS [] rfl rfl [] rfl rfl (Nat.le_of_ble_eq_true rfl) hl.1 dL_ofShot_53 (fun H locs hP _ hS => ?_)
  have hP : va_P E.1 vwCl [(aq, .inl (E.2.1, 13, .inl vq)), (af, .inl (E.2.1, 21, .inl vf)), (ad, .inl (E.2.1, 63, .inl vd)), (aw, .inl (E.2.1, 63, .inl vw)), (al, .inl (E.2.1, 63, .inl vl)), (ar, .inl (E.2.1, 63, .inl vr))] H := hP
  refine rn_iast (i := 3 * a + b) hx hb hK hP (hDa.to rfl) hS 4 0 rfl rfl (by omega) (by omega) dL_ofShot_56 (fun H locs hP _ hS => ?_)
  have hP : va_P E.1 vwCl [(aq, .inl (E.2.1, 13, .inl vq)), (af, .inl (E.2.1, 21, .inl vf)), (ad, .inl (E.2.1, 63, .inl vd)), (aw, .inl (E.2.1, 63, .inl vw)), (al, .inl (E.2.1, 63, .inl (upd vl (3 * a + b) (nI (lowN x 51))))), (ar, .inl (E.2.1, 63, .inl vr))] H := hP
  refine lv_iload hx hb dL_ofShot_57 (lv_at hl 0 rfl) ?_
  exact hret _ _ _ _ _ _ (by rw [s1V]) (by rw [show s1Q vq vf vd vw vl vr n a b x = vq from by rw [s1Q], show s1F vq vf vd vw vl vr n a b x = vf from by rw [s1F], show s1D vq vf vd vw vl vr n a b x = vd from by rw [s1D], show s1W vq vf vd vw vl vr n a b x = vw from by rw [s1W], show s1L vq vf vd vw vl vr n a b x = upd vl (3 * a + b) (nI (lowN x 51)) from by rw [s1L], show s1R vq vf vd vw vl vr n a b x = vr from by rw [s1R]]) rfl hP hS dL_ofShot_59

def s2V (vq : Nat → Int32) (vf : Nat → Int32) (vd : Nat → Int32) (vw : Nat → Int32) (vl : Nat → Int32) (vr : Nat → Int32) (n : Nat) (a : Nat) (b : Nat) (x : Int32) : Int32 := vw (3 * a + b) + (nI 10)
def s2Q (vq : Nat → Int32) (vf : Nat → Int32) (vd : Nat → Int32) (vw : Nat → Int32) (vl : Nat → Int32) (vr : Nat → Int32) (n : Nat) (a : Nat) (b : Nat) (x : Int32) : Nat → Int32 := vq
def s2F (vq : Nat → Int32) (vf : Nat → Int32) (vd : Nat → Int32) (vw : Nat → Int32) (vl : Nat → Int32) (vr : Nat → Int32) (n : Nat) (a : Nat) (b : Nat) (x : Int32) : Nat → Int32 := vf
def s2D (vq : Nat → Int32) (vf : Nat → Int32) (vd : Nat → Int32) (vw : Nat → Int32) (vl : Nat → Int32) (vr : Nat → Int32) (n : Nat) (a : Nat) (b : Nat) (x : Int32) : Nat → Int32 := vd
def s2W (vq : Nat → Int32) (vf : Nat → Int32) (vd : Nat → Int32) (vw : Nat → Int32) (vl : Nat → Int32) (vr : Nat → Int32) (n : Nat) (a : Nat) (b : Nat) (x : Int32) : Nat → Int32 := upd vw (3 * a + b) (nI (lowN x 21) - (nI 10))
def s2L (vq : Nat → Int32) (vf : Nat → Int32) (vd : Nat → Int32) (vw : Nat → Int32) (vl : Nat → Int32) (vr : Nat → Int32) (n : Nat) (a : Nat) (b : Nat) (x : Int32) : Nat → Int32 := vl
def s2R (vq : Nat → Int32) (vf : Nat → Int32) (vd : Nat → Int32) (vw : Nat → Int32) (vl : Nat → Int32) (vr : Nat → Int32) (n : Nat) (a : Nat) (b : Nat) (x : Int32) : Nat → Int32 := vr
set_option maxHeartbeats 4000000 in
set_option maxRecDepth 100000 in
theorem c_L_ofShot_2 (l : Launch) (E : EV) (a : Nat) (b : Nat) (x : Int32) (aq : Nat) (af : Nat) (ad : Nat) (aw : Nat) (al : Nat) (ar : Nat) (vq : Nat → Int32) (vf : Nat → Int32) (vd : Nat → Int32) (vw : Nat → Int32) (vl : Nat → Int32) (vr : Nat → Int32) (n : Nat) (hf : vq 4 = nI n) (hn : n ≤ 20) (ha : a < n) (hb3 : b < 3) : rcI l E yL_ofShot cL_ofShot 13 .int 3 [.int (nI 2), .int (nI a), .int (nI b), .int x, .ref aq, .ref af, .ref ad, .ref aw, .ref al, .ref ar] [(aq, .inl (E.2.1, 13, .inl vq)), (af, .inl (E.2.1, 21, .inl vf)), (ad, .inl (E.2.1, 63, .inl vd)), (aw, .inl (E.2.1, 63, .inl vw)), (al, .inl (E.2.1, 63, .inl vl)), (ar, .inl (E.2.1, 63, .inl vr))] (s2V vq vf vd vw vl vr n a b x) [(aq, .inl (E.2.1, 13, .inl (s2Q vq vf vd vw vl vr n a b x))), (af, .inl (E.2.1, 21, .inl (s2F vq vf vd vw vl vr n a b x))), (ad, .inl (E.2.1, 63, .inl (s2D vq vf vd vw vl vr n a b x))), (aw, .inl (E.2.1, 63, .inl (s2W vq vf vd vw vl vr n a b x))), (al, .inl (E.2.1, 63, .inl (s2L vq vf vd vw vl vr n a b x))), (ar, .inl (E.2.1, 63, .inl (s2R vq vf vd vw vl vr n a b x)))] := by
  refine rcI_of (by decide) (Nat.le_of_ble_eq_true rfl) ?_
  intro pg e s m below meth c Q A ls S hP hD0 hE hA hl hret
  have hx := S.1
  have hb := S.2.1
  have hown := S.2.2.2.1
  have hts := S.2.2.2.2
  have hK := hE.1
  have hS : va_S A s.heap s.heap [] := va_S.rf
  have hDa : va_Da A [aq, af, ad, aw, al, ar] := ⟨_, hD0, rfl⟩
  have hl : lv_has ls 13 [(0, .int (nI 2)), (1, .int (nI a)), (2, .int (nI b)), (3, .int x), (4, .ref aq), (5, .ref af), (6, .ref ad), (7, .ref aw), (8, .ref al), (9, .ref ar)] := hl
  refine lv_iload_n hx hb dL_ofShot_0 rfl (lv_at hl 0 rfl) ?_
  refine lv_iconst (v := nI 1) hx hb dL_ofShot_1 (by decide) ?_
  refine rn_icmp_ne (a := 2) (b := 1) (tgt := 16) hx hb (by omega) (by omega) dL_ofShot_2 (by decide) (fun c_1 => ?_) (fun c_1 => absurd c_1 (by omega))
  refine lv_iload_n hx hb dL_ofShot_16 rfl (lv_at hl 0 rfl) ?_
  refine lv_iconst (v := nI 2) hx hb dL_ofShot_17 (by decide) ?_
  refine rn_icmp_ne (a := 2) (b := 2) (tgt := 35) hx hb (by omega) (by omega) dL_ofShot_18 (by decide) (fun c_2 => absurd c_2 (by omega)) (fun c_2 => ?_)
  refine lv_aload hx hb dL_ofShot_21 (lv_at hl 7 rfl) ?_
  refine lv_iconst (v := nI 3) hx hb dL_ofShot_23 (by decide) ?_
  refine lv_iload_n hx hb dL_ofShot_24 rfl (lv_at hl 1 rfl) ?_
  refine rn_mul (a := 3) (b := a) hx hb dL_ofShot_25 ?_
  refine lv_iload_n hx hb dL_ofShot_26 rfl (lv_at hl 2 rfl) ?_
  refine rn_add (a := 3 * a) (b := b) hx hb dL_ofShot_27 ?_
  refine rn_iald (i := 3 * a + b) hx hb hK hP 3 0 rfl rfl (by omega) (by omega) dL_ofShot_28 ?_
  refine lv_bipush (v := nI 10) hx hb dL_ofShot_29 (by decide) ?_
  refine lv_iadd hx hb dL_ofShot_31 ?_
  refine lv_goto (tgt := 36) hx hb dL_ofShot_32 (by decide) ?_
  refine lv_istore (lv' := [(10, .int (vw (3 * a + b) + (nI 10))), (0, .int (nI 2)), (1, .int (nI a)), (2, .int (nI b)), (3, .int x), (4, .ref aq), (5, .ref af), (6, .ref ad), (7, .ref aw), (8, .ref al), (9, .ref ar)]) hx hb dL_ofShot_36 hl (by decide) rfl (fun ls hl => ?_)
  refine lv_iload_n hx hb dL_ofShot_38 rfl (lv_at hl 1 rfl) ?_
  refine lv_iconst (v := nI 1) hx hb dL_ofShot_39 (by decide) ?_
  refine rn_icmp_ne (a := 2) (b := 1) (tgt := 60) hx hb (by omega) (by omega) dL_ofShot_40 (by decide) (fun c_3 => ?_) (fun c_3 => absurd c_3 (by omega))
  refine lv_iload_n hx hb dL_ofShot_60 rfl (lv_at hl 1 rfl) ?_
  refine lv_iconst (v := nI 2) hx hb dL_ofShot_61 (by decide) ?_
  refine rn_icmp_ne (a := 2) (b := 2) (tgt := 85) hx hb (by omega) (by omega) dL_ofShot_62 (by decide) (fun c_4 => absurd c_4 (by omega)) (fun c_4 => ?_)
  refine lv_aload hx hb dL_ofShot_65 (lv_at hl 8 rfl) ?_
  refine lv_iconst (v := nI 3) hx hb dL_ofShot_67 (by decide) ?_
  refine lv_iload_n hx hb dL_ofShot_68 rfl (lv_at hl 2 rfl) ?_
  refine rn_mul (a := 3) (b := a) hx hb dL_ofShot_69 ?_
  refine lv_iload_n hx hb dL_ofShot_70 rfl (lv_at hl 3 rfl) ?_
  refine rn_add (a := 3 * a) (b := b) hx hb dL_ofShot_71 ?_
  refine lv_iload_n hx hb dL_ofShot_72 rfl (lv_at hl 4 rfl) ?_
  refine lv_bipush (v := nI 21) hx hb dL_ofShot_73 (by decide) ?_
  refine rwS2 (rest := [.int (nI (3 * a + b)), .ref aw]) S (c_L_low l E x 21 (by omega) (by omega)) cd_L_low bw_140 ⟨Nat.le_of_ble_eq_true rfl, Nat.le_of_ble_eq_true rfl⟩ ⟨Nat.zero_le _, Nat.zero_le _⟩ hP (hDa.to rfl) hE hA hS [] rfl rfl [] rfl rfl (Nat.le_of_ble_eq_true rfl) hl.1 dL_ofShot_75 (fun H locs hP _ hS => ?_)
  have hP : va_P E.1 vwCl [(aq, .inl (E.2.1, 13, .inl vq)), (af, .inl (E.2.1, 21, .inl vf)), (ad, .inl (E.2.1, 63, .inl vd)), (aw, .inl (E.2.1, 63, .inl vw)), (al, .inl (E.2.1, 63, .inl vl)), (ar, .inl (E.2.1, 63, .inl vr))] H := hP
  refine lv_bipush (v := nI 10) hx hb dL_ofShot_78 (by decide) ?_
  refine lv_isub hx hb dL_ofShot_80 ?_
  refine rn_iast (i := 3 * a + b) hx hb hK hP (hDa.to rfl) hS 3 0 rfl rfl (by omega) (by omega) dL_ofShot_81 (fun H locs hP _ hS => ?_)
  have hP : va_P E.1 vwCl [(aq, .inl (E.2.1, 13, .inl vq)), (af, .inl (E.2.1, 21, .inl vf)), (ad, .inl (E.2.1, 63, .inl vd)), (aw, .inl (E.2.1, 63, .inl (upd vw (3 * a + b) (nI (lowN x 21) - (nI 10))))), (al, .inl (E.2.1, 63, .inl vl)), (ar, .inl (E.2.1, 63, .inl vr))] H := hP
  refine lv_iload hx hb dL_ofShot_82 (lv_at hl 0 rfl) ?_
  exact hret _ _ _ _ _ _ (by rw [s2V]) (by rw [show s2Q vq vf vd vw vl vr n a b x = vq from by rw [s2Q], show s2F vq vf vd vw vl vr n a b x = vf from by rw [s2F], show s2D vq vf vd vw vl vr n a b x = vd from by rw [s2D], show s2W vq vf vd vw vl vr n a b x = upd vw (3 * a + b) (nI (lowN x 21) - (nI 10)) from by rw [s2W], show s2L vq vf vd vw vl vr n a b x = vl from by rw [s2L], show s2R vq vf vd vw vl vr n a b x = vr from by rw [s2R]]) rfl hP hS dL_ofShot_84

def s3V (vq : Nat → Int32) (vf : Nat → Int32) (vd : Nat → Int32) (vw : Nat → Int32) (vl : Nat → Int32) (vr : Nat → Int32) (n : Nat) (a : Nat) (b : Nat) (x : Int32) : Int32 := if lowN x 21 < n then lSz (nI (lowN x 21) - (nI a)) else (-1)
def s3Q (vq : Nat → Int32) (vf : Nat → Int32) (vd : Nat → Int32) (vw : Nat → Int32) (vl : Nat → Int32) (vr : Nat → Int32) (n : Nat) (a : Nat) (b : Nat) (x : Int32) : Nat → Int32 := if lowN x 21 < n then upd (upd vq 4 (nI (n - 1))) 4 (nI ((n - 1) + 1)) else vq
def s3F (vq : Nat → Int32) (vf : Nat → Int32) (vd : Nat → Int32) (vw : Nat → Int32) (vl : Nat → Int32) (vr : Nat → Int32) (n : Nat) (a : Nat) (b : Nat) (x : Int32) : Nat → Int32 := if lowN x 21 < n then cp1 (su1 (sd1 (cp1 vf a 20) a (n - 1)) (n - 1) (lowN x 21)) 20 (lowN x 21) else vf
def s3D (vq : Nat → Int32) (vf : Nat → Int32) (vd : Nat → Int32) (vw : Nat → Int32) (vl : Nat → Int32) (vr : Nat → Int32) (n : Nat) (a : Nat) (b : Nat) (x : Int32) : Nat → Int32 := if lowN x 21 < n then cp3 (su3 (sd3 (cp3 vd a 20) a (n - 1)) (n - 1) (lowN x 21)) 20 (lowN x 21) else vd
def s3W (vq : Nat → Int32) (vf : Nat → Int32) (vd : Nat → Int32) (vw : Nat → Int32) (vl : Nat → Int32) (vr : Nat → Int32) (n : Nat) (a : Nat) (b : Nat) (x : Int32) : Nat → Int32 := if lowN x 21 < n then cp3 (su3 (sd3 (cp3 vw a 20) a (n - 1)) (n - 1) (lowN x 21)) 20 (lowN x 21) else vw
def s3L (vq : Nat → Int32) (vf : Nat → Int32) (vd : Nat → Int32) (vw : Nat → Int32) (vl : Nat → Int32) (vr : Nat → Int32) (n : Nat) (a : Nat) (b : Nat) (x : Int32) : Nat → Int32 := if lowN x 21 < n then cp3 (su3 (sd3 (cp3 vl a 20) a (n - 1)) (n - 1) (lowN x 21)) 20 (lowN x 21) else vl
def s3R (vq : Nat → Int32) (vf : Nat → Int32) (vd : Nat → Int32) (vw : Nat → Int32) (vl : Nat → Int32) (vr : Nat → Int32) (n : Nat) (a : Nat) (b : Nat) (x : Int32) : Nat → Int32 := if lowN x 21 < n then cp3 (su3 (sd3 (cp3 vr a 20) a (n - 1)) (n - 1) (lowN x 21)) 20 (lowN x 21) else vr
set_option maxHeartbeats 4000000 in
set_option maxRecDepth 100000 in
theorem c_L_ofShot_3 (l : Launch) (E : EV) (a : Nat) (b : Nat) (x : Int32) (aq : Nat) (af : Nat) (ad : Nat) (aw : Nat) (al : Nat) (ar : Nat) (vq : Nat → Int32) (vf : Nat → Int32) (vd : Nat → Int32) (vw : Nat → Int32) (vl : Nat → Int32) (vr : Nat → Int32) (n : Nat) (hf : vq 4 = nI n) (hn : n ≤ 20) (ha : a < n) : rcI l E yL_ofShot cL_ofShot 13 .int 3 [.int (nI 3), .int (nI a), .int (nI b), .int x, .ref aq, .ref af, .ref ad, .ref aw, .ref al, .ref ar] [(aq, .inl (E.2.1, 13, .inl vq)), (af, .inl (E.2.1, 21, .inl vf)), (ad, .inl (E.2.1, 63, .inl vd)), (aw, .inl (E.2.1, 63, .inl vw)), (al, .inl (E.2.1, 63, .inl vl)), (ar, .inl (E.2.1, 63, .inl vr))] (s3V vq vf vd vw vl vr n a b x) [(aq, .inl (E.2.1, 13, .inl (s3Q vq vf vd vw vl vr n a b x))), (af, .inl (E.2.1, 21, .inl (s3F vq vf vd vw vl vr n a b x))), (ad, .inl (E.2.1, 63, .inl (s3D vq vf vd vw vl vr n a b x))), (aw, .inl (E.2.1, 63, .inl (s3W vq vf vd vw vl vr n a b x))), (al, .inl (E.2.1, 63, .inl (s3L vq vf vd vw vl vr n a b x))), (ar, .inl (E.2.1, 63, .inl (s3R vq vf vd vw vl vr n a b x)))] := by
  refine rcI_of (by decide) (Nat.le_of_ble_eq_true rfl) ?_
  intro pg e s m below meth c Q A ls S hP hD0 hE hA hl hret
  have hx := S.1
  have hb := S.2.1
  have hown := S.2.2.2.1
  have hts := S.2.2.2.2
  have hK := hE.1
  have hS : va_S A s.heap s.heap [] := va_S.rf
  have hDa : va_Da A [aq, af, ad, aw, al, ar] := ⟨_, hD0, rfl⟩
  have hl : lv_has ls 13 [(0, .int (nI 3)), (1, .int (nI a)), (2, .int (nI b)), (3, .int x), (4, .ref aq), (5, .ref af), (6, .ref ad), (7, .ref aw), (8, .ref al), (9, .ref ar)] := hl
  have hz21 := lowN_lt x (m := 21) (by omega)
  refine lv_iload_n hx hb dL_ofShot_0 rfl (lv_at hl 0 rfl) ?_
  refine lv_iconst (v := nI 1) hx hb dL_ofShot_1 (by decide) ?_
  refine rn_icmp_ne (a := 3) (b := 1) (tgt := 16) hx hb (by omega) (by omega) dL_ofShot_2 (by decide) (fun c_1 => ?_) (fun c_1 => absurd c_1 (by omega))
  refine lv_iload_n hx hb dL_ofShot_16 rfl (lv_at hl 0 rfl) ?_
  refine lv_iconst (v := nI 2) hx hb dL_ofShot_17 (by decide) ?_
  refine rn_icmp_ne (a := 3) (b := 2) (tgt := 35) hx hb (by omega) (by omega) dL_ofShot_18 (by decide) (fun c_2 => ?_) (fun c_2 => absurd c_2 (by omega))
  refine lv_iconst (v := nI 0) hx hb dL_ofShot_35 (by decide) ?_
  refine lv_istore (lv' := [(10, .int (nI 0)), (0, .int (nI 3)), (1, .int (nI a)), (2, .int (nI b)), (3, .int x), (4, .ref aq), (5, .ref af), (6, .ref ad), (7, .ref aw), (8, .ref al), (9, .ref ar)]) hx hb dL_ofShot_36 hl (by decide) rfl (fun ls hl => ?_)
  refine lv_iload_n hx hb dL_ofShot_38 rfl (lv_at hl 1 rfl) ?_
  refine lv_iconst (v := nI 1) hx hb dL_ofShot_39 (by decide) ?_
  refine rn_icmp_ne (a := 3) (b := 1) (tgt := 60) hx hb (by omega) (by omega) dL_ofShot_40 (by decide) (fun c_3 => ?_) (fun c_3 => absurd c_3 (by omega))
  refine lv_iload_n hx hb dL_ofShot_60 rfl (lv_at hl 1 rfl) ?_
  refine lv_iconst (v := nI 2) hx hb dL_ofShot_61 (by decide) ?_
  refine rn_icmp_ne (a := 3) (b := 2) (tgt := 85) hx hb (by omega) (by omega) dL_ofShot_62 (by decide) (fun c_4 => ?_) (fun c_4 => absurd c_4 (by omega))
  refine lv_iload_n hx hb dL_ofShot_85 rfl (lv_at hl 1 rfl) ?_
  refine lv_iconst (v := nI 3) hx hb dL_ofShot_86 (by decide) ?_
  refine rn_icmp_ne (a := 3) (b := 3) (tgt := 185) hx hb (by omega) (by omega) dL_ofShot_87 (by decide) (fun c_5 => absurd c_5 (by omega)) (fun c_5 => ?_)
  refine lv_iload_n hx hb dL_ofShot_90 rfl (lv_at hl 4 rfl) ?_
  refine lv_bipush (v := nI 21) hx hb dL_ofShot_91 (by decide) ?_
  refine rwS2 (rest := []) S (c_L_low l E x 21 (by omega) (by omega)) cd_L_low bw_140 ⟨Nat.le_of_ble_eq_true rfl, Nat.le_of_ble_eq_true rfl⟩ ⟨Nat.zero_le _, Nat.zero_le _⟩ hP (hDa.to rfl) hE hA hS [] rfl rfl [] rfl rfl (Nat.le_of_ble_eq_true rfl) hl.1 dL_ofShot_93 (fun H locs hP _ hS => ?_)
  have hP : va_P E.1 vwCl [(aq, .inl (E.2.1, 13, .inl vq)), (af, .inl (E.2.1, 21, .inl vf)), (ad, .inl (E.2.1, 63, .inl vd)), (aw, .inl (E.2.1, 63, .inl vw)), (al, .inl (E.2.1, 63, .inl vl)), (ar, .inl (E.2.1, 63, .inl vr))] H := hP
  refine lv_istore (lv' := [(11, .int (nI (lowN x 21))), (10, .int (nI 0)), (0, .int (nI 3)), (1, .int (nI a)), (2, .int (nI b)), (3, .int x), (4, .ref aq), (5, .ref af), (6, .ref ad), (7, .ref aw), (8, .ref al), (9, .ref ar)]) hx hb dL_ofShot_96 hl (by decide) rfl (fun ls hl => ?_)
  refine lv_iload hx hb dL_ofShot_98 (lv_at hl 0 rfl) ?_
  refine lv_aload hx hb dL_ofShot_100 (lv_at hl 6 rfl) ?_
  refine lv_iconst (v := nI 4) hx hb dL_ofShot_102 (by decide) ?_
  refine rn_iald (i := 4) hx hb hK hP 0 0 rfl rfl (by omega) (by omega) dL_ofShot_103 ?_
  refine W.eq (congrArg (fun z9 => F0 m 104 ls (.int z9 :: [.int (nI (lowN x 21))])) (show vq 4 = nI n from hf)) ?_
  refine rn_icmp_lt (a := lowN x 21) (b := n) (tgt := 109) hx hb (by omega) (by omega) dL_ofShot_104 (by decide) (fun c_6 => ?_) (fun c_6 => ?_)
  · refine lv_iload_n hx hb dL_ofShot_109 rfl (lv_at hl 3 rfl) ?_
    refine lv_bipush (v := nI 20) hx hb dL_ofShot_110 (by decide) ?_
    refine lv_aload hx hb dL_ofShot_112 (lv_at hl 7 rfl) ?_
    refine lv_aload hx hb dL_ofShot_114 (lv_at hl 8 rfl) ?_
    refine lv_aload hx hb dL_ofShot_116 (lv_at hl 9 rfl) ?_
    refine lv_aload hx hb dL_ofShot_118 (lv_at hl 10 rfl) ?_
    refine lv_aload hx hb dL_ofShot_120 (lv_at hl 11 rfl) ?_
    refine rwSv7 (rest := []) S (c_L_copy l E a 20 af ad aw al ar vf vd vw vl vr (by omega) (by omega) (by omega)) cd_L_copy bw_383 ⟨Nat.le_of_ble_eq_true rfl, Nat.le_of_ble_eq_true rfl⟩ ⟨Nat.zero_le _, Nat.zero_le _⟩ hP (hDa.to rfl) hE hA hS [1, 2, 3, 4, 5] rfl rfl [af, ad, aw, al, ar] rfl rfl (Nat.le_of_ble_eq_true rfl) hl.1 dL_ofShot_122 (fun H locs hP _ hS => ?_)
    have hP : va_P E.1 vwCl [(aq, .inl (E.2.1, 13, .inl vq)), (af, .inl (E.2.1, 21, .inl (cp1 vf a 20))), (ad, .inl (E.2.1, 63, .inl (cp3 vd a 20))), (aw, .inl (E.2.1, 63, .inl (cp3 vw a 20))), (al, .inl (E.2.1, 63, .inl (cp3 vl a 20))), (ar, .inl (E.2.1, 63, .inl (cp3 vr a 20)))] H := hP
    refine lv_iload_n hx hb dL_ofShot_125 rfl (lv_at hl 3 rfl) ?_
    refine lv_iconst (v := (-1)) hx hb dL_ofShot_126 (by decide) ?_
    refine lv_aload hx hb dL_ofShot_127 (lv_at hl 6 rfl) ?_
    refine lv_aload hx hb dL_ofShot_129 (lv_at hl 7 rfl) ?_
    refine lv_aload hx hb dL_ofShot_131 (lv_at hl 8 rfl) ?_
    refine lv_aload hx hb dL_ofShot_133 (lv_at hl 9 rfl) ?_
    refine lv_aload hx hb dL_ofShot_135 (lv_at hl 10 rfl) ?_
    refine lv_aload hx hb dL_ofShot_137 (lv_at hl 11 rfl) ?_
    refine rwSv8 (rest := []) S (c_L_shift_d l E a aq af ad aw al ar vq (cp1 vf a 20) (cp3 vd a 20) (cp3 vw a 20) (cp3 vl a 20) (cp3 vr a 20) n hf hn ha) cd_L_shift bw_380 ⟨Nat.le_of_ble_eq_true rfl, Nat.le_of_ble_eq_true rfl⟩ ⟨Nat.zero_le _, Nat.zero_le _⟩ hP (hDa.to rfl) hE hA hS [0, 1, 2, 3, 4, 5] rfl rfl [aq, af, ad, aw, al, ar] rfl rfl (Nat.le_of_ble_eq_true rfl) hl.1 dL_ofShot_139 (fun H locs hP _ hS => ?_)
    have hP : va_P E.1 vwCl [(aq, .inl (E.2.1, 13, .inl (upd vq 4 (nI (n - 1))))), (af, .inl (E.2.1, 21, .inl (sd1 (cp1 vf a 20) a (n - 1)))), (ad, .inl (E.2.1, 63, .inl (sd3 (cp3 vd a 20) a (n - 1)))), (aw, .inl (E.2.1, 63, .inl (sd3 (cp3 vw a 20) a (n - 1)))), (al, .inl (E.2.1, 63, .inl (sd3 (cp3 vl a 20) a (n - 1)))), (ar, .inl (E.2.1, 63, .inl (sd3 (cp3 vr a 20) a (n - 1))))] H := hP
    refine lv_iload hx hb dL_ofShot_142 (lv_at hl 0 rfl) ?_
    refine lv_iconst (v := nI 1) hx hb dL_ofShot_144 (by decide) ?_
    refine lv_aload hx hb dL_ofShot_145 (lv_at hl 6 rfl) ?_
    refine lv_aload hx hb dL_ofShot_147 (lv_at hl 7 rfl) ?_
    refine lv_aload hx hb dL_ofShot_149 (lv_at hl 8 rfl) ?_
    refine lv_aload hx hb dL_ofShot_151 (lv_at hl 9 rfl) ?_
    refine lv_aload hx hb dL_ofShot_153 (lv_at hl 10 rfl) ?_
    refine lv_aload hx hb dL_ofShot_155 (lv_at hl 11 rfl) ?_
    refine rwSv8 (rest := []) S (c_L_shift_u l E (lowN x 21) aq af ad aw al ar (upd vq 4 (nI (n - 1))) (sd1 (cp1 vf a 20) a (n - 1)) (sd3 (cp3 vd a 20) a (n - 1)) (sd3 (cp3 vw a 20) a (n - 1)) (sd3 (cp3 vl a 20) a (n - 1)) (sd3 (cp3 vr a 20) a (n - 1)) (n - 1) pk_us (by omega) (by omega)) cd_L_shift bw_380 ⟨Nat.le_of_ble_eq_true rfl, Nat.le_of_ble_eq_true rfl⟩ ⟨Nat.zero_le _, Nat.zero_le _⟩ hP (hDa.to rfl) hE hA hS [0, 1, 2, 3, 4, 5] rfl rfl [aq, af, ad, aw, al, ar] rfl rfl (Nat.le_of_ble_eq_true rfl) hl.1 dL_ofShot_157 (fun H locs hP _ hS => ?_)
    have hP : va_P E.1 vwCl [(aq, .inl (E.2.1, 13, .inl (upd (upd vq 4 (nI (n - 1))) 4 (nI ((n - 1) + 1))))), (af, .inl (E.2.1, 21, .inl (su1 (sd1 (cp1 vf a 20) a (n - 1)) (n - 1) (lowN x 21)))), (ad, .inl (E.2.1, 63, .inl (su3 (sd3 (cp3 vd a 20) a (n - 1)) (n - 1) (lowN x 21)))), (aw, .inl (E.2.1, 63, .inl (su3 (sd3 (cp3 vw a 20) a (n - 1)) (n - 1) (lowN x 21)))), (al, .inl (E.2.1, 63, .inl (su3 (sd3 (cp3 vl a 20) a (n - 1)) (n - 1) (lowN x 21)))), (ar, .inl (E.2.1, 63, .inl (su3 (sd3 (cp3 vr a 20) a (n - 1)) (n - 1) (lowN x 21))))] H := hP
    refine lv_bipush (v := nI 20) hx hb dL_ofShot_160 (by decide) ?_
    refine lv_iload hx hb dL_ofShot_162 (lv_at hl 0 rfl) ?_
    refine lv_aload hx hb dL_ofShot_164 (lv_at hl 7 rfl) ?_
    refine lv_aload hx hb dL_ofShot_166 (lv_at hl 8 rfl) ?_
    refine lv_aload hx hb dL_ofShot_168 (lv_at hl 9 rfl) ?_
    refine lv_aload hx hb dL_ofShot_170 (lv_at hl 10 rfl) ?_
    refine lv_aload hx hb dL_ofShot_172 (lv_at hl 11 rfl) ?_
    refine rwSv7 (rest := []) S (c_L_copy l E 20 (lowN x 21) af ad aw al ar (su1 (sd1 (cp1 vf a 20) a (n - 1)) (n - 1) (lowN x 21)) (su3 (sd3 (cp3 vd a 20) a (n - 1)) (n - 1) (lowN x 21)) (su3 (sd3 (cp3 vw a 20) a (n - 1)) (n - 1) (lowN x 21)) (su3 (sd3 (cp3 vl a 20) a (n - 1)) (n - 1) (lowN x 21)) (su3 (sd3 (cp3 vr a 20) a (n - 1)) (n - 1) (lowN x 21)) (by omega) (by omega) (by omega)) cd_L_copy bw_383 ⟨Nat.le_of_ble_eq_true rfl, Nat.le_of_ble_eq_true rfl⟩ ⟨Nat.zero_le _, Nat.zero_le _⟩ hP (hDa.to rfl) hE hA hS [1, 2, 3, 4, 5] rfl rfl [af, ad, aw, al, ar] rfl rfl (Nat.le_of_ble_eq_true rfl) hl.1 dL_ofShot_174 (fun H locs hP _ hS => ?_)
    have hP : va_P E.1 vwCl [(aq, .inl (E.2.1, 13, .inl (upd (upd vq 4 (nI (n - 1))) 4 (nI ((n - 1) + 1))))), (af, .inl (E.2.1, 21, .inl (cp1 (su1 (sd1 (cp1 vf a 20) a (n - 1)) (n - 1) (lowN x 21)) 20 (lowN x 21)))), (ad, .inl (E.2.1, 63, .inl (cp3 (su3 (sd3 (cp3 vd a 20) a (n - 1)) (n - 1) (lowN x 21)) 20 (lowN x 21)))), (aw, .inl (E.2.1, 63, .inl (cp3 (su3 (sd3 (cp3 vw a 20) a (n - 1)) (n - 1) (lowN x 21)) 20 (lowN x 21)))), (al, .inl (E.2.1, 63, .inl (cp3 (su3 (sd3 (cp3 vl a 20) a (n - 1)) (n - 1) (lowN x 21)) 20 (lowN x 21)))), (ar, .inl (E.2.1, 63, .inl (cp3 (su3 (sd3 (cp3 vr a 20) a (n - 1)) (n - 1) (lowN x 21)) 20 (lowN x 21))))] H := hP
    refine lv_iload hx hb dL_ofShot_177 (lv_at hl 0 rfl) ?_
    refine lv_iload_n hx hb dL_ofShot_179 rfl (lv_at hl 3 rfl) ?_
    refine lv_isub hx hb dL_ofShot_180 ?_
    refine rwS1 (rest := []) S (c_L_size l E (nI (lowN x 21) - (nI a))) cd_L_size bw_392 ⟨Nat.le_of_ble_eq_true rfl, Nat.le_of_ble_eq_true rfl⟩ ⟨Nat.zero_le _, Nat.zero_le _⟩ hP (hDa.to rfl) hE hA hS [] rfl rfl [] rfl rfl (Nat.le_of_ble_eq_true rfl) hl.1 dL_ofShot_181 (fun H locs hP _ hS => ?_)
    have hP : va_P E.1 vwCl [(aq, .inl (E.2.1, 13, .inl (upd (upd vq 4 (nI (n - 1))) 4 (nI ((n - 1) + 1))))), (af, .inl (E.2.1, 21, .inl (cp1 (su1 (sd1 (cp1 vf a 20) a (n - 1)) (n - 1) (lowN x 21)) 20 (lowN x 21)))), (ad, .inl (E.2.1, 63, .inl (cp3 (su3 (sd3 (cp3 vd a 20) a (n - 1)) (n - 1) (lowN x 21)) 20 (lowN x 21)))), (aw, .inl (E.2.1, 63, .inl (cp3 (su3 (sd3 (cp3 vw a 20) a (n - 1)) (n - 1) (lowN x 21)) 20 (lowN x 21)))), (al, .inl (E.2.1, 63, .inl (cp3 (su3 (sd3 (cp3 vl a 20) a (n - 1)) (n - 1) (lowN x 21)) 20 (lowN x 21)))), (ar, .inl (E.2.1, 63, .inl (cp3 (su3 (sd3 (cp3 vr a 20) a (n - 1)) (n - 1) (lowN x 21)) 20 (lowN x 21))))] H := hP
    exact hret _ _ _ _ _ _ (by rw [s3V, if_pos c_6]) (by rw [show s3Q vq vf vd vw vl vr n a b x = upd (upd vq 4 (nI (n - 1))) 4 (nI ((n - 1) + 1)) from by rw [s3Q, if_pos c_6], show s3F vq vf vd vw vl vr n a b x = cp1 (su1 (sd1 (cp1 vf a 20) a (n - 1)) (n - 1) (lowN x 21)) 20 (lowN x 21) from by rw [s3F, if_pos c_6], show s3D vq vf vd vw vl vr n a b x = cp3 (su3 (sd3 (cp3 vd a 20) a (n - 1)) (n - 1) (lowN x 21)) 20 (lowN x 21) from by rw [s3D, if_pos c_6], show s3W vq vf vd vw vl vr n a b x = cp3 (su3 (sd3 (cp3 vw a 20) a (n - 1)) (n - 1) (lowN x 21)) 20 (lowN x 21) from by rw [s3W, if_pos c_6], show s3L vq vf vd vw vl vr n a b x = cp3 (su3 (sd3 (cp3 vl a 20) a (n - 1)) (n - 1) (lowN x 21)) 20 (lowN x 21) from by rw [s3L, if_pos c_6], show s3R vq vf vd vw vl vr n a b x = cp3 (su3 (sd3 (cp3 vr a 20) a (n - 1)) (n - 1) (lowN x 21)) 20 (lowN x 21) from by rw [s3R, if_pos c_6]]) rfl hP hS dL_ofShot_184
  · refine lv_iconst (v := (-1)) hx hb dL_ofShot_107 (by decide) ?_
    exact hret _ _ _ _ _ _ (by rw [s3V, if_neg c_6]) (by rw [show s3Q vq vf vd vw vl vr n a b x = vq from by rw [s3Q, if_neg c_6], show s3F vq vf vd vw vl vr n a b x = vf from by rw [s3F, if_neg c_6], show s3D vq vf vd vw vl vr n a b x = vd from by rw [s3D, if_neg c_6], show s3W vq vf vd vw vl vr n a b x = vw from by rw [s3W, if_neg c_6], show s3L vq vf vd vw vl vr n a b x = vl from by rw [s3L, if_neg c_6], show s3R vq vf vd vw vl vr n a b x = vr from by rw [s3R, if_neg c_6]]) rfl hP hS dL_ofShot_108

def s4V (vq : Nat → Int32) (vf : Nat → Int32) (vd : Nat → Int32) (vw : Nat → Int32) (vl : Nat → Int32) (vr : Nat → Int32) (n : Nat) (a : Nat) (b : Nat) (x : Int32) : Int32 := if nI (1 + lowN x 98) < vf a then if n = 20 then (-4) else nI (n + 1) else (-5)
def s4Q (vq : Nat → Int32) (vf : Nat → Int32) (vd : Nat → Int32) (vw : Nat → Int32) (vl : Nat → Int32) (vr : Nat → Int32) (n : Nat) (a : Nat) (b : Nat) (x : Int32) : Nat → Int32 := if nI (1 + lowN x 98) < vf a then if n = 20 then vq else upd vq 4 (nI (n + 1)) else vq
def s4F (vq : Nat → Int32) (vf : Nat → Int32) (vd : Nat → Int32) (vw : Nat → Int32) (vl : Nat → Int32) (vr : Nat → Int32) (n : Nat) (a : Nat) (b : Nat) (x : Int32) : Nat → Int32 := if nI (1 + lowN x 98) < vf a then if n = 20 then vf else upd (upd (su1 vf n a) (a + 1) (su1 vf n a a - (nI (1 + lowN x 98)))) a (nI (1 + lowN x 98)) else vf
def s4D (vq : Nat → Int32) (vf : Nat → Int32) (vd : Nat → Int32) (vw : Nat → Int32) (vl : Nat → Int32) (vr : Nat → Int32) (n : Nat) (a : Nat) (b : Nat) (x : Int32) : Nat → Int32 := if nI (1 + lowN x 98) < vf a then if n = 20 then vd else su3 vd n a else vd
def s4W (vq : Nat → Int32) (vf : Nat → Int32) (vd : Nat → Int32) (vw : Nat → Int32) (vl : Nat → Int32) (vr : Nat → Int32) (n : Nat) (a : Nat) (b : Nat) (x : Int32) : Nat → Int32 := if nI (1 + lowN x 98) < vf a then if n = 20 then vw else su3 vw n a else vw
def s4L (vq : Nat → Int32) (vf : Nat → Int32) (vd : Nat → Int32) (vw : Nat → Int32) (vl : Nat → Int32) (vr : Nat → Int32) (n : Nat) (a : Nat) (b : Nat) (x : Int32) : Nat → Int32 := if nI (1 + lowN x 98) < vf a then if n = 20 then vl else su3 vl n a else vl
def s4R (vq : Nat → Int32) (vf : Nat → Int32) (vd : Nat → Int32) (vw : Nat → Int32) (vl : Nat → Int32) (vr : Nat → Int32) (n : Nat) (a : Nat) (b : Nat) (x : Int32) : Nat → Int32 := if nI (1 + lowN x 98) < vf a then if n = 20 then vr else fo3 (fo3 (su3 vr n a) a) (a + 1) else vr
set_option maxHeartbeats 4000000 in
set_option maxRecDepth 100000 in
theorem c_L_ofShot_4 (l : Launch) (E : EV) (a : Nat) (b : Nat) (x : Int32) (aq : Nat) (af : Nat) (ad : Nat) (aw : Nat) (al : Nat) (ar : Nat) (vq : Nat → Int32) (vf : Nat → Int32) (vd : Nat → Int32) (vw : Nat → Int32) (vl : Nat → Int32) (vr : Nat → Int32) (n : Nat) (hf : vq 4 = nI n) (hn : n ≤ 20) (ha : a < n) : rcI l E yL_ofShot cL_ofShot 13 .int 3 [.int (nI 4), .int (nI a), .int (nI b), .int x, .ref aq, .ref af, .ref ad, .ref aw, .ref al, .ref ar] [(aq, .inl (E.2.1, 13, .inl vq)), (af, .inl (E.2.1, 21, .inl vf)), (ad, .inl (E.2.1, 63, .inl vd)), (aw, .inl (E.2.1, 63, .inl vw)), (al, .inl (E.2.1, 63, .inl vl)), (ar, .inl (E.2.1, 63, .inl vr))] (s4V vq vf vd vw vl vr n a b x) [(aq, .inl (E.2.1, 13, .inl (s4Q vq vf vd vw vl vr n a b x))), (af, .inl (E.2.1, 21, .inl (s4F vq vf vd vw vl vr n a b x))), (ad, .inl (E.2.1, 63, .inl (s4D vq vf vd vw vl vr n a b x))), (aw, .inl (E.2.1, 63, .inl (s4W vq vf vd vw vl vr n a b x))), (al, .inl (E.2.1, 63, .inl (s4L vq vf vd vw vl vr n a b x))), (ar, .inl (E.2.1, 63, .inl (s4R vq vf vd vw vl vr n a b x)))] := by
  refine rcI_of (by decide) (Nat.le_of_ble_eq_true rfl) ?_
  intro pg e s m below meth c Q A ls S hP hD0 hE hA hl hret
  have hx := S.1
  have hb := S.2.1
  have hown := S.2.2.2.1
  have hts := S.2.2.2.2
  have hK := hE.1
  have hS : va_S A s.heap s.heap [] := va_S.rf
  have hDa : va_Da A [aq, af, ad, aw, al, ar] := ⟨_, hD0, rfl⟩
  have hl : lv_has ls 13 [(0, .int (nI 4)), (1, .int (nI a)), (2, .int (nI b)), (3, .int x), (4, .ref aq), (5, .ref af), (6, .ref ad), (7, .ref aw), (8, .ref al), (9, .ref ar)] := hl
  refine lv_iload_n hx hb dL_ofShot_0 rfl (lv_at hl 0 rfl) ?_
  refine lv_iconst (v := nI 1) hx hb dL_ofShot_1 (by decide) ?_
  refine rn_icmp_ne (a := 4) (b := 1) (tgt := 16) hx hb (by omega) (by omega) dL_ofShot_2 (by decide) (fun c_1 => ?_) (fun c_1 => absurd c_1 (by omega))
  refine lv_iload_n hx hb dL_ofShot_16 rfl (lv_at hl 0 rfl) ?_
  refine lv_iconst (v := nI 2) hx hb dL_ofShot_17 (by decide) ?_
  refine rn_icmp_ne (a := 4) (b := 2) (tgt := 35) hx hb (by omega) (by omega) dL_ofShot_18 (by decide) (fun c_2 => ?_) (fun c_2 => absurd c_2 (by omega))
  refine lv_iconst (v := nI 0) hx hb dL_ofShot_35 (by decide) ?_
  refine lv_istore (lv' := [(10, .int (nI 0)), (0, .int (nI 4)), (1, .int (nI a)), (2, .int (nI b)), (3, .int x), (4, .ref aq), (5, .ref af), (6, .ref ad), (7, .ref aw), (8, .ref al), (9, .ref ar)]) hx hb dL_ofShot_36 hl (by decide) rfl (fun ls hl => ?_)
  refine lv_iload_n hx hb dL_ofShot_38 rfl (lv_at hl 1 rfl) ?_
  refine lv_iconst (v := nI 1) hx hb dL_ofShot_39 (by decide) ?_
  refine rn_icmp_ne (a := 4) (b := 1) (tgt := 60) hx hb (by omega) (by omega) dL_ofShot_40 (by decide) (fun c_3 => ?_) (fun c_3 => absurd c_3 (by omega))
  refine lv_iload_n hx hb dL_ofShot_60 rfl (lv_at hl 1 rfl) ?_
  refine lv_iconst (v := nI 2) hx hb dL_ofShot_61 (by decide) ?_
  refine rn_icmp_ne (a := 4) (b := 2) (tgt := 85) hx hb (by omega) (by omega) dL_ofShot_62 (by decide) (fun c_4 => ?_) (fun c_4 => absurd c_4 (by omega))
  refine lv_iload_n hx hb dL_ofShot_85 rfl (lv_at hl 1 rfl) ?_
  refine lv_iconst (v := nI 3) hx hb dL_ofShot_86 (by decide) ?_
  refine rn_icmp_ne (a := 4) (b := 3) (tgt := 185) hx hb (by omega) (by omega) dL_ofShot_87 (by decide) (fun c_5 => ?_) (fun c_5 => absurd c_5 (by omega))
  refine lv_iload_n hx hb dL_ofShot_185 rfl (lv_at hl 1 rfl) ?_
  refine lv_iconst (v := nI 4) hx hb dL_ofShot_186 (by decide) ?_
  refine rn_icmp_ne (a := 4) (b := 4) (tgt := 279) hx hb (by omega) (by omega) dL_ofShot_187 (by decide) (fun c_6 => absurd c_6 (by omega)) (fun c_6 => ?_)
  refine lv_iconst (v := nI 1) hx hb dL_ofShot_190 (by decide) ?_
  refine lv_iload_n hx hb dL_ofShot_191 rfl (lv_at hl 4 rfl) ?_
  refine lv_bipush (v := nI 98) hx hb dL_ofShot_192 (by decide) ?_
  refine rwS2 (rest := [.int (nI 1)]) S (c_L_low l E x 98 (by omega) (by omega)) cd_L_low bw_140 ⟨Nat.le_of_ble_eq_true rfl, Nat.le_of_ble_eq_true rfl⟩ ⟨Nat.zero_le _, Nat.zero_le _⟩ hP (hDa.to rfl) hE hA hS [] rfl rfl [] rfl rfl (Nat.le_of_ble_eq_true rfl) hl.1 dL_ofShot_194 (fun H locs hP _ hS => ?_)
  have hP : va_P E.1 vwCl [(aq, .inl (E.2.1, 13, .inl vq)), (af, .inl (E.2.1, 21, .inl vf)), (ad, .inl (E.2.1, 63, .inl vd)), (aw, .inl (E.2.1, 63, .inl vw)), (al, .inl (E.2.1, 63, .inl vl)), (ar, .inl (E.2.1, 63, .inl vr))] H := hP
  refine rn_add (a := 1) (b := lowN x 98) hx hb dL_ofShot_197 ?_
  refine lv_istore (lv' := [(11, .int (nI (1 + lowN x 98))), (10, .int (nI 0)), (0, .int (nI 4)), (1, .int (nI a)), (2, .int (nI b)), (3, .int x), (4, .ref aq), (5, .ref af), (6, .ref ad), (7, .ref aw), (8, .ref al), (9, .ref ar)]) hx hb dL_ofShot_198 hl (by decide) rfl (fun ls hl => ?_)
  refine lv_aload hx hb dL_ofShot_200 (lv_at hl 7 rfl) ?_
  refine lv_iload_n hx hb dL_ofShot_202 rfl (lv_at hl 3 rfl) ?_
  refine rn_iald (i := a) hx hb hK hP 1 0 rfl rfl (by omega) (by omega) dL_ofShot_203 ?_
  refine lv_iload hx hb dL_ofShot_204 (lv_at hl 0 rfl) ?_
  refine lv_icmp_gt (tgt := 212) hx hb dL_ofShot_206 (by decide) (fun c_7 => ?_) (fun c_7 => ?_)
  · refine lv_aload hx hb dL_ofShot_212 (lv_at hl 6 rfl) ?_
    refine lv_iconst (v := nI 4) hx hb dL_ofShot_214 (by decide) ?_
    refine rn_iald (i := 4) hx hb hK hP 0 0 rfl rfl (by omega) (by omega) dL_ofShot_215 ?_
    refine W.eq (congrArg (fun z9 => F0 m 216 ls (.int z9 :: [])) (show vq 4 = nI n from hf)) ?_
    refine lv_bipush (v := nI 20) hx hb dL_ofShot_216 (by decide) ?_
    refine rn_icmp_ne (a := n) (b := 20) (tgt := 224) hx hb (by omega) (by omega) dL_ofShot_218 (by decide) (fun c_8 => ?_) (fun c_8 => ?_)
    · refine lv_iload_n hx hb dL_ofShot_224 rfl (lv_at hl 3 rfl) ?_
      refine lv_iconst (v := nI 1) hx hb dL_ofShot_225 (by decide) ?_
      refine lv_aload hx hb dL_ofShot_226 (lv_at hl 6 rfl) ?_
      refine lv_aload hx hb dL_ofShot_228 (lv_at hl 7 rfl) ?_
      refine lv_aload hx hb dL_ofShot_230 (lv_at hl 8 rfl) ?_
      refine lv_aload hx hb dL_ofShot_232 (lv_at hl 9 rfl) ?_
      refine lv_aload hx hb dL_ofShot_234 (lv_at hl 10 rfl) ?_
      refine lv_aload hx hb dL_ofShot_236 (lv_at hl 11 rfl) ?_
      refine rwSv8 (rest := []) S (c_L_shift_u l E a aq af ad aw al ar vq vf vd vw vl vr n hf hn (by omega)) cd_L_shift bw_380 ⟨Nat.le_of_ble_eq_true rfl, Nat.le_of_ble_eq_true rfl⟩ ⟨Nat.zero_le _, Nat.zero_le _⟩ hP (hDa.to rfl) hE hA hS [0, 1, 2, 3, 4, 5] rfl rfl [aq, af, ad, aw, al, ar] rfl rfl (Nat.le_of_ble_eq_true rfl) hl.1 dL_ofShot_238 (fun H locs hP _ hS => ?_)
      have hP : va_P E.1 vwCl [(aq, .inl (E.2.1, 13, .inl (upd vq 4 (nI (n + 1))))), (af, .inl (E.2.1, 21, .inl (su1 vf n a))), (ad, .inl (E.2.1, 63, .inl (su3 vd n a))), (aw, .inl (E.2.1, 63, .inl (su3 vw n a))), (al, .inl (E.2.1, 63, .inl (su3 vl n a))), (ar, .inl (E.2.1, 63, .inl (su3 vr n a)))] H := hP
      refine lv_aload hx hb dL_ofShot_241 (lv_at hl 7 rfl) ?_
      refine lv_iload_n hx hb dL_ofShot_243 rfl (lv_at hl 3 rfl) ?_
      refine lv_iconst (v := nI 1) hx hb dL_ofShot_244 (by decide) ?_
      refine rn_add (a := a) (b := 1) hx hb dL_ofShot_245 ?_
      refine lv_aload hx hb dL_ofShot_246 (lv_at hl 7 rfl) ?_
      refine lv_iload_n hx hb dL_ofShot_248 rfl (lv_at hl 3 rfl) ?_
      refine rn_iald (i := a) hx hb hK hP 1 0 rfl rfl (by omega) (by omega) dL_ofShot_249 ?_
      refine lv_iload hx hb dL_ofShot_250 (lv_at hl 0 rfl) ?_
      refine lv_isub hx hb dL_ofShot_252 ?_
      refine rn_iast (i := a + 1) hx hb hK hP (hDa.to rfl) hS 1 0 rfl rfl (by omega) (by omega) dL_ofShot_253 (fun H locs hP _ hS => ?_)
      have hP : va_P E.1 vwCl [(aq, .inl (E.2.1, 13, .inl (upd vq 4 (nI (n + 1))))), (af, .inl (E.2.1, 21, .inl (upd (su1 vf n a) (a + 1) (su1 vf n a a - (nI (1 + lowN x 98)))))), (ad, .inl (E.2.1, 63, .inl (su3 vd n a))), (aw, .inl (E.2.1, 63, .inl (su3 vw n a))), (al, .inl (E.2.1, 63, .inl (su3 vl n a))), (ar, .inl (E.2.1, 63, .inl (su3 vr n a)))] H := hP
      refine lv_aload hx hb dL_ofShot_254 (lv_at hl 7 rfl) ?_
      refine lv_iload_n hx hb dL_ofShot_256 rfl (lv_at hl 3 rfl) ?_
      refine lv_iload hx hb dL_ofShot_257 (lv_at hl 0 rfl) ?_
      refine rn_iast (i := a) hx hb hK hP (hDa.to rfl) hS 1 0 rfl rfl (by omega) (by omega) dL_ofShot_259 (fun H locs hP _ hS => ?_)
      have hP : va_P E.1 vwCl [(aq, .inl (E.2.1, 13, .inl (upd vq 4 (nI (n + 1))))), (af, .inl (E.2.1, 21, .inl (upd (upd (su1 vf n a) (a + 1) (su1 vf n a a - (nI (1 + lowN x 98)))) a (nI (1 + lowN x 98))))), (ad, .inl (E.2.1, 63, .inl (su3 vd n a))), (aw, .inl (E.2.1, 63, .inl (su3 vw n a))), (al, .inl (E.2.1, 63, .inl (su3 vl n a))), (ar, .inl (E.2.1, 63, .inl (su3 vr n a)))] H := hP
      refine lv_iload_n hx hb dL_ofShot_260 rfl (lv_at hl 3 rfl) ?_
      refine lv_aload hx hb dL_ofShot_261 (lv_at hl 11 rfl) ?_
      refine rwSv2 (rest := []) S (c_L_forget l E a ar (su3 vr n a) (by omega)) cd_L_forget bw_386 ⟨Nat.le_of_ble_eq_true rfl, Nat.le_of_ble_eq_true rfl⟩ ⟨Nat.zero_le _, Nat.zero_le _⟩ hP (hDa.to rfl) hE hA hS [5] rfl rfl [ar] rfl rfl (Nat.le_of_ble_eq_true rfl) hl.1 dL_ofShot_263 (fun H locs hP _ hS => ?_)
      have hP : va_P E.1 vwCl [(aq, .inl (E.2.1, 13, .inl (upd vq 4 (nI (n + 1))))), (af, .inl (E.2.1, 21, .inl (upd (upd (su1 vf n a) (a + 1) (su1 vf n a a - (nI (1 + lowN x 98)))) a (nI (1 + lowN x 98))))), (ad, .inl (E.2.1, 63, .inl (su3 vd n a))), (aw, .inl (E.2.1, 63, .inl (su3 vw n a))), (al, .inl (E.2.1, 63, .inl (su3 vl n a))), (ar, .inl (E.2.1, 63, .inl (fo3 (su3 vr n a) a)))] H := hP
      refine lv_iload_n hx hb dL_ofShot_266 rfl (lv_at hl 3 rfl) ?_
      refine lv_iconst (v := nI 1) hx hb dL_ofShot_267 (by decide) ?_
      refine rn_add (a := a) (b := 1) hx hb dL_ofShot_268 ?_
      refine lv_aload hx hb dL_ofShot_269 (lv_at hl 11 rfl) ?_
      refine rwSv2 (rest := []) S (c_L_forget l E (a + 1) ar (fo3 (su3 vr n a) a) (by omega)) cd_L_forget bw_386 ⟨Nat.le_of_ble_eq_true rfl, Nat.le_of_ble_eq_true rfl⟩ ⟨Nat.zero_le _, Nat.zero_le _⟩ hP (hDa.to rfl) hE hA hS [5] rfl rfl [ar] rfl rfl (Nat.le_of_ble_eq_true rfl) hl.1 dL_ofShot_271 (fun H locs hP _ hS => ?_)
      have hP : va_P E.1 vwCl [(aq, .inl (E.2.1, 13, .inl (upd vq 4 (nI (n + 1))))), (af, .inl (E.2.1, 21, .inl (upd (upd (su1 vf n a) (a + 1) (su1 vf n a a - (nI (1 + lowN x 98)))) a (nI (1 + lowN x 98))))), (ad, .inl (E.2.1, 63, .inl (su3 vd n a))), (aw, .inl (E.2.1, 63, .inl (su3 vw n a))), (al, .inl (E.2.1, 63, .inl (su3 vl n a))), (ar, .inl (E.2.1, 63, .inl (fo3 (fo3 (su3 vr n a) a) (a + 1))))] H := hP
      refine lv_aload hx hb dL_ofShot_274 (lv_at hl 6 rfl) ?_
      refine lv_iconst (v := nI 4) hx hb dL_ofShot_276 (by decide) ?_
      refine rn_iald (i := 4) hx hb hK hP 0 0 rfl rfl (by omega) (by omega) dL_ofShot_277 ?_
      refine W.eq (congrArg (fun z9 => F0 m 278 ls (.int z9 :: [])) (show (upd vq 4 (nI (n + 1))) 4 = nI (n + 1) from pk_us)) ?_
      exact hret _ _ _ _ _ _ (by rw [s4V, if_pos c_7, if_neg c_8]) (by rw [show s4Q vq vf vd vw vl vr n a b x = upd vq 4 (nI (n + 1)) from by rw [s4Q, if_pos c_7, if_neg c_8], show s4F vq vf vd vw vl vr n a b x = upd (upd (su1 vf n a) (a + 1) (su1 vf n a a - (nI (1 + lowN x 98)))) a (nI (1 + lowN x 98)) from by rw [s4F, if_pos c_7, if_neg c_8], show s4D vq vf vd vw vl vr n a b x = su3 vd n a from by rw [s4D, if_pos c_7, if_neg c_8], show s4W vq vf vd vw vl vr n a b x = su3 vw n a from by rw [s4W, if_pos c_7, if_neg c_8], show s4L vq vf vd vw vl vr n a b x = su3 vl n a from by rw [s4L, if_pos c_7, if_neg c_8], show s4R vq vf vd vw vl vr n a b x = fo3 (fo3 (su3 vr n a) a) (a + 1) from by rw [s4R, if_pos c_7, if_neg c_8]]) rfl hP hS dL_ofShot_278
    · refine lv_bipush (v := (-4)) hx hb dL_ofShot_221 (by decide) ?_
      exact hret _ _ _ _ _ _ (by rw [s4V, if_pos c_7, if_pos c_8]) (by rw [show s4Q vq vf vd vw vl vr n a b x = vq from by rw [s4Q, if_pos c_7, if_pos c_8], show s4F vq vf vd vw vl vr n a b x = vf from by rw [s4F, if_pos c_7, if_pos c_8], show s4D vq vf vd vw vl vr n a b x = vd from by rw [s4D, if_pos c_7, if_pos c_8], show s4W vq vf vd vw vl vr n a b x = vw from by rw [s4W, if_pos c_7, if_pos c_8], show s4L vq vf vd vw vl vr n a b x = vl from by rw [s4L, if_pos c_7, if_pos c_8], show s4R vq vf vd vw vl vr n a b x = vr from by rw [s4R, if_pos c_7, if_pos c_8]]) rfl hP hS dL_ofShot_223
  · refine lv_bipush (v := (-5)) hx hb dL_ofShot_209 (by decide) ?_
    exact hret _ _ _ _ _ _ (by rw [s4V, if_neg c_7]) (by rw [show s4Q vq vf vd vw vl vr n a b x = vq from by rw [s4Q, if_neg c_7], show s4F vq vf vd vw vl vr n a b x = vf from by rw [s4F, if_neg c_7], show s4D vq vf vd vw vl vr n a b x = vd from by rw [s4D, if_neg c_7], show s4W vq vf vd vw vl vr n a b x = vw from by rw [s4W, if_neg c_7], show s4L vq vf vd vw vl vr n a b x = vl from by rw [s4L, if_neg c_7], show s4R vq vf vd vw vl vr n a b x = vr from by rw [s4R, if_neg c_7]]) rfl hP hS dL_ofShot_211

