/-! the law's own changes of its rows, kind by kind -/
theorem cd_L_ofShot : cdS yL_ofShot cL_ofShot 13 (some .int) 10 := ⟨⟨bw_391, bw_1, by decide, by decide, by decide +kernel⟩, bw_390⟩
def s1V (vq : Nat → Int32) (vf : Nat → Int32) (vd : Nat → Int32) (vw : Nat → Int32) (vl : Nat → Int32) (vr : Nat → Int32) (n : Nat) (a : Nat) (b : Nat) (x : Int32) : Int32 := vl (3 * a + b)
def s1Q (vq : Nat → Int32) (vf : Nat → Int32) (vd : Nat → Int32) (vw : Nat → Int32) (vl : Nat → Int32) (vr : Nat → Int32) (n : Nat) (a : Nat) (b : Nat) (x : Int32) : Nat → Int32 := vq
def s1F (vq : Nat → Int32) (vf : Nat → Int32) (vd : Nat → Int32) (vw : Nat → Int32) (vl : Nat → Int32) (vr : Nat → Int32) (n : Nat) (a : Nat) (b : Nat) (x : Int32) : Nat → Int32 := vf
def s1D (vq : Nat → Int32) (vf : Nat → Int32) (vd : Nat → Int32) (vw : Nat → Int32) (vl : Nat → Int32) (vr : Nat → Int32) (n : Nat) (a : Nat) (b : Nat) (x : Int32) : Nat → Int32 := vd
def s1W (vq : Nat → Int32) (vf : Nat → Int32) (vd : Nat → Int32) (vw : Nat → Int32) (vl : Nat → Int32) (vr : Nat → Int32) (n : Nat) (a : Nat) (b : Nat) (x : Int32) : Nat → Int32 := vw
def s1L (vq : Nat → Int32) (vf : Nat → Int32) (vd : Nat → Int32) (vw : Nat → Int32) (vl : Nat → Int32) (vr : Nat → Int32) (n : Nat) (a : Nat) (b : Nat) (x : Int32) : Nat → Int32 := upd vl (3 * a + b) (nI (lowN x 51))
def s1R (vq : Nat → Int32) (vf : Nat → Int32) (vd : Nat → Int32) (vw : Nat → Int32) (vl : Nat → Int32) (vr : Nat → Int32) (n : Nat) (a : Nat) (b : Nat) (x : Int32) : Nat → Int32 := vr
set_option maxHeartbeats 4000000 in
set_option maxRecDepth 100000 in
theorem c_L_ofShot_1 (l : Launch) (E : EV) (a : Nat) (b : Nat) (x : Int32) (aq : Nat) (af : Nat) (ad : Nat) (aw : Nat) (al : Nat) (ar : Nat) (vq : Nat → Int32) (vf : Nat → Int32) (vd : Nat → Int32) (vw : Nat → Int32) (vl : Nat → Int32) (vr : Nat → Int32) (n : Nat) (hf : vq 4 = nI n) (hn : n ≤ 20) (ha : a < n) (hb3 : b < 3) : rcI l E yL_ofShot cL_ofShot 13 .int 3 [.int (nI 1), .int (nI a), .int (nI b), .int x, .ref aq, .ref af, .ref ad, .ref aw, .ref al, .ref ar] [(aq, .inl (E.2.1, 13, .inl vq)), (af, .inl (E.2.1, 21, .inl vf)), (ad, .inl (E.2.1, 63, .inl vd)), (aw, .inl (E.2.1, 63, .inl vw)), (al, .inl (E.2.1, 63, .inl vl)), (ar, .inl (E.2.1, 63, .inl vr))] (s1V vq vf vd vw vl vr n a b x) [(aq, .inl (E.2.1, 13, .inl (s1Q vq vf vd vw vl vr n a b x))), (af, .inl (E.2.1, 21, .inl (s1F vq vf vd vw vl vr n a b x))), (ad, .inl (E.2.1, 63, .inl (s1D vq vf vd vw vl vr n a b x))), (aw, .inl (E.2.1, 63, .inl (s1W vq vf vd vw vl vr n a b x))), (al, .inl (E.2.1, 63, .inl (s1L vq vf vd vw vl vr n a b x))), (ar, .inl (E.2.1, 63, .inl (s1R vq vf vd vw vl vr n a b x)))] := by
  refine rcI_of (by decide) (Nat.le_of_ble_eq_true rfl) ?_
  intro pg e s m below meth c Q A ls S hP hD0 hE hA hl hret
  have hx := S.1
  have hb := S.2.1
  have hown := S.2.2.2.1
  have hts := S.2.2.2.2
  have hK := hE.1
  have hS : va_S A s.heap s.heap [] := va_S.rf
  have hDa : va_Da A [aq, af, ad, aw, al, ar] := ⟨_, hD0, rfl⟩
  have hl : lv_has ls 13 [(0, .int (nI 1)), (1, .int (nI a)), (2, .int (nI b)), (3, .int x), (4, .ref aq), (5, .ref af), (6, .ref ad), (7, .ref aw), (8, .ref al), (9, .ref ar)] := hl
  refine lv_iload_n hx hb dL_ofShot_0 rfl (lv_at hl 0 rfl) ?_
  refine lv_iconst (v := nI 1) hx hb dL_ofShot_1 (by decide) ?_
  refine rn_icmp_ne (a := 1) (b := 1) (tgt := 16) hx hb (by omega) (by omega) dL_ofShot_2 (by decide) (fun c_1 => absurd c_1 (by omega)) (fun c_1 => ?_)
  refine lv_aload hx hb dL_ofShot_5 (lv_at hl 8 rfl) ?_
  refine lv_iconst (v := nI 3) hx hb dL_ofShot_7 (by decide) ?_
  refine lv_iload_n hx hb dL_ofShot_8 rfl (lv_at hl 1 rfl) ?_
  refine rn_mul (a := 3) (b := a) hx hb dL_ofShot_9 ?_
  refine lv_iload_n hx hb dL_ofShot_10 rfl (lv_at hl 2 rfl) ?_
  refine rn_add (a := 3 * a) (b := b) hx hb dL_ofShot_11 ?_
  refine rn_iald (i := 3 * a + b) hx hb hK hP 4 0 rfl rfl (by omega) (by omega) dL_ofShot_12 ?_
  refine lv_goto (tgt := 36) hx hb dL_ofShot_13 (by decide) ?_
  refine lv_istore (lv' := [(10, .int (vl (3 * a + b))), (0, .int (nI 1)), (1, .int (nI a)), (2, .int (nI b)), (3, .int x), (4, .ref aq), (5, .ref af), (6, .ref ad), (7, .ref aw), (8, .ref al), (9, .ref ar)]) hx hb dL_ofShot_36 hl (by decide) rfl (fun ls hl => ?_)
  refine lv_iload_n hx hb dL_ofShot_38 rfl (lv_at hl 1 rfl) ?_
  refine lv_iconst (v := nI 1) hx hb dL_ofShot_39 (by decide) ?_
  refine rn_icmp_ne (a := 1) (b := 1) (tgt := 60) hx hb (by omega) (by omega) dL_ofShot_40 (by decide) (fun c_2 => absurd c_2 (by omega)) (fun c_2 => ?_)
  refine lv_aload hx hb dL_ofShot_43 (lv_at hl 9 rfl) ?_
  refine lv_iconst (v := nI 3) hx hb dL_ofShot_45 (by decide) ?_
  refine lv_iload_n hx hb dL_ofShot_46 rfl (lv_at hl 2 rfl) ?_
  refine rn_mul (a := 3) (b := a) hx hb dL_ofShot_47 ?_
  refine lv_iload_n hx hb dL_ofShot_48 rfl (lv_at hl 3 rfl) ?_
  refine rn_add (a := 3 * a) (b := b) hx hb dL_ofShot_49 ?_
  refine lv_iload_n hx hb dL_ofShot_50 rfl (lv_at hl 4 rfl) ?_
  refine lv_bipush (v := nI 51) hx hb dL_ofShot_51 (by decide) ?_
  refine rwS2 (rest := [.int (nI (3 * a + b)), .ref al]) S (c_L_low l E x 51 (by omega) (by omega)) cd_L_low bw_140 ⟨Nat.le_of_ble_eq_true rfl, Nat.le_of_ble_eq_true rfl⟩ ⟨Nat.zero_le _, Nat.zero_le _⟩ hP (hDa.to rfl) hE hA hS [] rfl rfl [] rfl rfl (Nat.le_of_ble_eq_true rfl) hl.1 dL_ofShot_53 (fun H locs hP _ hS => ?_)
  have hP : va_P E.1 vwCl [(aq, .inl (E.2.1, 13, .inl vq)), (af, .inl (E.2.1, 21, .inl vf)), (ad, .inl (E.2.1, 63, .inl vd)), (aw, .inl (E.2.1, 63, .inl vw)), (al, .inl (E.2.1, 63, .inl vl)), (ar, .inl (E.2.1, 63, .inl vr))] H := hP
  refine rn_iast (i := 3 * a + b) hx hb hK hP (hDa.to rfl) hS 4 0 rfl rfl (by omega) (by omega) dL_ofShot_56 (fun H locs hP _ hS => ?_)
  have hP : va_P E.1 vwCl [(aq, .inl (E.2.1, 13, .inl vq)), (af, .inl (E.2.1, 21, .inl vf)), (ad, .inl (E.2.1, 63, .inl vd)), (aw, .inl (E.2.1, 63, .inl vw)), (al, .inl (E.2.1, 63, .inl (upd vl (3 * a + b) (nI (lowN x 51))))), (ar, .inl (E.2.1, 63, .inl vr))] H := hP
  refine lv_iload hx hb dL_ofShot_57 (lv_at hl 0 rfl) ?_
  exact hret _ _ _ _ _ _ (by rw [s1V]) (by rw [show s1Q vq vf vd vw vl vr n a b x = vq from by rw [s1Q], show s1F vq vf vd vw vl vr n a b x = vf from by rw [s1F], show s1D vq vf vd vw vl vr n a b x = vd from by rw [s1D], show s1W vq vf vd vw vl vr n a b x = vw from by rw [s1W], show s1L vq vf vd vw vl vr n a b x = upd vl (3 * a + b) (nI (lowN x 51)) from by rw [s1L], show s1R vq vf vd vw vl vr n a b x = vr from by rw [s1R]]) rfl hP hS dL_ofShot_59

def s2V (vq : Nat → Int32) (vf : Nat → Int32) (vd : Nat → Int32) (vw : Nat → Int32) (vl : Nat → Int32) (vr : Nat → Int32) (n : Nat) (a : Nat) (b : Nat) (x : Int32) : Int32 := vw (3 * a + b) + (nI 10)
def s2Q (vq : Nat → Int32) (vf : Nat → Int32) (vd : Nat → Int32) (vw : Nat → Int32) (vl : Nat → Int32) (vr : Nat → Int32) (n : Nat) (a : Nat) (b : Nat) (x : Int32) : Nat → Int32 := vq
def s2F (vq : Nat → Int32) (vf : Nat → Int32) (vd : Nat → Int32) (vw : Nat → Int32) (vl : Nat → Int32) (vr : Nat → Int32) (n : Nat) (a : Nat) (b : Nat) (x : Int32) : Nat → Int32 := vf
def s2D (vq : Nat → Int32) (vf : Nat → Int32) (vd : Nat → Int32) (vw : Nat → Int32) (vl : Nat → Int32) (vr : Nat → Int32) (n : Nat) (a : Nat) (b : Nat) (x : Int32) : Nat → Int32 := vd
def s2W (vq : Nat → Int32) (vf : Nat → Int32) (vd : Nat → Int32) (vw : Nat → Int32) (vl : Nat → Int32) (vr : Nat → Int32) (n : Nat) (a : Nat) (b : Nat) (x : Int32) : Nat → Int32 := upd vw (3 * a + b) (nI (lowN x 21) - (nI 10))
def s2L (vq : Nat → Int32) (vf : Nat → Int32) (vd : Nat → Int32) (vw : Nat → Int32) (vl : Nat → Int32) (vr : Nat → Int32) (n : Nat) (a : Nat) (b : Nat) (x : Int32) : Nat → Int32 := vl
def s2R (vq : Nat → Int32) (vf : Nat → Int32) (vd : Nat → Int32) (vw : Nat → Int32) (vl : Nat → Int32) (vr : Nat → Int32) (n : Nat) (a : Nat) (b : Nat) (x : Int32) : Nat → Int32 := vr
set_option maxHeartbeats 4000000 in
set_option maxRecDepth 100000 in
theorem c_L_ofShot_2 (l : Launch) (E : EV) (a : Nat) (b : Nat) (x : Int32) (aq : Nat) (af : Nat) (ad : Nat) (aw : Nat) (al : Nat) (ar : Nat) (vq : Nat → Int32) (vf : Nat → Int32) (vd : Nat → Int32) (vw : Nat → Int32) (vl : Nat → Int32) (vr : Nat → Int32) (n : Nat) (hf : vq 4 = nI n) (hn : n ≤ 20) (ha : a < n) (hb3 : b < 3) : rcI l E yL_ofShot cL_ofShot 13 .int 3 [.int (nI 2), .int (nI a), .int (nI b), .int x, .ref aq, .ref af, .ref ad, .ref aw, .ref al, .ref ar] [(aq, .inl (E.2.1, 13, .inl vq)), (af, .inl (E.2.1, 21, .inl vf)), (ad, .inl (E.2.1, 63, .inl vd)), (aw, .inl (E.2.1, 63, .inl vw)), (al, .inl (E.2.1, 63, .inl vl)), (ar, .inl (E.2.1, 63, .inl vr))] (s2V vq vf vd vw vl vr n a b x) [(aq, .inl (E.2.1, 13, .inl (s2Q vq vf vd vw vl vr n a b x))), (af, .inl (E.2.1, 21, .inl (s2F vq vf vd vw vl vr n a b x))), (ad, .inl (E.2.1, 63, .inl (s2D vq vf vd vw vl vr n a b x))), (aw, .inl (E.2.1, 63, .inl (s2W vq vf vd vw vl vr n a b x))), (al, .inl (E.2.1, 63, .inl (s2L vq vf vd vw vl vr n a b x))), (ar, .inl (E.2.1, 63, .inl (s2R vq vf vd vw vl vr n a b x)))] := by
  refine rcI_of (by decide) (Nat.le_of_ble_eq_true rfl) ?_
  intro pg e s m below meth c Q A ls S hP hD0 hE hA hl hret
  have hx := S.1
  have hb := S.2.1
  have hown := S.2.2.2.1
  have hts := S.2.2.2.2
  have hK := hE.1
  have hS : va_S A s.heap s.heap [] := va_S.rf
  have hDa : va_Da A [aq, af, ad, aw, al, ar] := ⟨_, hD0, rfl⟩
  have hl : lv_has ls 13 [(0, .int (nI 2)), (1, .int (nI a)), (2, .int (nI b)), (3, .int x), (4, .ref aq), (5, .ref af), (6, .ref ad), (7, .ref aw), (8, .ref al), (9, .ref ar)] := hl
  refine lv_iload_n hx hb dL_ofShot_0 rfl (lv_at hl 0 rfl) ?_
  refine lv_iconst (v := nI 1) hx hb dL_ofShot_1 (by decide) ?_
  refine rn_icmp_ne (a := 2) (b := 1) (tgt := 16) hx hb (by omega) (by omega) dL_ofShot_2 (by decide) (fun c_1 => ?_) (fun c_1 => absurd c_1 (by omega))
  refine lv_iload_n hx hb dL_ofShot_16 rfl (lv_at hl 0 rfl) ?_
  refine lv_iconst (v := nI 2) hx hb dL_ofShot_17 (by decide) ?_
  refine rn_icmp_ne (a := 2) (b := 2) (tgt := 35) hx hb (by omega) (by omega) dL_ofShot_18 (by decide) (fun c_2 => absurd c_2 (by omega)) (fun c_2 => ?_)
  refine lv_aload hx hb dL_ofShot_21 (lv_at hl 7 rfl) ?_
  refine lv_iconst (v := nI 3) hx hb dL_ofShot_23 (by decide) ?_
  refine lv_iload_n hx hb dL_ofShot_24 rfl (lv_at hl 1 rfl) ?_
  refine rn_mul (a := 3) (b := a) hx hb dL_ofShot_25 ?_
  refine lv_iload_n hx hb dL_ofShot_26 rfl (lv_at hl 2 rfl) ?_
  refine rn_add (a := 3 * a) (b := b) hx hb dL_ofShot_27 ?_
  refine rn_iald (i := 3 * a + b) hx hb hK hP 3 0 rfl rfl (by omega) (by omega) dL_ofShot_28 ?_
  refine lv_bipush (v := nI 10) hx hb dL_ofShot_29 (by decide) ?_
  refine lv_iadd hx hb dL_ofShot_31 ?_
  refine lv_goto (tgt := 36) hx hb dL_ofShot_32 (by decide) ?_
  refine lv_istore (lv' := [(10, .int (vw (3 * a + b) + (nI 10))), (0, .int (nI 2)), (1, .int (nI a)), (2, .int (nI b)), (3, .int x), (4, .ref aq), (5, .ref af), (6, .ref ad), (7, .ref aw), (8, .ref al), (9, .ref ar)]) hx hb dL_ofShot_36 hl (by decide) rfl (fun ls hl => ?_)
  refine lv_iload_n hx hb dL_ofShot_38 rfl (lv_at hl 1 rfl) ?_
  refine lv_iconst (v := nI 1) hx hb dL_ofShot_39 (by decide) ?_
  refine rn_icmp_ne (a := 2) (b := 1) (tgt := 60) hx hb (by omega) (by omega) dL_ofShot_40 (by decide) (fun c_3 => ?_) (fun c_3 => absurd c_3 (by omega))
  refine lv_iload_n hx hb dL_ofShot_60 rfl (lv_at hl 1 rfl) ?_
  refine lv_iconst (v := nI 2) hx hb dL_ofShot_61 (by decide) ?_
  refine rn_icmp_ne (a := 2) (b := 2) (tgt := 85) hx hb (by omega) (by omega) dL_ofShot_62 (by decide) (fun c_4 => absurd c_4 (by omega)) (fun c_4 => ?_)
  refine lv_aload hx hb dL_ofShot_65 (lv_at hl 8 rfl) ?_
  refine lv_iconst (v := nI 3) hx hb dL_ofShot_67 (by decide) ?_
  refine lv_iload_n hx hb dL_ofShot_68 rfl (lv_at hl 2 rfl) ?_
  refine rn_mul (a := 3) (b := a) hx hb dL_ofShot_69 ?_
  refine lv_iload_n hx hb dL_ofShot_70 rfl (lv_at hl 3 rfl) ?_
  refine rn_add (a := 3 * a) (b := b) hx hb dL_ofShot_71 ?_
  refine lv_iload_n hx hb dL_ofShot_72 rfl (lv_at hl 4 rfl) ?_
  refine lv_bipush (v := nI 21) hx hb dL_ofShot_73 (by decide) ?_
  refine rwS2 (rest := [.int (nI (3 * a + b)), .ref aw]) S (c_L_low l E x 21 (by omega) (by omega)) cd_L_low bw_140 ⟨Nat.le_of_ble_eq_true rfl, Nat.le_of_ble_eq_true rfl⟩ ⟨Nat.zero_le _, Nat.zero_le _⟩ hP (hDa.to rfl) hE hA hS [] rfl rfl [] rfl rfl (Nat.le_of_ble_eq_true rfl) hl.1 dL_ofShot_75 (fun H locs hP _ hS => ?_)
  have hP : va_P E.1 vwCl [(aq, .inl (E.2.1, 13, .inl vq)), (af, .inl (E.2.1, 21, .inl vf)), (ad, .inl (E.2.1, 63, .inl vd)), (aw, .inl (E.2.1, 63, .inl vw)), (al, .inl (E.2.1, 63, .inl vl)), (ar, .inl (E.2.1, 63, .inl vr))] H := hP
  refine lv_bipush (v := nI 10) hx hb dL_ofShot_78 (by decide) ?_
  refine lv_isub hx hb dL_ofShot_80 ?_
  refine rn_iast (i := 3 * a + b) hx hb hK hP (hDa.to rfl) hS 3 0 rfl rfl (by omega) (by omega) dL_ofShot_81 (fun H locs hP _ hS => ?_)
  have hP : va_P E.1 vwCl [(aq, .inl (E.2.1, 13, .inl vq)), (af, .inl (E.2.1, 21, .inl vf)), (ad, .inl (E.2.1, 63, .inl vd)), (aw, .inl (E.2.1, 63, .inl (upd vw (3 * a + b) (nI (lowN x 21) - (nI 10))))), (al, .inl (E.2.1, 63, .inl vl)), (ar, .inl (E.2.1, 63, .inl vr))] H := hP
  refine lv_iload hx hb dL_ofShot_82 (lv_at hl 0 rfl) ?_
  exact hret _ _ _ _ _ _ (by rw [s2V]) (by rw [show s2Q vq vf vd vw vl vr n a b x = vq from by rw [s2Q], show s2F vq vf vd vw vl vr n a b x = vf from by rw [s2F], show s2D vq vf vd vw vl vr n a b x = vd from by rw [s2D], show s2W vq vf vd vw vl vr n a b x = upd vw (3 * a + b) (nI (lowN x 21) - (nI 10)) from by rw [s2W], show s2L vq vf vd vw vl vr n a b x = vl from by rw [s2L], show s2R vq vf vd vw vl vr n a b x = vr from by rw [s2R]]) rfl hP hS dL_ofShot_84

def s3V (vq : Nat → Int32) (vf : Nat → Int32) (vd : Nat → Int32) (vw : Nat → Int32) (vl : Nat → Int32) (vr : Nat → Int32) (n : Nat) (a : Nat) (b : Nat) (x : Int32) : Int32 := if lowN x 21 < n then lSz (nI (lowN x 21) - (nI a)) else (-1)
def s3Q (vq : Nat → Int32) (vf : Nat → Int32) (vd : Nat → Int32) (vw : Nat → Int32) (vl : Nat → Int32) (vr : Nat → Int32) (n : Nat) (a : Nat) (b : Nat) (x : Int32) : Nat → Int32 := if lowN x 21 < n then upd (upd vq 4 (nI (n - 1))) 4 (nI ((n - 1) + 1)) else vq
def s3F (vq : Nat → Int32) (vf : Nat → Int32) (vd : Nat → Int32) (vw : Nat → Int32) (vl : Nat → Int32) (vr : Nat → Int32) (n : Nat) (a : Nat) (b : Nat) (x : Int32) : Nat → Int32 := if lowN x 21 < n then cp1 (su1 (sd1 (cp1 vf a 20) a (n - 1)) (n - 1) (lowN x 21)) 20 (lowN x 21) else vf
def s3D (vq : Nat → Int32) (vf : Nat → Int32) (vd : Nat → Int32) (vw : Nat → Int32) (vl : Nat → Int32) (vr : Nat → Int32) (n : Nat) (a : Nat) (b : Nat) (x : Int32) : Nat → Int32 := if lowN x 21 < n then cp3 (su3 (sd3 (cp3 vd a 20) a (n - 1)) (n - 1) (lowN x 21)) 20 (lowN x 21) else vd
def s3W (vq : Nat → Int32) (vf : Nat → Int32) (vd : Nat → Int32) (vw : Nat → Int32) (vl : Nat → Int32) (vr : Nat → Int32) (n : Nat) (a : Nat) (b : Nat) (x : Int32) : Nat → Int32 := if lowN x 21 < n then cp3 (su3 (sd3 (cp3 vw a 20) a (n - 1)) (n - 1) (lowN x 21)) 20 (lowN x 21) else vw
def s3L (vq : Nat → Int32) (vf : Nat → Int32) (vd : Nat → Int32) (vw : Nat → Int32) (vl : Nat → Int32) (vr : Nat → Int32) (n : Nat) (a : Nat) (b : Nat) (x : Int32) : Nat → Int32 := if lowN x 21 < n then cp3 (su3 (sd3 (cp3 vl a 20) a (n - 1)) (n - 1) (lowN x 21)) 20 (lowN x 21) else vl
def s3R (vq : Nat → Int32) (vf : Nat → Int32) (vd : Nat → Int32) (vw : Nat → Int32) (vl : Nat → Int32) (vr : Nat → Int32) (n : Nat) (a : Nat) (b : Nat) (x : Int32) : Nat → Int32 := if lowN x 21 < n then cp3 (su3 (sd3 (cp3 vr a 20) a (n - 1)) (n - 1) (lowN x 21)) 20 (lowN x 21) else vr
set_option maxHeartbeats 4000000 in
set_option maxRecDepth 100000 in
theorem c_L_ofShot_3 (l : Launch) (E : EV) (a : Nat) (b : Nat) (x : Int32) (aq : Nat) (af : Nat) (ad : Nat) (aw : Nat) (al : Nat) (ar : Nat) (vq : Nat → Int32) (vf : Nat → Int32) (vd : Nat → Int32) (vw : Nat → Int32) (vl : Nat → Int32) (vr : Nat → Int32) (n : Nat) (hf : vq 4 = nI n) (hn : n ≤ 20) (ha : a < n) : rcI l E yL_ofShot cL_ofShot 13 .int 3 [.int (nI 3), .int (nI a), .int (nI b), .int x, .ref aq, .ref af, .ref ad, .ref aw, .ref al, .ref ar] [(aq, .inl (E.2.1, 13, .inl vq)), (af, .inl (E.2.1, 21, .inl vf)), (ad, .inl (E.2.1, 63, .inl vd)), (aw, .inl (E.2.1, 63, .inl vw)), (al, .inl (E.2.1, 63, .inl vl)), (ar, .inl (E.2.1, 63, .inl vr))] (s3V vq vf vd vw vl vr n a b x) [(aq, .inl (E.2.1, 13, .inl (s3Q vq vf vd vw vl vr n a b x))), (af, .inl (E.2.1, 21, .inl (s3F vq vf vd vw vl vr n a b x))), (ad, .inl (E.2.1, 63, .inl (s3D vq vf vd vw vl vr n a b x))), (aw, .inl (E.2.1, 63, .inl (s3W vq vf vd vw vl vr n a b x))), (al, .inl (E.2.1, 63, .inl (s3L vq vf vd vw vl vr n a b x))), (ar, .inl (E.2.1, 63, .inl (s3R vq vf vd vw vl vr n a b x)))] := by
  refine rcI_of (by decide) (Nat.le_of_ble_eq_true rfl) ?_
  intro pg e s m below meth c Q A ls S hP hD0 hE hA hl hret
  have hx := S.1
  have hb := S.2.1
  have hown := S.2.2.2.1
  have hts := S.2.2.2.2
  have hK := hE.1
  have hS : va_S A s.heap s.heap [] := va_S.rf
  have hDa : va_Da A [aq, af, ad, aw, al, ar] := ⟨_, hD0, rfl⟩
  have hl : lv_has ls 13 [(0, .int (nI 3)), (1, .int (nI a)), (2, .int (nI b)), (3, .int x), (4, .ref aq), (5, .ref af), (6, .ref ad), (7, .ref aw), (8, .ref al), (9, .ref ar)] := hl
  have hz21 := lowN_lt x (m := 21) (by omega)
  refine lv_iload_n hx hb dL_ofShot_0 rfl (lv_at hl 0 rfl) ?_
  refine lv_iconst (v := nI 1) hx hb dL_ofShot_1 (by decide) ?_
  refine rn_icmp_ne (a := 3) (b := 1) (tgt := 16) hx hb (by omega) (by omega) dL_ofShot_2 (by decide) (fun c_1 => ?_) (fun c_1 => absurd c_1 (by omega))
  refine lv_iload_n hx hb dL_ofShot_16 rfl (lv_at hl 0 rfl) ?_
  refine lv_iconst (v := nI 2) hx hb dL_ofShot_17 (by decide) ?_
  refine rn_icmp_ne (a := 3) (b := 2) (tgt := 35) hx hb (by omega) (by omega) dL_ofShot_18 (by decide) (fun c_2 => ?_) (fun c_2 => absurd c_2 (by omega))
  refine lv_iconst (v := nI 0) hx hb dL_ofShot_35 (by decide) ?_
  refine lv_istore (lv' := [(10, .int (nI 0)), (0, .int (nI 3)), (1, .int (nI a)), (2, .int (nI b)), (3, .int x), (4, .ref aq), (5, .ref af), (6, .ref ad), (7, .ref aw), (8, .ref al), (9, .ref ar)]) hx hb dL_ofShot_36 hl (by decide) rfl (fun ls hl => ?_)
  refine lv_iload_n hx hb dL_ofShot_38 rfl (lv_at hl 1 rfl) ?_
  refine lv_iconst (v := nI 1) hx hb dL_ofShot_39 (by decide) ?_
  refine rn_icmp_ne (a := 3) (b := 1) (tgt := 60) hx hb (by omega) (by omega) dL_ofShot_40 (by decide) (fun c_3 => ?_) (fun c_3 => absurd c_3 (by omega))
  refine lv_iload_n hx hb dL_ofShot_60 rfl (lv_at hl 1 rfl) ?_
  refine lv_iconst (v := nI 2) hx hb dL_ofShot_61 (by decide) ?_
  refine rn_icmp_ne (a := 3) (b := 2) (tgt := 85) hx hb (by omega) (by omega) dL_ofShot_62 (by decide) (fun c_4 => ?_) (fun c_4 => absurd c_4 (by omega))
  refine lv_iload_n hx hb dL_ofShot_85 rfl (lv_at hl 1 rfl) ?_
  refine lv_iconst (v := nI 3) hx hb dL_ofShot_86 (by decide) ?_
  refine rn_icmp_ne (a := 3) (b := 3) (tgt := 185) hx hb (by omega) (by omega) dL_ofShot_87 (by decide) (fun c_5 => absurd c_5 (by omega)) (fun c_5 => ?_)
  refine lv_iload_n hx hb dL_ofShot_90 rfl (lv_at hl 4 rfl) ?_
  refine lv_bipush (v := nI 21) hx hb dL_ofShot_91 (by decide) ?_
  refine rwS2 (rest := []) S (c_L_low l E x 21 (by omega) (by omega)) cd_L_low bw_140 ⟨Nat.le_of_ble_eq_true rfl, Nat.le_of_ble_eq_true rfl⟩ ⟨Nat.zero_le _, Nat.zero_le _⟩ hP (hDa.to rfl) hE hA hS [] rfl rfl [] rfl rfl (Nat.le_of_ble_eq_true rfl) hl.1 dL_ofShot_93 (fun H locs hP _ hS => ?_)
  have hP : va_P E.1 vwCl [(aq, .inl (E.2.1, 13, .inl vq)), (af, .inl (E.2.1, 21, .inl vf)), (ad, .inl (E.2.1, 63, .inl vd)), (aw, .inl (E.2.1, 63, .inl vw)), (al, .inl (E.2.1, 63, .inl vl)), (ar, .inl (E.2.1, 63, .inl vr))] H := hP
  refine lv_istore (lv' := [(11, .int (nI (lowN x 21))), (10, .int (nI 0)), (0, .int (nI 3)), (1, .int (nI a)), (2, .int (nI b)), (3, .int x), (4, .ref aq), (5, .ref af), (6, .ref ad), (7, .ref aw), (8, .ref al), (9, .ref ar)]) hx hb dL_ofShot_96 hl (by decide) rfl (fun ls hl => ?_)
  refine lv_iload hx hb dL_ofShot_98 (lv_at hl 0 rfl) ?_
  refine lv_aload hx hb dL_ofShot_100 (lv_at hl 6 rfl) ?_
  refine lv_iconst (v := nI 4) hx hb dL_ofShot_102 (by decide) ?_
  refine rn_iald (i := 4) hx hb hK hP 0 0 rfl rfl (by omega) (by omega) dL_ofShot_103 ?_
  refine W.eq (congrArg (fun z => F0 m 104 ls (.int z :: [.int (nI (lowN x 21))])) (show vq 4 = nI n from hf)) ?_
  refine rn_icmp_lt (a := lowN x 21) (b := n) (tgt := 109) hx hb (by omega) (by omega) dL_ofShot_104 (by decide) (fun c_6 => ?_) (fun c_6 => ?_)
  · refine lv_iload_n hx hb dL_ofShot_109 rfl (lv_at hl 3 rfl) ?_
    refine lv_bipush (v := nI 20) hx hb dL_ofShot_110 (by decide) ?_
    refine lv_aload hx hb dL_ofShot_112 (lv_at hl 7 rfl) ?_
    refine lv_aload hx hb dL_ofShot_114 (lv_at hl 8 rfl) ?_
    refine lv_aload hx hb dL_ofShot_116 (lv_at hl 9 rfl) ?_
    refine lv_aload hx hb dL_ofShot_118 (lv_at hl 10 rfl) ?_
    refine lv_aload hx hb dL_ofShot_120 (lv_at hl 11 rfl) ?_
    refine rwSv7 (rest := []) S (c_L_copy l E a 20 af ad aw al ar vf vd vw vl vr (by omega) (by omega) (by omega)) cd_L_copy bw_383 ⟨Nat.le_of_ble_eq_true rfl, Nat.le_of_ble_eq_true rfl⟩ ⟨Nat.zero_le _, Nat.zero_le _⟩ hP (hDa.to rfl) hE hA hS [1, 2, 3, 4, 5] rfl rfl [af, ad, aw, al, ar] rfl rfl (Nat.le_of_ble_eq_true rfl) hl.1 dL_ofShot_122 (fun H locs hP _ hS => ?_)
    have hP : va_P E.1 vwCl [(aq, .inl (E.2.1, 13, .inl vq)), (af, .inl (E.2.1, 21, .inl (cp1 vf a 20))), (ad, .inl (E.2.1, 63, .inl (cp3 vd a 20))), (aw, .inl (E.2.1, 63, .inl (cp3 vw a 20))), (al, .inl (E.2.1, 63, .inl (cp3 vl a 20))), (ar, .inl (E.2.1, 63, .inl (cp3 vr a 20)))] H := hP
    refine lv_iload_n hx hb dL_ofShot_125 rfl (lv_at hl 3 rfl) ?_
    refine lv_iconst (v := (-1)) hx hb dL_ofShot_126 (by decide) ?_
    refine lv_aload hx hb dL_ofShot_127 (lv_at hl 6 rfl) ?_
    refine lv_aload hx hb dL_ofShot_129 (lv_at hl 7 rfl) ?_
    refine lv_aload hx hb dL_ofShot_131 (lv_at hl 8 rfl) ?_
    refine lv_aload hx hb dL_ofShot_133 (lv_at hl 9 rfl) ?_
    refine lv_aload hx hb dL_ofShot_135 (lv_at hl 10 rfl) ?_
    refine lv_aload hx hb dL_ofShot_137 (lv_at hl 11 rfl) ?_
    refine rwSv8 (rest := []) S (c_L_shift_d l E a aq af ad aw al ar vq (cp1 vf a 20) (cp3 vd a 20) (cp3 vw a 20) (cp3 vl a 20) (cp3 vr a 20) n hf hn ha) cd_L_shift bw_380 ⟨Nat.le_of_ble_eq_true rfl, Nat.le_of_ble_eq_true rfl⟩ ⟨Nat.zero_le _, Nat.zero_le _⟩ hP (hDa.to rfl) hE hA hS [0, 1, 2, 3, 4, 5] rfl rfl [aq, af, ad, aw, al, ar] rfl rfl (Nat.le_of_ble_eq_true rfl) hl.1 dL_ofShot_139 (fun H locs hP _ hS => ?_)
    have hP : va_P E.1 vwCl [(aq, .inl (E.2.1, 13, .inl (upd vq 4 (nI (n - 1))))), (af, .inl (E.2.1, 21, .inl (sd1 (cp1 vf a 20) a (n - 1)))), (ad, .inl (E.2.1, 63, .inl (sd3 (cp3 vd a 20) a (n - 1)))), (aw, .inl (E.2.1, 63, .inl (sd3 (cp3 vw a 20) a (n - 1)))), (al, .inl (E.2.1, 63, .inl (sd3 (cp3 vl a 20) a (n - 1)))), (ar, .inl (E.2.1, 63, .inl (sd3 (cp3 vr a 20) a (n - 1))))] H := hP
    refine lv_iload hx hb dL_ofShot_142 (lv_at hl 0 rfl) ?_
    refine lv_iconst (v := nI 1) hx hb dL_ofShot_144 (by decide) ?_
    refine lv_aload hx hb dL_ofShot_145 (lv_at hl 6 rfl) ?_
    refine lv_aload hx hb dL_ofShot_147 (lv_at hl 7 rfl) ?_
    refine lv_aload hx hb dL_ofShot_149 (lv_at hl 8 rfl) ?_
    refine lv_aload hx hb dL_ofShot_151 (lv_at hl 9 rfl) ?_
    refine lv_aload hx hb dL_ofShot_153 (lv_at hl 10 rfl) ?_
    refine lv_aload hx hb dL_ofShot_155 (lv_at hl 11 rfl) ?_
    refine rwSv8 (rest := []) S (c_L_shift_u l E (lowN x 21) aq af ad aw al ar (upd vq 4 (nI (n - 1))) (sd1 (cp1 vf a 20) a (n - 1)) (sd3 (cp3 vd a 20) a (n - 1)) (sd3 (cp3 vw a 20) a (n - 1)) (sd3 (cp3 vl a 20) a (n - 1)) (sd3 (cp3 vr a 20) a (n - 1)) (n - 1) pk_us (by omega) (by omega)) cd_L_shift bw_380 ⟨Nat.le_of_ble_eq_true rfl, Nat.le_of_ble_eq_true rfl⟩ ⟨Nat.zero_le _, Nat.zero_le _⟩ hP (hDa.to rfl) hE hA hS [0, 1, 2, 3, 4, 5] rfl rfl [aq, af, ad, aw, al, ar] rfl rfl (Nat.le_of_ble_eq_true rfl) hl.1 dL_ofShot_157 (fun H locs hP _ hS => ?_)
    have hP : va_P E.1 vwCl [(aq, .inl (E.2.1, 13, .inl (upd (upd vq 4 (nI (n - 1))) 4 (nI ((n - 1) + 1))))), (af, .inl (E.2.1, 21, .inl (su1 (sd1 (cp1 vf a 20) a (n - 1)) (n - 1) (lowN x 21)))), (ad, .inl (E.2.1, 63, .inl (su3 (sd3 (cp3 vd a 20) a (n - 1)) (n - 1) (lowN x 21)))), (aw, .inl (E.2.1, 63, .inl (su3 (sd3 (cp3 vw a 20) a (n - 1)) (n - 1) (lowN x 21)))), (al, .inl (E.2.1, 63, .inl (su3 (sd3 (cp3 vl a 20) a (n - 1)) (n - 1) (lowN x 21)))), (ar, .inl (E.2.1, 63, .inl (su3 (sd3 (cp3 vr a 20) a (n - 1)) (n - 1) (lowN x 21))))] H := hP
    refine lv_bipush (v := nI 20) hx hb dL_ofShot_160 (by decide) ?_
    refine lv_iload hx hb dL_ofShot_162 (lv_at hl 0 rfl) ?_
    refine lv_aload hx hb dL_ofShot_164 (lv_at hl 7 rfl) ?_
    refine lv_aload hx hb dL_ofShot_166 (lv_at hl 8 rfl) ?_
    refine lv_aload hx hb dL_ofShot_168 (lv_at hl 9 rfl) ?_
    refine lv_aload hx hb dL_ofShot_170 (lv_at hl 10 rfl) ?_
    refine lv_aload hx hb dL_ofShot_172 (lv_at hl 11 rfl) ?_
    refine rwSv7 (rest := []) S (c_L_copy l E 20 (lowN x 21) af ad aw al ar (su1 (sd1 (cp1 vf a 20) a (n - 1)) (n - 1) (lowN x 21)) (su3 (sd3 (cp3 vd a 20) a (n - 1)) (n - 1) (lowN x 21)) (su3 (sd3 (cp3 vw a 20) a (n - 1)) (n - 1) (lowN x 21)) (su3 (sd3 (cp3 vl a 20) a (n - 1)) (n - 1) (lowN x 21)) (su3 (sd3 (cp3 vr a 20) a (n - 1)) (n - 1) (lowN x 21)) (by omega) (by omega) (by omega)) cd_L_copy bw_383 ⟨Nat.le_of_ble_eq_true rfl, Nat.le_of_ble_eq_true rfl⟩ ⟨Nat.zero_le _, Nat.zero_le _⟩ hP (hDa.to rfl) hE hA hS [1, 2, 3, 4, 5] rfl rfl [af, ad, aw, al, ar] rfl rfl (Nat.le_of_ble_eq_true rfl) hl.1 dL_ofShot_174 (fun H locs hP _ hS => ?_)
    have hP : va_P E.1 vwCl [(aq, .inl (E.2.1, 13, .inl (upd (upd vq 4 (nI (n - 1))) 4 (nI ((n - 1) + 1))))), (af, .inl (E.2.1, 21, .inl (cp1 (su1 (sd1 (cp1 vf a 20) a (n - 1)) (n - 1) (lowN x 21)) 20 (lowN x 21)))), (ad, .inl (E.2.1, 63, .inl (cp3 (su3 (sd3 (cp3 vd a 20) a (n - 1)) (n - 1) (lowN x 21)) 20 (lowN x 21)))), (aw, .inl (E.2.1, 63, .inl (cp3 (su3 (sd3 (cp3 vw a 20) a (n - 1)) (n - 1) (lowN x 21)) 20 (lowN x 21)))), (al, .inl (E.2.1, 63, .inl (cp3 (su3 (sd3 (cp3 vl a 20) a (n - 1)) (n - 1) (lowN x 21)) 20 (lowN x 21)))), (ar, .inl (E.2.1, 63, .inl (cp3 (su3 (sd3 (cp3 vr a 20) a (n - 1)) (n - 1) (lowN x 21)) 20 (lowN x 21))))] H := hP
    refine lv_iload hx hb dL_ofShot_177 (lv_at hl 0 rfl) ?_
    refine lv_iload_n hx hb dL_ofShot_179 rfl (lv_at hl 3 rfl) ?_
    refine lv_isub hx hb dL_ofShot_180 ?_
    refine rwS1 (rest := []) S (c_L_size l E (nI (lowN x 21) - (nI a))) cd_L_size bw_392 ⟨Nat.le_of_ble_eq_true rfl, Nat.le_of_ble_eq_true rfl⟩ ⟨Nat.zero_le _, Nat.zero_le _⟩ hP (hDa.to rfl) hE hA hS [] rfl rfl [] rfl rfl (Nat.le_of_ble_eq_true rfl) hl.1 dL_ofShot_181 (fun H locs hP _ hS => ?_)
    have hP : va_P E.1 vwCl [(aq, .inl (E.2.1, 13, .inl (upd (upd vq 4 (nI (n - 1))) 4 (nI ((n - 1) + 1))))), (af, .inl (E.2.1, 21, .inl (cp1 (su1 (sd1 (cp1 vf a 20) a (n - 1)) (n - 1) (lowN x 21)) 20 (lowN x 21)))), (ad, .inl (E.2.1, 63, .inl (cp3 (su3 (sd3 (cp3 vd a 20) a (n - 1)) (n - 1) (lowN x 21)) 20 (lowN x 21)))), (aw, .inl (E.2.1, 63, .inl (cp3 (su3 (sd3 (cp3 vw a 20) a (n - 1)) (n - 1) (lowN x 21)) 20 (lowN x 21)))), (al, .inl (E.2.1, 63, .inl (cp3 (su3 (sd3 (cp3 vl a 20) a (n - 1)) (n - 1) (lowN x 21)) 20 (lowN x 21)))), (ar, .inl (E.2.1, 63, .inl (cp3 (su3 (sd3 (cp3 vr a 20) a (n - 1)) (n - 1) (lowN x 21)) 20 (lowN x 21))))] H := hP
    exact hret _ _ _ _ _ _ (by rw [s3V, if_pos c_6]) (by rw [show s3Q vq vf vd vw vl vr n a b x = upd (upd vq 4 (nI (n - 1))) 4 (nI ((n - 1) + 1)) from by rw [s3Q, if_pos c_6], show s3F vq vf vd vw vl vr n a b x = cp1 (su1 (sd1 (cp1 vf a 20) a (n - 1)) (n - 1) (lowN x 21)) 20 (lowN x 21) from by rw [s3F, if_pos c_6], show s3D vq vf vd vw vl vr n a b x = cp3 (su3 (sd3 (cp3 vd a 20) a (n - 1)) (n - 1) (lowN x 21)) 20 (lowN x 21) from by rw [s3D, if_pos c_6], show s3W vq vf vd vw vl vr n a b x = cp3 (su3 (sd3 (cp3 vw a 20) a (n - 1)) (n - 1) (lowN x 21)) 20 (lowN x 21) from by rw [s3W, if_pos c_6], show s3L vq vf vd vw vl vr n a b x = cp3 (su3 (sd3 (cp3 vl a 20) a (n - 1)) (n - 1) (lowN x 21)) 20 (lowN x 21) from by rw [s3L, if_pos c_6], show s3R vq vf vd vw vl vr n a b x = cp3 (su3 (sd3 (cp3 vr a 20) a (n - 1)) (n - 1) (lowN x 21)) 20 (lowN x 21) from by rw [s3R, if_pos c_6]]) rfl hP hS dL_ofShot_184
  · refine lv_iconst (v := (-1)) hx hb dL_ofShot_107 (by decide) ?_
    exact hret _ _ _ _ _ _ (by rw [s3V, if_neg c_6]) (by rw [show s3Q vq vf vd vw vl vr n a b x = vq from by rw [s3Q, if_neg c_6], show s3F vq vf vd vw vl vr n a b x = vf from by rw [s3F, if_neg c_6], show s3D vq vf vd vw vl vr n a b x = vd from by rw [s3D, if_neg c_6], show s3W vq vf vd vw vl vr n a b x = vw from by rw [s3W, if_neg c_6], show s3L vq vf vd vw vl vr n a b x = vl from by rw [s3L, if_neg c_6], show s3R vq vf vd vw vl vr n a b x = vr from by rw [s3R, if_neg c_6]]) rfl hP hS dL_ofShot_108

def s4V (vq : Nat → Int32) (vf : Nat → Int32) (vd : Nat → Int32) (vw : Nat → Int32) (vl : Nat → Int32) (vr : Nat → Int32) (n : Nat) (a : Nat) (b : Nat) (x : Int32) : Int32 := if nI (1 + lowN x 98) < vf a then if n = 20 then (-4) else nI (n + 1) else (-5)
def s4Q (vq : Nat → Int32) (vf : Nat → Int32) (vd : Nat → Int32) (vw : Nat → Int32) (vl : Nat → Int32) (vr : Nat → Int32) (n : Nat) (a : Nat) (b : Nat) (x : Int32) : Nat → Int32 := if nI (1 + lowN x 98) < vf a then if n = 20 then vq else upd vq 4 (nI (n + 1)) else vq
def s4F (vq : Nat → Int32) (vf : Nat → Int32) (vd : Nat → Int32) (vw : Nat → Int32) (vl : Nat → Int32) (vr : Nat → Int32) (n : Nat) (a : Nat) (b : Nat) (x : Int32) : Nat → Int32 := if nI (1 + lowN x 98) < vf a then if n = 20 then vf else upd (upd (su1 vf n a) (a + 1) (su1 vf n a a - (nI (1 + lowN x 98)))) a (nI (1 + lowN x 98)) else vf
def s4D (vq : Nat → Int32) (vf : Nat → Int32) (vd : Nat → Int32) (vw : Nat → Int32) (vl : Nat → Int32) (vr : Nat → Int32) (n : Nat) (a : Nat) (b : Nat) (x : Int32) : Nat → Int32 := if nI (1 + lowN x 98) < vf a then if n = 20 then vd else su3 vd n a else vd
def s4W (vq : Nat → Int32) (vf : Nat → Int32) (vd : Nat → Int32) (vw : Nat → Int32) (vl : Nat → Int32) (vr : Nat → Int32) (n : Nat) (a : Nat) (b : Nat) (x : Int32) : Nat → Int32 := if nI (1 + lowN x 98) < vf a then if n = 20 then vw else su3 vw n a else vw
def s4L (vq : Nat → Int32) (vf : Nat → Int32) (vd : Nat → Int32) (vw : Nat → Int32) (vl : Nat → Int32) (vr : Nat → Int32) (n : Nat) (a : Nat) (b : Nat) (x : Int32) : Nat → Int32 := if nI (1 + lowN x 98) < vf a then if n = 20 then vl else su3 vl n a else vl
def s4R (vq : Nat → Int32) (vf : Nat → Int32) (vd : Nat → Int32) (vw : Nat → Int32) (vl : Nat → Int32) (vr : Nat → Int32) (n : Nat) (a : Nat) (b : Nat) (x : Int32) : Nat → Int32 := if nI (1 + lowN x 98) < vf a then if n = 20 then vr else fo3 (fo3 (su3 vr n a) a) (a + 1) else vr
set_option maxHeartbeats 4000000 in
set_option maxRecDepth 100000 in
theorem c_L_ofShot_4 (l : Launch) (E : EV) (a : Nat) (b : Nat) (x : Int32) (aq : Nat) (af : Nat) (ad : Nat) (aw : Nat) (al : Nat) (ar : Nat) (vq : Nat → Int32) (vf : Nat → Int32) (vd : Nat → Int32) (vw : Nat → Int32) (vl : Nat → Int32) (vr : Nat → Int32) (n : Nat) (hf : vq 4 = nI n) (hn : n ≤ 20) (ha : a < n) : rcI l E yL_ofShot cL_ofShot 13 .int 3 [.int (nI 4), .int (nI a), .int (nI b), .int x, .ref aq, .ref af, .ref ad, .ref aw, .ref al, .ref ar] [(aq, .inl (E.2.1, 13, .inl vq)), (af, .inl (E.2.1, 21, .inl vf)), (ad, .inl (E.2.1, 63, .inl vd)), (aw, .inl (E.2.1, 63, .inl vw)), (al, .inl (E.2.1, 63, .inl vl)), (ar, .inl (E.2.1, 63, .inl vr))] (s4V vq vf vd vw vl vr n a b x) [(aq, .inl (E.2.1, 13, .inl (s4Q vq vf vd vw vl vr n a b x))), (af, .inl (E.2.1, 21, .inl (s4F vq vf vd vw vl vr n a b x))), (ad, .inl (E.2.1, 63, .inl (s4D vq vf vd vw vl vr n a b x))), (aw, .inl (E.2.1, 63, .inl (s4W vq vf vd vw vl vr n a b x))), (al, .inl (E.2.1, 63, .inl (s4L vq vf vd vw vl vr n a b x))), (ar, .inl (E.2.1, 63, .inl (s4R vq vf vd vw vl vr n a b x)))] := by
  refine rcI_of (by decide) (Nat.le_of_ble_eq_true rfl) ?_
  intro pg e s m below meth c Q A ls S hP hD0 hE hA hl hret
  have hx := S.1
  have hb := S.2.1
  have hown := S.2.2.2.1
  have hts := S.2.2.2.2
  have hK := hE.1
  have hS : va_S A s.heap s.heap [] := va_S.rf
  have hDa : va_Da A [aq, af, ad, aw, al, ar] := ⟨_, hD0, rfl⟩
  have hl : lv_has ls 13 [(0, .int (nI 4)), (1, .int (nI a)), (2, .int (nI b)), (3, .int x), (4, .ref aq), (5, .ref af), (6, .ref ad), (7, .ref aw), (8, .ref al), (9, .ref ar)] := hl
  refine lv_iload_n hx hb dL_ofShot_0 rfl (lv_at hl 0 rfl) ?_
  refine lv_iconst (v := nI 1) hx hb dL_ofShot_1 (by decide) ?_
  refine rn_icmp_ne (a := 4) (b := 1) (tgt := 16) hx hb (by omega) (by omega) dL_ofShot_2 (by decide) (fun c_1 => ?_) (fun c_1 => absurd c_1 (by omega))
  refine lv_iload_n hx hb dL_ofShot_16 rfl (lv_at hl 0 rfl) ?_
  refine lv_iconst (v := nI 2) hx hb dL_ofShot_17 (by decide) ?_
  refine rn_icmp_ne (a := 4) (b := 2) (tgt := 35) hx hb (by omega) (by omega) dL_ofShot_18 (by decide) (fun c_2 => ?_) (fun c_2 => absurd c_2 (by omega))
  refine lv_iconst (v := nI 0) hx hb dL_ofShot_35 (by decide) ?_
  refine lv_istore (lv' := [(10, .int (nI 0)), (0, .int (nI 4)), (1, .int (nI a)), (2, .int (nI b)), (3, .int x), (4, .ref aq), (5, .ref af), (6, .ref ad), (7, .ref aw), (8, .ref al), (9, .ref ar)]) hx hb dL_ofShot_36 hl (by decide) rfl (fun ls hl => ?_)
  refine lv_iload_n hx hb dL_ofShot_38 rfl (lv_at hl 1 rfl) ?_
  refine lv_iconst (v := nI 1) hx hb dL_ofShot_39 (by decide) ?_
  refine rn_icmp_ne (a := 4) (b := 1) (tgt := 60) hx hb (by omega) (by omega) dL_ofShot_40 (by decide) (fun c_3 => ?_) (fun c_3 => absurd c_3 (by omega))
  refine lv_iload_n hx hb dL_ofShot_60 rfl (lv_at hl 1 rfl) ?_
  refine lv_iconst (v := nI 2) hx hb dL_ofShot_61 (by decide) ?_
  refine rn_icmp_ne (a := 4) (b := 2) (tgt := 85) hx hb (by omega) (by omega) dL_ofShot_62 (by decide) (fun c_4 => ?_) (fun c_4 => absurd c_4 (by omega))
  refine lv_iload_n hx hb dL_ofShot_85 rfl (lv_at hl 1 rfl) ?_
  refine lv_iconst (v := nI 3) hx hb dL_ofShot_86 (by decide) ?_
  refine rn_icmp_ne (a := 4) (b := 3) (tgt := 185) hx hb (by omega) (by omega) dL_ofShot_87 (by decide) (fun c_5 => ?_) (fun c_5 => absurd c_5 (by omega))
  refine lv_iload_n hx hb dL_ofShot_185 rfl (lv_at hl 1 rfl) ?_
  refine lv_iconst (v := nI 4) hx hb dL_ofShot_186 (by decide) ?_
  refine rn_icmp_ne (a := 4) (b := 4) (tgt := 279) hx hb (by omega) (by omega) dL_ofShot_187 (by decide) (fun c_6 => absurd c_6 (by omega)) (fun c_6 => ?_)
  refine lv_iconst (v := nI 1) hx hb dL_ofShot_190 (by decide) ?_
  refine lv_iload_n hx hb dL_ofShot_191 rfl (lv_at hl 4 rfl) ?_
  refine lv_bipush (v := nI 98) hx hb dL_ofShot_192 (by decide) ?_
  refine rwS2 (rest := [.int (nI 1)]) S (c_L_low l E x 98 (by omega) (by omega)) cd_L_low bw_140 ⟨Nat.le_of_ble_eq_true rfl, Nat.le_of_ble_eq_true rfl⟩ ⟨Nat.zero_le _, Nat.zero_le _⟩ hP (hDa.to rfl) hE hA hS [] rfl rfl [] rfl rfl (Nat.le_of_ble_eq_true rfl) hl.1 dL_ofShot_194 (fun H locs hP _ hS => ?_)
  have hP : va_P E.1 vwCl [(aq, .inl (E.2.1, 13, .inl vq)), (af, .inl (E.2.1, 21, .inl vf)), (ad, .inl (E.2.1, 63, .inl vd)), (aw, .inl (E.2.1, 63, .inl vw)), (al, .inl (E.2.1, 63, .inl vl)), (ar, .inl (E.2.1, 63, .inl vr))] H := hP
  refine rn_add (a := 1) (b := lowN x 98) hx hb dL_ofShot_197 ?_
  refine lv_istore (lv' := [(11, .int (nI (1 + lowN x 98))), (10, .int (nI 0)), (0, .int (nI 4)), (1, .int (nI a)), (2, .int (nI b)), (3, .int x), (4, .ref aq), (5, .ref af), (6, .ref ad), (7, .ref aw), (8, .ref al), (9, .ref ar)]) hx hb dL_ofShot_198 hl (by decide) rfl (fun ls hl => ?_)
  refine lv_aload hx hb dL_ofShot_200 (lv_at hl 7 rfl) ?_
  refine lv_iload_n hx hb dL_ofShot_202 rfl (lv_at hl 3 rfl) ?_
  refine rn_iald (i := a) hx hb hK hP 1 0 rfl rfl (by omega) (by omega) dL_ofShot_203 ?_
  refine lv_iload hx hb dL_ofShot_204 (lv_at hl 0 rfl) ?_
  refine lv_icmp_gt (tgt := 212) hx hb dL_ofShot_206 (by decide) (fun c_7 => ?_) (fun c_7 => ?_)
  · refine lv_aload hx hb dL_ofShot_212 (lv_at hl 6 rfl) ?_
    refine lv_iconst (v := nI 4) hx hb dL_ofShot_214 (by decide) ?_
    refine rn_iald (i := 4) hx hb hK hP 0 0 rfl rfl (by omega) (by omega) dL_ofShot_215 ?_
    refine W.eq (congrArg (fun z => F0 m 216 ls (.int z :: [])) (show vq 4 = nI n from hf)) ?_
    refine lv_bipush (v := nI 20) hx hb dL_ofShot_216 (by decide) ?_
    refine rn_icmp_ne (a := n) (b := 20) (tgt := 224) hx hb (by omega) (by omega) dL_ofShot_218 (by decide) (fun c_8 => ?_) (fun c_8 => ?_)
    · refine lv_iload_n hx hb dL_ofShot_224 rfl (lv_at hl 3 rfl) ?_
      refine lv_iconst (v := nI 1) hx hb dL_ofShot_225 (by decide) ?_
      refine lv_aload hx hb dL_ofShot_226 (lv_at hl 6 rfl) ?_
      refine lv_aload hx hb dL_ofShot_228 (lv_at hl 7 rfl) ?_
      refine lv_aload hx hb dL_ofShot_230 (lv_at hl 8 rfl) ?_
      refine lv_aload hx hb dL_ofShot_232 (lv_at hl 9 rfl) ?_
      refine lv_aload hx hb dL_ofShot_234 (lv_at hl 10 rfl) ?_
      refine lv_aload hx hb dL_ofShot_236 (lv_at hl 11 rfl) ?_
      refine rwSv8 (rest := []) S (c_L_shift_u l E a aq af ad aw al ar vq vf vd vw vl vr n hf hn (by omega)) cd_L_shift bw_380 ⟨Nat.le_of_ble_eq_true rfl, Nat.le_of_ble_eq_true rfl⟩ ⟨Nat.zero_le _, Nat.zero_le _⟩ hP (hDa.to rfl) hE hA hS [0, 1, 2, 3, 4, 5] rfl rfl [aq, af, ad, aw, al, ar] rfl rfl (Nat.le_of_ble_eq_true rfl) hl.1 dL_ofShot_238 (fun H locs hP _ hS => ?_)
      have hP : va_P E.1 vwCl [(aq, .inl (E.2.1, 13, .inl (upd vq 4 (nI (n + 1))))), (af, .inl (E.2.1, 21, .inl (su1 vf n a))), (ad, .inl (E.2.1, 63, .inl (su3 vd n a))), (aw, .inl (E.2.1, 63, .inl (su3 vw n a))), (al, .inl (E.2.1, 63, .inl (su3 vl n a))), (ar, .inl (E.2.1, 63, .inl (su3 vr n a)))] H := hP
      refine lv_aload hx hb dL_ofShot_241 (lv_at hl 7 rfl) ?_
      refine lv_iload_n hx hb dL_ofShot_243 rfl (lv_at hl 3 rfl) ?_
      refine lv_iconst (v := nI 1) hx hb dL_ofShot_244 (by decide) ?_
      refine rn_add (a := a) (b := 1) hx hb dL_ofShot_245 ?_
      refine lv_aload hx hb dL_ofShot_246 (lv_at hl 7 rfl) ?_
      refine lv_iload_n hx hb dL_ofShot_248 rfl (lv_at hl 3 rfl) ?_
      refine rn_iald (i := a) hx hb hK hP 1 0 rfl rfl (by omega) (by omega) dL_ofShot_249 ?_
      refine lv_iload hx hb dL_ofShot_250 (lv_at hl 0 rfl) ?_
      refine lv_isub hx hb dL_ofShot_252 ?_
      refine rn_iast (i := a + 1) hx hb hK hP (hDa.to rfl) hS 1 0 rfl rfl (by omega) (by omega) dL_ofShot_253 (fun H locs hP _ hS => ?_)
      have hP : va_P E.1 vwCl [(aq, .inl (E.2.1, 13, .inl (upd vq 4 (nI (n + 1))))), (af, .inl (E.2.1, 21, .inl (upd (su1 vf n a) (a + 1) (su1 vf n a a - (nI (1 + lowN x 98)))))), (ad, .inl (E.2.1, 63, .inl (su3 vd n a))), (aw, .inl (E.2.1, 63, .inl (su3 vw n a))), (al, .inl (E.2.1, 63, .inl (su3 vl n a))), (ar, .inl (E.2.1, 63, .inl (su3 vr n a)))] H := hP
      refine lv_aload hx hb dL_ofShot_254 (lv_at hl 7 rfl) ?_
      refine lv_iload_n hx hb dL_ofShot_256 rfl (lv_at hl 3 rfl) ?_
      refine lv_iload hx hb dL_ofShot_257 (lv_at hl 0 rfl) ?_
      refine rn_iast (i := a) hx hb hK hP (hDa.to rfl) hS 1 0 rfl rfl (by omega) (by omega) dL_ofShot_259 (fun H locs hP _ hS => ?_)
      have hP : va_P E.1 vwCl [(aq, .inl (E.2.1, 13, .inl (upd vq 4 (nI (n + 1))))), (af, .inl (E.2.1, 21, .inl (upd (upd (su1 vf n a) (a + 1) (su1 vf n a a - (nI (1 + lowN x 98)))) a (nI (1 + lowN x 98))))), (ad, .inl (E.2.1, 63, .inl (su3 vd n a))), (aw, .inl (E.2.1, 63, .inl (su3 vw n a))), (al, .inl (E.2.1, 63, .inl (su3 vl n a))), (ar, .inl (E.2.1, 63, .inl (su3 vr n a)))] H := hP
      refine lv_iload_n hx hb dL_ofShot_260 rfl (lv_at hl 3 rfl) ?_
      refine lv_aload hx hb dL_ofShot_261 (lv_at hl 11 rfl) ?_
      refine rwSv2 (rest := []) S (c_L_forget l E a ar (su3 vr n a) (by omega)) cd_L_forget bw_386 ⟨Nat.le_of_ble_eq_true rfl, Nat.le_of_ble_eq_true rfl⟩ ⟨Nat.zero_le _, Nat.zero_le _⟩ hP (hDa.to rfl) hE hA hS [5] rfl rfl [ar] rfl rfl (Nat.le_of_ble_eq_true rfl) hl.1 dL_ofShot_263 (fun H locs hP _ hS => ?_)
      have hP : va_P E.1 vwCl [(aq, .inl (E.2.1, 13, .inl (upd vq 4 (nI (n + 1))))), (af, .inl (E.2.1, 21, .inl (upd (upd (su1 vf n a) (a + 1) (su1 vf n a a - (nI (1 + lowN x 98)))) a (nI (1 + lowN x 98))))), (ad, .inl (E.2.1, 63, .inl (su3 vd n a))), (aw, .inl (E.2.1, 63, .inl (su3 vw n a))), (al, .inl (E.2.1, 63, .inl (su3 vl n a))), (ar, .inl (E.2.1, 63, .inl (fo3 (su3 vr n a) a)))] H := hP
      refine lv_iload_n hx hb dL_ofShot_266 rfl (lv_at hl 3 rfl) ?_
      refine lv_iconst (v := nI 1) hx hb dL_ofShot_267 (by decide) ?_
      refine rn_add (a := a) (b := 1) hx hb dL_ofShot_268 ?_
      refine lv_aload hx hb dL_ofShot_269 (lv_at hl 11 rfl) ?_
      refine rwSv2 (rest := []) S (c_L_forget l E (a + 1) ar (fo3 (su3 vr n a) a) (by omega)) cd_L_forget bw_386 ⟨Nat.le_of_ble_eq_true rfl, Nat.le_of_ble_eq_true rfl⟩ ⟨Nat.zero_le _, Nat.zero_le _⟩ hP (hDa.to rfl) hE hA hS [5] rfl rfl [ar] rfl rfl (Nat.le_of_ble_eq_true rfl) hl.1 dL_ofShot_271 (fun H locs hP _ hS => ?_)
      have hP : va_P E.1 vwCl [(aq, .inl (E.2.1, 13, .inl (upd vq 4 (nI (n + 1))))), (af, .inl (E.2.1, 21, .inl (upd (upd (su1 vf n a) (a + 1) (su1 vf n a a - (nI (1 + lowN x 98)))) a (nI (1 + lowN x 98))))), (ad, .inl (E.2.1, 63, .inl (su3 vd n a))), (aw, .inl (E.2.1, 63, .inl (su3 vw n a))), (al, .inl (E.2.1, 63, .inl (su3 vl n a))), (ar, .inl (E.2.1, 63, .inl (fo3 (fo3 (su3 vr n a) a) (a + 1))))] H := hP
      refine lv_aload hx hb dL_ofShot_274 (lv_at hl 6 rfl) ?_
      refine lv_iconst (v := nI 4) hx hb dL_ofShot_276 (by decide) ?_
      refine rn_iald (i := 4) hx hb hK hP 0 0 rfl rfl (by omega) (by omega) dL_ofShot_277 ?_
      refine W.eq (congrArg (fun z => F0 m 278 ls (.int z :: [])) (show (upd vq 4 (nI (n + 1))) 4 = nI (n + 1) from pk_us)) ?_
      exact hret _ _ _ _ _ _ (by rw [s4V, if_pos c_7, if_neg c_8]) (by rw [show s4Q vq vf vd vw vl vr n a b x = upd vq 4 (nI (n + 1)) from by rw [s4Q, if_pos c_7, if_neg c_8], show s4F vq vf vd vw vl vr n a b x = upd (upd (su1 vf n a) (a + 1) (su1 vf n a a - (nI (1 + lowN x 98)))) a (nI (1 + lowN x 98)) from by rw [s4F, if_pos c_7, if_neg c_8], show s4D vq vf vd vw vl vr n a b x = su3 vd n a from by rw [s4D, if_pos c_7, if_neg c_8], show s4W vq vf vd vw vl vr n a b x = su3 vw n a from by rw [s4W, if_pos c_7, if_neg c_8], show s4L vq vf vd vw vl vr n a b x = su3 vl n a from by rw [s4L, if_pos c_7, if_neg c_8], show s4R vq vf vd vw vl vr n a b x = fo3 (fo3 (su3 vr n a) a) (a + 1) from by rw [s4R, if_pos c_7, if_neg c_8]]) rfl hP hS dL_ofShot_278
    · refine lv_bipush (v := (-4)) hx hb dL_ofShot_221 (by decide) ?_
      exact hret _ _ _ _ _ _ (by rw [s4V, if_pos c_7, if_pos c_8]) (by rw [show s4Q vq vf vd vw vl vr n a b x = vq from by rw [s4Q, if_pos c_7, if_pos c_8], show s4F vq vf vd vw vl vr n a b x = vf from by rw [s4F, if_pos c_7, if_pos c_8], show s4D vq vf vd vw vl vr n a b x = vd from by rw [s4D, if_pos c_7, if_pos c_8], show s4W vq vf vd vw vl vr n a b x = vw from by rw [s4W, if_pos c_7, if_pos c_8], show s4L vq vf vd vw vl vr n a b x = vl from by rw [s4L, if_pos c_7, if_pos c_8], show s4R vq vf vd vw vl vr n a b x = vr from by rw [s4R, if_pos c_7, if_pos c_8]]) rfl hP hS dL_ofShot_223
  · refine lv_bipush (v := (-5)) hx hb dL_ofShot_209 (by decide) ?_
    exact hret _ _ _ _ _ _ (by rw [s4V, if_neg c_7]) (by rw [show s4Q vq vf vd vw vl vr n a b x = vq from by rw [s4Q, if_neg c_7], show s4F vq vf vd vw vl vr n a b x = vf from by rw [s4F, if_neg c_7], show s4D vq vf vd vw vl vr n a b x = vd from by rw [s4D, if_neg c_7], show s4W vq vf vd vw vl vr n a b x = vw from by rw [s4W, if_neg c_7], show s4L vq vf vd vw vl vr n a b x = vl from by rw [s4L, if_neg c_7], show s4R vq vf vd vw vl vr n a b x = vr from by rw [s4R, if_neg c_7]]) rfl hP hS dL_ofShot_211

def s5V (vq : Nat → Int32) (vf : Nat → Int32) (vd : Nat → Int32) (vw : Nat → Int32) (vl : Nat → Int32) (vr : Nat → Int32) (n : Nat) (a : Nat) (b : Nat) (x : Int32) : Int32 := if n ≤ a + 1 then (-1) else if (if (if (if vd (3 * a + 0) = vd (3 * a + 3 + 0) then nI 1 else nI 0) = 0 then nI 0 else if vd (3 * a + 1) = vd (3 * a + 3 + 1) then nI 1 else nI 0) = 0 then nI 0 else if vd (3 * a + 2) = vd (3 * a + 3 + 2) then nI 1 else nI 0) = 0 then (-5) else if vf a + (vf (a + 1)) ≤ nI 99 then (upd vf (a + 1) (vf (a + 1) + (vf a))) (a + 1) else (-5)
def s5Q (vq : Nat → Int32) (vf : Nat → Int32) (vd : Nat → Int32) (vw : Nat → Int32) (vl : Nat → Int32) (vr : Nat → Int32) (n : Nat) (a : Nat) (b : Nat) (x : Int32) : Nat → Int32 := if n ≤ a + 1 then vq else if (if (if (if vd (3 * a + 0) = vd (3 * a + 3 + 0) then nI 1 else nI 0) = 0 then nI 0 else if vd (3 * a + 1) = vd (3 * a + 3 + 1) then nI 1 else nI 0) = 0 then nI 0 else if vd (3 * a + 2) = vd (3 * a + 3 + 2) then nI 1 else nI 0) = 0 then vq else if vf a + (vf (a + 1)) ≤ nI 99 then upd vq 4 (nI (n - 1)) else vq
def s5F (vq : Nat → Int32) (vf : Nat → Int32) (vd : Nat → Int32) (vw : Nat → Int32) (vl : Nat → Int32) (vr : Nat → Int32) (n : Nat) (a : Nat) (b : Nat) (x : Int32) : Nat → Int32 := if n ≤ a + 1 then vf else if (if (if (if vd (3 * a + 0) = vd (3 * a + 3 + 0) then nI 1 else nI 0) = 0 then nI 0 else if vd (3 * a + 1) = vd (3 * a + 3 + 1) then nI 1 else nI 0) = 0 then nI 0 else if vd (3 * a + 2) = vd (3 * a + 3 + 2) then nI 1 else nI 0) = 0 then vf else if vf a + (vf (a + 1)) ≤ nI 99 then upd (sd1 (upd vf (a + 1) (vf (a + 1) + (vf a))) (a + 1) (n - 1)) a ((upd vf (a + 1) (vf (a + 1) + (vf a))) (a + 1)) else vf
def s5D (vq : Nat → Int32) (vf : Nat → Int32) (vd : Nat → Int32) (vw : Nat → Int32) (vl : Nat → Int32) (vr : Nat → Int32) (n : Nat) (a : Nat) (b : Nat) (x : Int32) : Nat → Int32 := if n ≤ a + 1 then vd else if (if (if (if vd (3 * a + 0) = vd (3 * a + 3 + 0) then nI 1 else nI 0) = 0 then nI 0 else if vd (3 * a + 1) = vd (3 * a + 3 + 1) then nI 1 else nI 0) = 0 then nI 0 else if vd (3 * a + 2) = vd (3 * a + 3 + 2) then nI 1 else nI 0) = 0 then vd else if vf a + (vf (a + 1)) ≤ nI 99 then sd3 vd (a + 1) (n - 1) else vd
def s5W (vq : Nat → Int32) (vf : Nat → Int32) (vd : Nat → Int32) (vw : Nat → Int32) (vl : Nat → Int32) (vr : Nat → Int32) (n : Nat) (a : Nat) (b : Nat) (x : Int32) : Nat → Int32 := if n ≤ a + 1 then vw else if (if (if (if vd (3 * a + 0) = vd (3 * a + 3 + 0) then nI 1 else nI 0) = 0 then nI 0 else if vd (3 * a + 1) = vd (3 * a + 3 + 1) then nI 1 else nI 0) = 0 then nI 0 else if vd (3 * a + 2) = vd (3 * a + 3 + 2) then nI 1 else nI 0) = 0 then vw else if vf a + (vf (a + 1)) ≤ nI 99 then sd3 vw (a + 1) (n - 1) else vw
def s5L (vq : Nat → Int32) (vf : Nat → Int32) (vd : Nat → Int32) (vw : Nat → Int32) (vl : Nat → Int32) (vr : Nat → Int32) (n : Nat) (a : Nat) (b : Nat) (x : Int32) : Nat → Int32 := if n ≤ a + 1 then vl else if (if (if (if vd (3 * a + 0) = vd (3 * a + 3 + 0) then nI 1 else nI 0) = 0 then nI 0 else if vd (3 * a + 1) = vd (3 * a + 3 + 1) then nI 1 else nI 0) = 0 then nI 0 else if vd (3 * a + 2) = vd (3 * a + 3 + 2) then nI 1 else nI 0) = 0 then vl else if vf a + (vf (a + 1)) ≤ nI 99 then sd3 vl (a + 1) (n - 1) else vl
def s5R (vq : Nat → Int32) (vf : Nat → Int32) (vd : Nat → Int32) (vw : Nat → Int32) (vl : Nat → Int32) (vr : Nat → Int32) (n : Nat) (a : Nat) (b : Nat) (x : Int32) : Nat → Int32 := if n ≤ a + 1 then vr else if (if (if (if vd (3 * a + 0) = vd (3 * a + 3 + 0) then nI 1 else nI 0) = 0 then nI 0 else if vd (3 * a + 1) = vd (3 * a + 3 + 1) then nI 1 else nI 0) = 0 then nI 0 else if vd (3 * a + 2) = vd (3 * a + 3 + 2) then nI 1 else nI 0) = 0 then vr else if vf a + (vf (a + 1)) ≤ nI 99 then fo3 (sd3 vr (a + 1) (n - 1)) a else vr
set_option maxHeartbeats 4000000 in
set_option maxRecDepth 100000 in
theorem c_L_ofShot_5 (l : Launch) (E : EV) (a : Nat) (b : Nat) (x : Int32) (aq : Nat) (af : Nat) (ad : Nat) (aw : Nat) (al : Nat) (ar : Nat) (vq : Nat → Int32) (vf : Nat → Int32) (vd : Nat → Int32) (vw : Nat → Int32) (vl : Nat → Int32) (vr : Nat → Int32) (n : Nat) (hf : vq 4 = nI n) (hn : n ≤ 20) (ha : a < n) : rcI l E yL_ofShot cL_ofShot 13 .int 3 [.int (nI 5), .int (nI a), .int (nI b), .int x, .ref aq, .ref af, .ref ad, .ref aw, .ref al, .ref ar] [(aq, .inl (E.2.1, 13, .inl vq)), (af, .inl (E.2.1, 21, .inl vf)), (ad, .inl (E.2.1, 63, .inl vd)), (aw, .inl (E.2.1, 63, .inl vw)), (al, .inl (E.2.1, 63, .inl vl)), (ar, .inl (E.2.1, 63, .inl vr))] (s5V vq vf vd vw vl vr n a b x) [(aq, .inl (E.2.1, 13, .inl (s5Q vq vf vd vw vl vr n a b x))), (af, .inl (E.2.1, 21, .inl (s5F vq vf vd vw vl vr n a b x))), (ad, .inl (E.2.1, 63, .inl (s5D vq vf vd vw vl vr n a b x))), (aw, .inl (E.2.1, 63, .inl (s5W vq vf vd vw vl vr n a b x))), (al, .inl (E.2.1, 63, .inl (s5L vq vf vd vw vl vr n a b x))), (ar, .inl (E.2.1, 63, .inl (s5R vq vf vd vw vl vr n a b x)))] := by
  refine rcI_of (by decide) (Nat.le_of_ble_eq_true rfl) ?_
  intro pg e s m below meth c Q A ls S hP hD0 hE hA hl hret
  have hx := S.1
  have hb := S.2.1
  have hown := S.2.2.2.1
  have hts := S.2.2.2.2
  have hK := hE.1
  have hS : va_S A s.heap s.heap [] := va_S.rf
  have hDa : va_Da A [aq, af, ad, aw, al, ar] := ⟨_, hD0, rfl⟩
  have hl : lv_has ls 13 [(0, .int (nI 5)), (1, .int (nI a)), (2, .int (nI b)), (3, .int x), (4, .ref aq), (5, .ref af), (6, .ref ad), (7, .ref aw), (8, .ref al), (9, .ref ar)] := hl
  refine lv_iload_n hx hb dL_ofShot_0 rfl (lv_at hl 0 rfl) ?_
  refine lv_iconst (v := nI 1) hx hb dL_ofShot_1 (by decide) ?_
  refine rn_icmp_ne (a := 5) (b := 1) (tgt := 16) hx hb (by omega) (by omega) dL_ofShot_2 (by decide) (fun c_1 => ?_) (fun c_1 => absurd c_1 (by omega))
  refine lv_iload_n hx hb dL_ofShot_16 rfl (lv_at hl 0 rfl) ?_
  refine lv_iconst (v := nI 2) hx hb dL_ofShot_17 (by decide) ?_
  refine rn_icmp_ne (a := 5) (b := 2) (tgt := 35) hx hb (by omega) (by omega) dL_ofShot_18 (by decide) (fun c_2 => ?_) (fun c_2 => absurd c_2 (by omega))
  refine lv_iconst (v := nI 0) hx hb dL_ofShot_35 (by decide) ?_
  refine lv_istore (lv' := [(10, .int (nI 0)), (0, .int (nI 5)), (1, .int (nI a)), (2, .int (nI b)), (3, .int x), (4, .ref aq), (5, .ref af), (6, .ref ad), (7, .ref aw), (8, .ref al), (9, .ref ar)]) hx hb dL_ofShot_36 hl (by decide) rfl (fun ls hl => ?_)
  refine lv_iload_n hx hb dL_ofShot_38 rfl (lv_at hl 1 rfl) ?_
  refine lv_iconst (v := nI 1) hx hb dL_ofShot_39 (by decide) ?_
  refine rn_icmp_ne (a := 5) (b := 1) (tgt := 60) hx hb (by omega) (by omega) dL_ofShot_40 (by decide) (fun c_3 => ?_) (fun c_3 => absurd c_3 (by omega))
  refine lv_iload_n hx hb dL_ofShot_60 rfl (lv_at hl 1 rfl) ?_
  refine lv_iconst (v := nI 2) hx hb dL_ofShot_61 (by decide) ?_
  refine rn_icmp_ne (a := 5) (b := 2) (tgt := 85) hx hb (by omega) (by omega) dL_ofShot_62 (by decide) (fun c_4 => ?_) (fun c_4 => absurd c_4 (by omega))
  refine lv_iload_n hx hb dL_ofShot_85 rfl (lv_at hl 1 rfl) ?_
  refine lv_iconst (v := nI 3) hx hb dL_ofShot_86 (by decide) ?_
  refine rn_icmp_ne (a := 5) (b := 3) (tgt := 185) hx hb (by omega) (by omega) dL_ofShot_87 (by decide) (fun c_5 => ?_) (fun c_5 => absurd c_5 (by omega))
  refine lv_iload_n hx hb dL_ofShot_185 rfl (lv_at hl 1 rfl) ?_
  refine lv_iconst (v := nI 4) hx hb dL_ofShot_186 (by decide) ?_
  refine rn_icmp_ne (a := 5) (b := 4) (tgt := 279) hx hb (by omega) (by omega) dL_ofShot_187 (by decide) (fun c_6 => ?_) (fun c_6 => absurd c_6 (by omega))
  refine lv_iload_n hx hb dL_ofShot_279 rfl (lv_at hl 1 rfl) ?_
  refine lv_iconst (v := nI 5) hx hb dL_ofShot_280 (by decide) ?_
  refine rn_icmp_ne (a := 5) (b := 5) (tgt := 437) hx hb (by omega) (by omega) dL_ofShot_281 (by decide) (fun c_7 => absurd c_7 (by omega)) (fun c_7 => ?_)
  refine lv_iload_n hx hb dL_ofShot_284 rfl (lv_at hl 2 rfl) ?_
  refine lv_iconst (v := nI 1) hx hb dL_ofShot_285 (by decide) ?_
  refine rn_add (a := a) (b := 1) hx hb dL_ofShot_286 ?_
  refine lv_aload hx hb dL_ofShot_287 (lv_at hl 5 rfl) ?_
  refine lv_iconst (v := nI 4) hx hb dL_ofShot_289 (by decide) ?_
  refine rn_iald (i := 4) hx hb hK hP 0 0 rfl rfl (by omega) (by omega) dL_ofShot_290 ?_
  refine W.eq (congrArg (fun z => F0 m 291 ls (.int z :: [.int (nI (a + 1))])) (show vq 4 = nI n from hf)) ?_
  refine rn_icmp_ge (a := a + 1) (b := n) (tgt := 298) hx hb (by omega) (by omega) dL_ofShot_291 (by decide) (fun c_8 => ?_) (fun c_8 => ?_)
  · refine lv_iconst (v := nI 0) hx hb dL_ofShot_298 (by decide) ?_
    refine lv_istore (lv' := [(11, .int (nI 0)), (10, .int (nI 0)), (0, .int (nI 5)), (1, .int (nI a)), (2, .int (nI b)), (3, .int x), (4, .ref aq), (5, .ref af), (6, .ref ad), (7, .ref aw), (8, .ref al), (9, .ref ar)]) hx hb dL_ofShot_299 hl (by decide) rfl (fun ls hl => ?_)
    refine lv_iload hx hb dL_ofShot_301 (lv_at hl 0 rfl) ?_
    refine lv_if_ne (tgt := 308) hx hb dL_ofShot_303 (by decide) (fun c9 => by first | exact absurd c9 (by decide) | exact absurd (by decide) c9) (fun _ => ?_)
    refine lv_iconst (v := (-1)) hx hb dL_ofShot_306 (by decide) ?_
    exact hret _ _ _ _ _ _ (by rw [s5V, if_pos c_8]) (by rw [show s5Q vq vf vd vw vl vr n a b x = vq from by rw [s5Q, if_pos c_8], show s5F vq vf vd vw vl vr n a b x = vf from by rw [s5F, if_pos c_8], show s5D vq vf vd vw vl vr n a b x = vd from by rw [s5D, if_pos c_8], show s5W vq vf vd vw vl vr n a b x = vw from by rw [s5W, if_pos c_8], show s5L vq vf vd vw vl vr n a b x = vl from by rw [s5L, if_pos c_8], show s5R vq vf vd vw vl vr n a b x = vr from by rw [s5R, if_pos c_8]]) rfl hP hS dL_ofShot_307
  · refine lv_iconst (v := nI 1) hx hb dL_ofShot_294 (by decide) ?_
    refine lv_goto (tgt := 299) hx hb dL_ofShot_295 (by decide) ?_
    refine lv_istore (lv' := [(11, .int (nI 1)), (10, .int (nI 0)), (0, .int (nI 5)), (1, .int (nI a)), (2, .int (nI b)), (3, .int x), (4, .ref aq), (5, .ref af), (6, .ref ad), (7, .ref aw), (8, .ref al), (9, .ref ar)]) hx hb dL_ofShot_299 hl (by decide) rfl (fun ls hl => ?_)
    refine lv_iload hx hb dL_ofShot_301 (lv_at hl 0 rfl) ?_
    refine lv_if_ne (tgt := 308) hx hb dL_ofShot_303 (by decide) (fun _ => ?_) (fun c9 => by first | exact absurd (by decide) c9 | exact absurd c9 (by decide))
    refine lv_iconst (v := nI 0) hx hb dL_ofShot_308 (by decide) ?_
    refine lv_istore (lv' := [(12, .int (nI 0)), (11, .int (nI 1)), (10, .int (nI 0)), (0, .int (nI 5)), (1, .int (nI a)), (2, .int (nI b)), (3, .int x), (4, .ref aq), (5, .ref af), (6, .ref ad), (7, .ref aw), (8, .ref al), (9, .ref ar)]) hx hb dL_ofShot_309 hl (by decide) rfl (fun ls hl => ?_)
    refine lv_iload hx hb dL_ofShot_311 (lv_at hl 0 rfl) ?_
    refine lv_iconst (v := nI 3) hx hb dL_ofShot_313 (by decide) ?_
    refine rn_icmp_ge (a := 0) (b := 3) (tgt := 358) hx hb (by omega) (by omega) dL_ofShot_314 (by decide) (fun c_9 => absurd c_9 (by omega)) (fun c_9 => ?_)
    refine lv_iload hx hb dL_ofShot_317 (lv_at hl 1 rfl) ?_
    refine (fun (hj : ∀ (H : Heap) (locs : List Loc), va_P E.1 vwCl [(aq, .inl (E.2.1, 13, .inl vq)), (af, .inl (E.2.1, 21, .inl vf)), (ad, .inl (E.2.1, 63, .inl vd)), (aw, .inl (E.2.1, 63, .inl vw)), (al, .inl (E.2.1, 63, .inl vl)), (ar, .inl (E.2.1, 63, .inl vr))] H → va_S A s.heap H locs → W pg l e (rq 3) s m ([.int (nI 5), .int (nI a), .int (nI b), .int x, .ref aq, .ref af, .ref ad, .ref aw, .ref al, .ref ar] : List Value).toArray below meth c H locs 0 0 Q (F0 m 350 ls [.int (if vd (3 * a + 0) = vd (3 * a + 3 + 0) then nI 1 else nI 0)])) => ?_) ?_
    · refine lv_if_eq (tgt := 349) hx hb dL_ofShot_319 (by decide) (fun c9 => by first | exact absurd c9 (by decide) | exact absurd (by decide) c9) (fun _ => ?_)
      refine lv_aload hx hb dL_ofShot_322 (lv_at hl 9 rfl) ?_
      refine lv_iconst (v := nI 3) hx hb dL_ofShot_324 (by decide) ?_
      refine lv_iload_n hx hb dL_ofShot_325 rfl (lv_at hl 4 rfl) ?_
      refine rn_mul (a := 3) (b := a) hx hb dL_ofShot_326 ?_
      refine lv_iload hx hb dL_ofShot_327 (lv_at hl 0 rfl) ?_
      refine rn_add (a := 3 * a) (b := 0) hx hb dL_ofShot_329 ?_
      refine rn_iald (i := 3 * a + 0) hx hb hK hP 2 0 rfl rfl (by omega) (by omega) dL_ofShot_330 ?_
      refine lv_aload hx hb dL_ofShot_331 (lv_at hl 9 rfl) ?_
      refine lv_iconst (v := nI 3) hx hb dL_ofShot_333 (by decide) ?_
      refine lv_iload_n hx hb dL_ofShot_334 rfl (lv_at hl 4 rfl) ?_
      refine rn_mul (a := 3) (b := a) hx hb dL_ofShot_335 ?_
      refine lv_iconst (v := nI 3) hx hb dL_ofShot_336 (by decide) ?_
      refine rn_add (a := 3 * a) (b := 3) hx hb dL_ofShot_337 ?_
      refine lv_iload hx hb dL_ofShot_338 (lv_at hl 0 rfl) ?_
      refine rn_add (a := 3 * a + 3) (b := 0) hx hb dL_ofShot_340 ?_
      refine rn_iald (i := 3 * a + 3 + 0) hx hb hK hP 2 0 rfl rfl (by omega) (by omega) dL_ofShot_341 ?_
      refine lv_icmp_ne (tgt := 349) hx hb dL_ofShot_342 (by decide) (fun c_10 => ?_) (fun c_10 => ?_)
      · refine lv_iconst (v := nI 0) hx hb dL_ofShot_349 (by decide) ?_
        have hj9 := hj _ _ hP hS
        rw [if_neg c_10] at hj9
        exact hj9
      · refine lv_iconst (v := nI 1) hx hb dL_ofShot_345 (by decide) ?_
        refine lv_goto (tgt := 350) hx hb dL_ofShot_346 (by decide) ?_
        have hj9 := hj _ _ hP hS
        rw [if_pos c_10] at hj9
        exact hj9
    intro H locs hP hS
    refine lv_istore (lv' := [(11, .int (if vd (3 * a + 0) = vd (3 * a + 3 + 0) then nI 1 else nI 0)), (12, .int (nI 0)), (10, .int (nI 0)), (0, .int (nI 5)), (1, .int (nI a)), (2, .int (nI b)), (3, .int x), (4, .ref aq), (5, .ref af), (6, .ref ad), (7, .ref aw), (8, .ref al), (9, .ref ar)]) hx hb dL_ofShot_350 hl (by decide) rfl (fun ls hl => ?_)
    refine rn_inc (a := 0) (d := 1) (lv' := [(12, .int (nI 1)), (11, .int (if vd (3 * a + 0) = vd (3 * a + 3 + 0) then nI 1 else nI 0)), (10, .int (nI 0)), (0, .int (nI 5)), (1, .int (nI a)), (2, .int (nI b)), (3, .int x), (4, .ref aq), (5, .ref af), (6, .ref ad), (7, .ref aw), (8, .ref al), (9, .ref ar)]) hx hb dL_ofShot_352 hl (k := 1) rfl (by decide) (by decide) rfl (fun ls hl => ?_)
    refine lv_goto (tgt := 311) hx hb dL_ofShot_355 (by decide) ?_
    refine lv_iload hx hb dL_ofShot_311 (lv_at hl 0 rfl) ?_
    refine lv_iconst (v := nI 3) hx hb dL_ofShot_313 (by decide) ?_
    refine rn_icmp_ge (a := 1) (b := 3) (tgt := 358) hx hb (by omega) (by omega) dL_ofShot_314 (by decide) (fun c_11 => absurd c_11 (by omega)) (fun c_11 => ?_)
    refine lv_iload hx hb dL_ofShot_317 (lv_at hl 1 rfl) ?_
    refine (fun (hj : ∀ (H : Heap) (locs : List Loc), va_P E.1 vwCl [(aq, .inl (E.2.1, 13, .inl vq)), (af, .inl (E.2.1, 21, .inl vf)), (ad, .inl (E.2.1, 63, .inl vd)), (aw, .inl (E.2.1, 63, .inl vw)), (al, .inl (E.2.1, 63, .inl vl)), (ar, .inl (E.2.1, 63, .inl vr))] H → va_S A s.heap H locs → W pg l e (rq 3) s m ([.int (nI 5), .int (nI a), .int (nI b), .int x, .ref aq, .ref af, .ref ad, .ref aw, .ref al, .ref ar] : List Value).toArray below meth c H locs 0 0 Q (F0 m 350 ls [.int (if (if vd (3 * a + 0) = vd (3 * a + 3 + 0) then nI 1 else nI 0) = 0 then nI 0 else if vd (3 * a + 1) = vd (3 * a + 3 + 1) then nI 1 else nI 0)])) => ?_) ?_
    · refine lv_if_eq (tgt := 349) hx hb dL_ofShot_319 (by decide) (fun c_12 => ?_) (fun c_12 => ?_)
      · refine lv_iconst (v := nI 0) hx hb dL_ofShot_349 (by decide) ?_
        have hj9 := hj _ _ hP hS
        rw [if_pos c_12] at hj9
        exact hj9
      · refine lv_aload hx hb dL_ofShot_322 (lv_at hl 9 rfl) ?_
        refine lv_iconst (v := nI 3) hx hb dL_ofShot_324 (by decide) ?_
        refine lv_iload_n hx hb dL_ofShot_325 rfl (lv_at hl 4 rfl) ?_
        refine rn_mul (a := 3) (b := a) hx hb dL_ofShot_326 ?_
        refine lv_iload hx hb dL_ofShot_327 (lv_at hl 0 rfl) ?_
        refine rn_add (a := 3 * a) (b := 1) hx hb dL_ofShot_329 ?_
        refine rn_iald (i := 3 * a + 1) hx hb hK hP 2 0 rfl rfl (by omega) (by omega) dL_ofShot_330 ?_
        refine lv_aload hx hb dL_ofShot_331 (lv_at hl 9 rfl) ?_
        refine lv_iconst (v := nI 3) hx hb dL_ofShot_333 (by decide) ?_
        refine lv_iload_n hx hb dL_ofShot_334 rfl (lv_at hl 4 rfl) ?_
        refine rn_mul (a := 3) (b := a) hx hb dL_ofShot_335 ?_
        refine lv_iconst (v := nI 3) hx hb dL_ofShot_336 (by decide) ?_
        refine rn_add (a := 3 * a) (b := 3) hx hb dL_ofShot_337 ?_
        refine lv_iload hx hb dL_ofShot_338 (lv_at hl 0 rfl) ?_
        refine rn_add (a := 3 * a + 3) (b := 1) hx hb dL_ofShot_340 ?_
        refine rn_iald (i := 3 * a + 3 + 1) hx hb hK hP 2 0 rfl rfl (by omega) (by omega) dL_ofShot_341 ?_
        refine lv_icmp_ne (tgt := 349) hx hb dL_ofShot_342 (by decide) (fun c_13 => ?_) (fun c_13 => ?_)
        · refine lv_iconst (v := nI 0) hx hb dL_ofShot_349 (by decide) ?_
          have hj9 := hj _ _ hP hS
          rw [if_neg c_12, if_neg c_13] at hj9
          exact hj9
        · refine lv_iconst (v := nI 1) hx hb dL_ofShot_345 (by decide) ?_
          refine lv_goto (tgt := 350) hx hb dL_ofShot_346 (by decide) ?_
          have hj9 := hj _ _ hP hS
          rw [if_neg c_12, if_pos c_13] at hj9
          exact hj9
    intro H locs hP hS
    refine lv_istore (lv' := [(11, .int (if (if vd (3 * a + 0) = vd (3 * a + 3 + 0) then nI 1 else nI 0) = 0 then nI 0 else if vd (3 * a + 1) = vd (3 * a + 3 + 1) then nI 1 else nI 0)), (12, .int (nI 1)), (10, .int (nI 0)), (0, .int (nI 5)), (1, .int (nI a)), (2, .int (nI b)), (3, .int x), (4, .ref aq), (5, .ref af), (6, .ref ad), (7, .ref aw), (8, .ref al), (9, .ref ar)]) hx hb dL_ofShot_350 hl (by decide) rfl (fun ls hl => ?_)
    refine rn_inc (a := 1) (d := 1) (lv' := [(12, .int (nI 2)), (11, .int (if (if vd (3 * a + 0) = vd (3 * a + 3 + 0) then nI 1 else nI 0) = 0 then nI 0 else if vd (3 * a + 1) = vd (3 * a + 3 + 1) then nI 1 else nI 0)), (10, .int (nI 0)), (0, .int (nI 5)), (1, .int (nI a)), (2, .int (nI b)), (3, .int x), (4, .ref aq), (5, .ref af), (6, .ref ad), (7, .ref aw), (8, .ref al), (9, .ref ar)]) hx hb dL_ofShot_352 hl (k := 1) rfl (by decide) (by decide) rfl (fun ls hl => ?_)
    refine lv_goto (tgt := 311) hx hb dL_ofShot_355 (by decide) ?_
    refine lv_iload hx hb dL_ofShot_311 (lv_at hl 0 rfl) ?_
    refine lv_iconst (v := nI 3) hx hb dL_ofShot_313 (by decide) ?_
    refine rn_icmp_ge (a := 2) (b := 3) (tgt := 358) hx hb (by omega) (by omega) dL_ofShot_314 (by decide) (fun c_14 => absurd c_14 (by omega)) (fun c_14 => ?_)
    refine lv_iload hx hb dL_ofShot_317 (lv_at hl 1 rfl) ?_
    refine (fun (hj : ∀ (H : Heap) (locs : List Loc), va_P E.1 vwCl [(aq, .inl (E.2.1, 13, .inl vq)), (af, .inl (E.2.1, 21, .inl vf)), (ad, .inl (E.2.1, 63, .inl vd)), (aw, .inl (E.2.1, 63, .inl vw)), (al, .inl (E.2.1, 63, .inl vl)), (ar, .inl (E.2.1, 63, .inl vr))] H → va_S A s.heap H locs → W pg l e (rq 3) s m ([.int (nI 5), .int (nI a), .int (nI b), .int x, .ref aq, .ref af, .ref ad, .ref aw, .ref al, .ref ar] : List Value).toArray below meth c H locs 0 0 Q (F0 m 350 ls [.int (if (if (if vd (3 * a + 0) = vd (3 * a + 3 + 0) then nI 1 else nI 0) = 0 then nI 0 else if vd (3 * a + 1) = vd (3 * a + 3 + 1) then nI 1 else nI 0) = 0 then nI 0 else if vd (3 * a + 2) = vd (3 * a + 3 + 2) then nI 1 else nI 0)])) => ?_) ?_
    · refine lv_if_eq (tgt := 349) hx hb dL_ofShot_319 (by decide) (fun c_15 => ?_) (fun c_15 => ?_)
      · refine lv_iconst (v := nI 0) hx hb dL_ofShot_349 (by decide) ?_
        have hj9 := hj _ _ hP hS
        rw [if_pos c_15] at hj9
        exact hj9
      · refine lv_aload hx hb dL_ofShot_322 (lv_at hl 9 rfl) ?_
        refine lv_iconst (v := nI 3) hx hb dL_ofShot_324 (by decide) ?_
        refine lv_iload_n hx hb dL_ofShot_325 rfl (lv_at hl 4 rfl) ?_
        refine rn_mul (a := 3) (b := a) hx hb dL_ofShot_326 ?_
        refine lv_iload hx hb dL_ofShot_327 (lv_at hl 0 rfl) ?_
        refine rn_add (a := 3 * a) (b := 2) hx hb dL_ofShot_329 ?_
        refine rn_iald (i := 3 * a + 2) hx hb hK hP 2 0 rfl rfl (by omega) (by omega) dL_ofShot_330 ?_
        refine lv_aload hx hb dL_ofShot_331 (lv_at hl 9 rfl) ?_
        refine lv_iconst (v := nI 3) hx hb dL_ofShot_333 (by decide) ?_
        refine lv_iload_n hx hb dL_ofShot_334 rfl (lv_at hl 4 rfl) ?_
        refine rn_mul (a := 3) (b := a) hx hb dL_ofShot_335 ?_
        refine lv_iconst (v := nI 3) hx hb dL_ofShot_336 (by decide) ?_
        refine rn_add (a := 3 * a) (b := 3) hx hb dL_ofShot_337 ?_
        refine lv_iload hx hb dL_ofShot_338 (lv_at hl 0 rfl) ?_
        refine rn_add (a := 3 * a + 3) (b := 2) hx hb dL_ofShot_340 ?_
        refine rn_iald (i := 3 * a + 3 + 2) hx hb hK hP 2 0 rfl rfl (by omega) (by omega) dL_ofShot_341 ?_
        refine lv_icmp_ne (tgt := 349) hx hb dL_ofShot_342 (by decide) (fun c_16 => ?_) (fun c_16 => ?_)
        · refine lv_iconst (v := nI 0) hx hb dL_ofShot_349 (by decide) ?_
          have hj9 := hj _ _ hP hS
          rw [if_neg c_15, if_neg c_16] at hj9
          exact hj9
        · refine lv_iconst (v := nI 1) hx hb dL_ofShot_345 (by decide) ?_
          refine lv_goto (tgt := 350) hx hb dL_ofShot_346 (by decide) ?_
          have hj9 := hj _ _ hP hS
          rw [if_neg c_15, if_pos c_16] at hj9
          exact hj9
    intro H locs hP hS
    refine lv_istore (lv' := [(11, .int (if (if (if vd (3 * a + 0) = vd (3 * a + 3 + 0) then nI 1 else nI 0) = 0 then nI 0 else if vd (3 * a + 1) = vd (3 * a + 3 + 1) then nI 1 else nI 0) = 0 then nI 0 else if vd (3 * a + 2) = vd (3 * a + 3 + 2) then nI 1 else nI 0)), (12, .int (nI 2)), (10, .int (nI 0)), (0, .int (nI 5)), (1, .int (nI a)), (2, .int (nI b)), (3, .int x), (4, .ref aq), (5, .ref af), (6, .ref ad), (7, .ref aw), (8, .ref al), (9, .ref ar)]) hx hb dL_ofShot_350 hl (by decide) rfl (fun ls hl => ?_)
    refine rn_inc (a := 2) (d := 1) (lv' := [(12, .int (nI 3)), (11, .int (if (if (if vd (3 * a + 0) = vd (3 * a + 3 + 0) then nI 1 else nI 0) = 0 then nI 0 else if vd (3 * a + 1) = vd (3 * a + 3 + 1) then nI 1 else nI 0) = 0 then nI 0 else if vd (3 * a + 2) = vd (3 * a + 3 + 2) then nI 1 else nI 0)), (10, .int (nI 0)), (0, .int (nI 5)), (1, .int (nI a)), (2, .int (nI b)), (3, .int x), (4, .ref aq), (5, .ref af), (6, .ref ad), (7, .ref aw), (8, .ref al), (9, .ref ar)]) hx hb dL_ofShot_352 hl (k := 1) rfl (by decide) (by decide) rfl (fun ls hl => ?_)
    refine lv_goto (tgt := 311) hx hb dL_ofShot_355 (by decide) ?_
    refine lv_iload hx hb dL_ofShot_311 (lv_at hl 0 rfl) ?_
    refine lv_iconst (v := nI 3) hx hb dL_ofShot_313 (by decide) ?_
    refine rn_icmp_ge (a := 3) (b := 3) (tgt := 358) hx hb (by omega) (by omega) dL_ofShot_314 (by decide) (fun c_17 => ?_) (fun c_17 => absurd c_17 (by omega))
    refine lv_iload hx hb dL_ofShot_358 (lv_at hl 1 rfl) ?_
    refine lv_if_eq (tgt := 379) hx hb dL_ofShot_360 (by decide) (fun c_18 => ?_) (fun c_18 => ?_)
    · refine lv_bipush (v := (-5)) hx hb dL_ofShot_379 (by decide) ?_
      exact hret _ _ _ _ _ _ (by rw [s5V, if_neg c_8, if_pos c_18]) (by rw [show s5Q vq vf vd vw vl vr n a b x = vq from by rw [s5Q, if_neg c_8, if_pos c_18], show s5F vq vf vd vw vl vr n a b x = vf from by rw [s5F, if_neg c_8, if_pos c_18], show s5D vq vf vd vw vl vr n a b x = vd from by rw [s5D, if_neg c_8, if_pos c_18], show s5W vq vf vd vw vl vr n a b x = vw from by rw [s5W, if_neg c_8, if_pos c_18], show s5L vq vf vd vw vl vr n a b x = vl from by rw [s5L, if_neg c_8, if_pos c_18], show s5R vq vf vd vw vl vr n a b x = vr from by rw [s5R, if_neg c_8, if_pos c_18]]) rfl hP hS dL_ofShot_381
    · refine lv_aload hx hb dL_ofShot_363 (lv_at hl 8 rfl) ?_
      refine lv_iload_n hx hb dL_ofShot_365 rfl (lv_at hl 4 rfl) ?_
      refine rn_iald (i := a) hx hb hK hP 1 0 rfl rfl (by omega) (by omega) dL_ofShot_366 ?_
      refine lv_aload hx hb dL_ofShot_367 (lv_at hl 8 rfl) ?_
      refine lv_iload_n hx hb dL_ofShot_369 rfl (lv_at hl 4 rfl) ?_
      refine lv_iconst (v := nI 1) hx hb dL_ofShot_370 (by decide) ?_
      refine rn_add (a := a) (b := 1) hx hb dL_ofShot_371 ?_
      refine rn_iald (i := a + 1) hx hb hK hP 1 0 rfl rfl (by omega) (by omega) dL_ofShot_372 ?_
      refine lv_iadd hx hb dL_ofShot_373 ?_
      refine lv_bipush (v := nI 99) hx hb dL_ofShot_374 (by decide) ?_
      refine lv_icmp_le (tgt := 382) hx hb dL_ofShot_376 (by decide) (fun c_19 => ?_) (fun c_19 => ?_)
      · refine lv_aload hx hb dL_ofShot_382 (lv_at hl 8 rfl) ?_
        refine lv_iload_n hx hb dL_ofShot_384 rfl (lv_at hl 4 rfl) ?_
        refine lv_iconst (v := nI 1) hx hb dL_ofShot_385 (by decide) ?_
        refine rn_add (a := a) (b := 1) hx hb dL_ofShot_386 ?_
        refine lv_dup2_11 hx hb dL_ofShot_387 rfl rfl ?_
        refine rn_iald (i := a + 1) hx hb hK hP 1 0 rfl rfl (by omega) (by omega) dL_ofShot_388 ?_
        refine lv_aload hx hb dL_ofShot_389 (lv_at hl 8 rfl) ?_
        refine lv_iload_n hx hb dL_ofShot_391 rfl (lv_at hl 4 rfl) ?_
        refine rn_iald (i := a) hx hb hK hP 1 0 rfl rfl (by omega) (by omega) dL_ofShot_392 ?_
        refine lv_iadd hx hb dL_ofShot_393 ?_
        refine rn_iast (i := a + 1) hx hb hK hP (hDa.to rfl) hS 1 0 rfl rfl (by omega) (by omega) dL_ofShot_394 (fun H locs hP _ hS => ?_)
        have hP : va_P E.1 vwCl [(aq, .inl (E.2.1, 13, .inl vq)), (af, .inl (E.2.1, 21, .inl (upd vf (a + 1) (vf (a + 1) + (vf a))))), (ad, .inl (E.2.1, 63, .inl vd)), (aw, .inl (E.2.1, 63, .inl vw)), (al, .inl (E.2.1, 63, .inl vl)), (ar, .inl (E.2.1, 63, .inl vr))] H := hP
        refine lv_aload hx hb dL_ofShot_395 (lv_at hl 8 rfl) ?_
        refine lv_iload_n hx hb dL_ofShot_397 rfl (lv_at hl 4 rfl) ?_
        refine lv_iconst (v := nI 1) hx hb dL_ofShot_398 (by decide) ?_
        refine rn_add (a := a) (b := 1) hx hb dL_ofShot_399 ?_
        refine rn_iald (i := a + 1) hx hb hK hP 1 0 rfl rfl (by omega) (by omega) dL_ofShot_400 ?_
        refine lv_istore (lv' := [(12, .int ((upd vf (a + 1) (vf (a + 1) + (vf a))) (a + 1))), (11, .int (if (if (if vd (3 * a + 0) = vd (3 * a + 3 + 0) then nI 1 else nI 0) = 0 then nI 0 else if vd (3 * a + 1) = vd (3 * a + 3 + 1) then nI 1 else nI 0) = 0 then nI 0 else if vd (3 * a + 2) = vd (3 * a + 3 + 2) then nI 1 else nI 0)), (10, .int (nI 0)), (0, .int (nI 5)), (1, .int (nI a)), (2, .int (nI b)), (3, .int x), (4, .ref aq), (5, .ref af), (6, .ref ad), (7, .ref aw), (8, .ref al), (9, .ref ar)]) hx hb dL_ofShot_401 hl (by decide) rfl (fun ls hl => ?_)
        refine lv_iload_n hx hb dL_ofShot_403 rfl (lv_at hl 4 rfl) ?_
        refine lv_iconst (v := nI 1) hx hb dL_ofShot_404 (by decide) ?_
        refine rn_add (a := a) (b := 1) hx hb dL_ofShot_405 ?_
        refine lv_iconst (v := (-1)) hx hb dL_ofShot_406 (by decide) ?_
        refine lv_aload hx hb dL_ofShot_407 (lv_at hl 7 rfl) ?_
        refine lv_aload hx hb dL_ofShot_409 (lv_at hl 8 rfl) ?_
        refine lv_aload hx hb dL_ofShot_411 (lv_at hl 9 rfl) ?_
        refine lv_aload hx hb dL_ofShot_413 (lv_at hl 10 rfl) ?_
        refine lv_aload hx hb dL_ofShot_415 (lv_at hl 11 rfl) ?_
        refine lv_aload hx hb dL_ofShot_417 (lv_at hl 12 rfl) ?_
        refine rwSv8 (rest := []) S (c_L_shift_d l E (a + 1) aq af ad aw al ar vq (upd vf (a + 1) (vf (a + 1) + (vf a))) vd vw vl vr n hf hn (by omega)) cd_L_shift bw_380 ⟨Nat.le_of_ble_eq_true rfl, Nat.le_of_ble_eq_true rfl⟩ ⟨Nat.zero_le _, Nat.zero_le _⟩ hP (hDa.to rfl) hE hA hS [0, 1, 2, 3, 4, 5] rfl rfl [aq, af, ad, aw, al, ar] rfl rfl (Nat.le_of_ble_eq_true rfl) hl.1 dL_ofShot_419 (fun H locs hP _ hS => ?_)
        have hP : va_P E.1 vwCl [(aq, .inl (E.2.1, 13, .inl (upd vq 4 (nI (n - 1))))), (af, .inl (E.2.1, 21, .inl (sd1 (upd vf (a + 1) (vf (a + 1) + (vf a))) (a + 1) (n - 1)))), (ad, .inl (E.2.1, 63, .inl (sd3 vd (a + 1) (n - 1)))), (aw, .inl (E.2.1, 63, .inl (sd3 vw (a + 1) (n - 1)))), (al, .inl (E.2.1, 63, .inl (sd3 vl (a + 1) (n - 1)))), (ar, .inl (E.2.1, 63, .inl (sd3 vr (a + 1) (n - 1))))] H := hP
        refine lv_aload hx hb dL_ofShot_422 (lv_at hl 8 rfl) ?_
        refine lv_iload_n hx hb dL_ofShot_424 rfl (lv_at hl 4 rfl) ?_
        refine lv_iload hx hb dL_ofShot_425 (lv_at hl 0 rfl) ?_
        refine rn_iast (i := a) hx hb hK hP (hDa.to rfl) hS 1 0 rfl rfl (by omega) (by omega) dL_ofShot_427 (fun H locs hP _ hS => ?_)
        have hP : va_P E.1 vwCl [(aq, .inl (E.2.1, 13, .inl (upd vq 4 (nI (n - 1))))), (af, .inl (E.2.1, 21, .inl (upd (sd1 (upd vf (a + 1) (vf (a + 1) + (vf a))) (a + 1) (n - 1)) a ((upd vf (a + 1) (vf (a + 1) + (vf a))) (a + 1))))), (ad, .inl (E.2.1, 63, .inl (sd3 vd (a + 1) (n - 1)))), (aw, .inl (E.2.1, 63, .inl (sd3 vw (a + 1) (n - 1)))), (al, .inl (E.2.1, 63, .inl (sd3 vl (a + 1) (n - 1)))), (ar, .inl (E.2.1, 63, .inl (sd3 vr (a + 1) (n - 1))))] H := hP
        refine lv_iload_n hx hb dL_ofShot_428 rfl (lv_at hl 4 rfl) ?_
        refine lv_aload hx hb dL_ofShot_429 (lv_at hl 12 rfl) ?_
        refine rwSv2 (rest := []) S (c_L_forget l E a ar (sd3 vr (a + 1) (n - 1)) (by omega)) cd_L_forget bw_386 ⟨Nat.le_of_ble_eq_true rfl, Nat.le_of_ble_eq_true rfl⟩ ⟨Nat.zero_le _, Nat.zero_le _⟩ hP (hDa.to rfl) hE hA hS [5] rfl rfl [ar] rfl rfl (Nat.le_of_ble_eq_true rfl) hl.1 dL_ofShot_431 (fun H locs hP _ hS => ?_)
        have hP : va_P E.1 vwCl [(aq, .inl (E.2.1, 13, .inl (upd vq 4 (nI (n - 1))))), (af, .inl (E.2.1, 21, .inl (upd (sd1 (upd vf (a + 1) (vf (a + 1) + (vf a))) (a + 1) (n - 1)) a ((upd vf (a + 1) (vf (a + 1) + (vf a))) (a + 1))))), (ad, .inl (E.2.1, 63, .inl (sd3 vd (a + 1) (n - 1)))), (aw, .inl (E.2.1, 63, .inl (sd3 vw (a + 1) (n - 1)))), (al, .inl (E.2.1, 63, .inl (sd3 vl (a + 1) (n - 1)))), (ar, .inl (E.2.1, 63, .inl (fo3 (sd3 vr (a + 1) (n - 1)) a)))] H := hP
        refine lv_iload hx hb dL_ofShot_434 (lv_at hl 0 rfl) ?_
        exact hret _ _ _ _ _ _ (by rw [s5V, if_neg c_8, if_neg c_18, if_pos c_19]) (by rw [show s5Q vq vf vd vw vl vr n a b x = upd vq 4 (nI (n - 1)) from by rw [s5Q, if_neg c_8, if_neg c_18, if_pos c_19], show s5F vq vf vd vw vl vr n a b x = upd (sd1 (upd vf (a + 1) (vf (a + 1) + (vf a))) (a + 1) (n - 1)) a ((upd vf (a + 1) (vf (a + 1) + (vf a))) (a + 1)) from by rw [s5F, if_neg c_8, if_neg c_18, if_pos c_19], show s5D vq vf vd vw vl vr n a b x = sd3 vd (a + 1) (n - 1) from by rw [s5D, if_neg c_8, if_neg c_18, if_pos c_19], show s5W vq vf vd vw vl vr n a b x = sd3 vw (a + 1) (n - 1) from by rw [s5W, if_neg c_8, if_neg c_18, if_pos c_19], show s5L vq vf vd vw vl vr n a b x = sd3 vl (a + 1) (n - 1) from by rw [s5L, if_neg c_8, if_neg c_18, if_pos c_19], show s5R vq vf vd vw vl vr n a b x = fo3 (sd3 vr (a + 1) (n - 1)) a from by rw [s5R, if_neg c_8, if_neg c_18, if_pos c_19]]) rfl hP hS dL_ofShot_436
      · refine lv_bipush (v := (-5)) hx hb dL_ofShot_379 (by decide) ?_
        exact hret _ _ _ _ _ _ (by rw [s5V, if_neg c_8, if_neg c_18, if_neg c_19]) (by rw [show s5Q vq vf vd vw vl vr n a b x = vq from by rw [s5Q, if_neg c_8, if_neg c_18, if_neg c_19], show s5F vq vf vd vw vl vr n a b x = vf from by rw [s5F, if_neg c_8, if_neg c_18, if_neg c_19], show s5D vq vf vd vw vl vr n a b x = vd from by rw [s5D, if_neg c_8, if_neg c_18, if_neg c_19], show s5W vq vf vd vw vl vr n a b x = vw from by rw [s5W, if_neg c_8, if_neg c_18, if_neg c_19], show s5L vq vf vd vw vl vr n a b x = vl from by rw [s5L, if_neg c_8, if_neg c_18, if_neg c_19], show s5R vq vf vd vw vl vr n a b x = vr from by rw [s5R, if_neg c_8, if_neg c_18, if_neg c_19]]) rfl hP hS dL_ofShot_381

def s7V (vq : Nat → Int32) (vf : Nat → Int32) (vd : Nat → Int32) (vw : Nat → Int32) (vl : Nat → Int32) (vr : Nat → Int32) (n : Nat) (a : Nat) (b : Nat) (x : Int32) : Int32 := if vr (3 * a) = 0 then (-5) else lCv vq vl vr a
def s7Q (vq : Nat → Int32) (vf : Nat → Int32) (vd : Nat → Int32) (vw : Nat → Int32) (vl : Nat → Int32) (vr : Nat → Int32) (n : Nat) (a : Nat) (b : Nat) (x : Int32) : Nat → Int32 := if vr (3 * a) = 0 then vq else lCq vq vl vr a
def s7F (vq : Nat → Int32) (vf : Nat → Int32) (vd : Nat → Int32) (vw : Nat → Int32) (vl : Nat → Int32) (vr : Nat → Int32) (n : Nat) (a : Nat) (b : Nat) (x : Int32) : Nat → Int32 := vf
def s7D (vq : Nat → Int32) (vf : Nat → Int32) (vd : Nat → Int32) (vw : Nat → Int32) (vl : Nat → Int32) (vr : Nat → Int32) (n : Nat) (a : Nat) (b : Nat) (x : Int32) : Nat → Int32 := vd
def s7W (vq : Nat → Int32) (vf : Nat → Int32) (vd : Nat → Int32) (vw : Nat → Int32) (vl : Nat → Int32) (vr : Nat → Int32) (n : Nat) (a : Nat) (b : Nat) (x : Int32) : Nat → Int32 := vw
def s7L (vq : Nat → Int32) (vf : Nat → Int32) (vd : Nat → Int32) (vw : Nat → Int32) (vl : Nat → Int32) (vr : Nat → Int32) (n : Nat) (a : Nat) (b : Nat) (x : Int32) : Nat → Int32 := if vr (3 * a) = 0 then vl else lCl vq vl vr a
def s7R (vq : Nat → Int32) (vf : Nat → Int32) (vd : Nat → Int32) (vw : Nat → Int32) (vl : Nat → Int32) (vr : Nat → Int32) (n : Nat) (a : Nat) (b : Nat) (x : Int32) : Nat → Int32 := if vr (3 * a) = 0 then vr else lCr vq vl vr a
set_option maxHeartbeats 4000000 in
set_option maxRecDepth 100000 in
theorem c_L_ofShot_7 (l : Launch) (E : EV) (a : Nat) (b : Nat) (x : Int32) (aq : Nat) (af : Nat) (ad : Nat) (aw : Nat) (al : Nat) (ar : Nat) (vq : Nat → Int32) (vf : Nat → Int32) (vd : Nat → Int32) (vw : Nat → Int32) (vl : Nat → Int32) (vr : Nat → Int32) (n : Nat) (hf : vq 4 = nI n) (hn : n ≤ 20) (ha : a < n) (hst : ¬ vq 0 = 0) : rcI l E yL_ofShot cL_ofShot 13 .int 3 [.int (nI 7), .int (nI a), .int (nI b), .int x, .ref aq, .ref af, .ref ad, .ref aw, .ref al, .ref ar] [(aq, .inl (E.2.1, 13, .inl vq)), (af, .inl (E.2.1, 21, .inl vf)), (ad, .inl (E.2.1, 63, .inl vd)), (aw, .inl (E.2.1, 63, .inl vw)), (al, .inl (E.2.1, 63, .inl vl)), (ar, .inl (E.2.1, 63, .inl vr))] (s7V vq vf vd vw vl vr n a b x) [(aq, .inl (E.2.1, 13, .inl (s7Q vq vf vd vw vl vr n a b x))), (af, .inl (E.2.1, 21, .inl (s7F vq vf vd vw vl vr n a b x))), (ad, .inl (E.2.1, 63, .inl (s7D vq vf vd vw vl vr n a b x))), (aw, .inl (E.2.1, 63, .inl (s7W vq vf vd vw vl vr n a b x))), (al, .inl (E.2.1, 63, .inl (s7L vq vf vd vw vl vr n a b x))), (ar, .inl (E.2.1, 63, .inl (s7R vq vf vd vw vl vr n a b x)))] := by
  refine rcI_of (by decide) (Nat.le_of_ble_eq_true rfl) ?_
  intro pg e s m below meth c Q A ls S hP hD0 hE hA hl hret
  have hx := S.1
  have hb := S.2.1
  have hown := S.2.2.2.1
  have hts := S.2.2.2.2
  have hK := hE.1
  have hS : va_S A s.heap s.heap [] := va_S.rf
  have hDa : va_Da A [aq, af, ad, aw, al, ar] := ⟨_, hD0, rfl⟩
  have hl : lv_has ls 13 [(0, .int (nI 7)), (1, .int (nI a)), (2, .int (nI b)), (3, .int x), (4, .ref aq), (5, .ref af), (6, .ref ad), (7, .ref aw), (8, .ref al), (9, .ref ar)] := hl
  refine lv_iload_n hx hb dL_ofShot_0 rfl (lv_at hl 0 rfl) ?_
  refine lv_iconst (v := nI 1) hx hb dL_ofShot_1 (by decide) ?_
  refine rn_icmp_ne (a := 7) (b := 1) (tgt := 16) hx hb (by omega) (by omega) dL_ofShot_2 (by decide) (fun c_1 => ?_) (fun c_1 => absurd c_1 (by omega))
  refine lv_iload_n hx hb dL_ofShot_16 rfl (lv_at hl 0 rfl) ?_
  refine lv_iconst (v := nI 2) hx hb dL_ofShot_17 (by decide) ?_
  refine rn_icmp_ne (a := 7) (b := 2) (tgt := 35) hx hb (by omega) (by omega) dL_ofShot_18 (by decide) (fun c_2 => ?_) (fun c_2 => absurd c_2 (by omega))
  refine lv_iconst (v := nI 0) hx hb dL_ofShot_35 (by decide) ?_
  refine lv_istore (lv' := [(10, .int (nI 0)), (0, .int (nI 7)), (1, .int (nI a)), (2, .int (nI b)), (3, .int x), (4, .ref aq), (5, .ref af), (6, .ref ad), (7, .ref aw), (8, .ref al), (9, .ref ar)]) hx hb dL_ofShot_36 hl (by decide) rfl (fun ls hl => ?_)
  refine lv_iload_n hx hb dL_ofShot_38 rfl (lv_at hl 1 rfl) ?_
  refine lv_iconst (v := nI 1) hx hb dL_ofShot_39 (by decide) ?_
  refine rn_icmp_ne (a := 7) (b := 1) (tgt := 60) hx hb (by omega) (by omega) dL_ofShot_40 (by decide) (fun c_3 => ?_) (fun c_3 => absurd c_3 (by omega))
  refine lv_iload_n hx hb dL_ofShot_60 rfl (lv_at hl 1 rfl) ?_
  refine lv_iconst (v := nI 2) hx hb dL_ofShot_61 (by decide) ?_
  refine rn_icmp_ne (a := 7) (b := 2) (tgt := 85) hx hb (by omega) (by omega) dL_ofShot_62 (by decide) (fun c_4 => ?_) (fun c_4 => absurd c_4 (by omega))
  refine lv_iload_n hx hb dL_ofShot_85 rfl (lv_at hl 1 rfl) ?_
  refine lv_iconst (v := nI 3) hx hb dL_ofShot_86 (by decide) ?_
  refine rn_icmp_ne (a := 7) (b := 3) (tgt := 185) hx hb (by omega) (by omega) dL_ofShot_87 (by decide) (fun c_5 => ?_) (fun c_5 => absurd c_5 (by omega))
  refine lv_iload_n hx hb dL_ofShot_185 rfl (lv_at hl 1 rfl) ?_
  refine lv_iconst (v := nI 4) hx hb dL_ofShot_186 (by decide) ?_
  refine rn_icmp_ne (a := 7) (b := 4) (tgt := 279) hx hb (by omega) (by omega) dL_ofShot_187 (by decide) (fun c_6 => ?_) (fun c_6 => absurd c_6 (by omega))
  refine lv_iload_n hx hb dL_ofShot_279 rfl (lv_at hl 1 rfl) ?_
  refine lv_iconst (v := nI 5) hx hb dL_ofShot_280 (by decide) ?_
  refine rn_icmp_ne (a := 7) (b := 5) (tgt := 437) hx hb (by omega) (by omega) dL_ofShot_281 (by decide) (fun c_7 => ?_) (fun c_7 => absurd c_7 (by omega))
  refine lv_iload_n hx hb dL_ofShot_437 rfl (lv_at hl 1 rfl) ?_
  refine lv_bipush (v := nI 7) hx hb dL_ofShot_438 (by decide) ?_
  refine rn_icmp_ne (a := 7) (b := 7) (tgt := 468) hx hb (by omega) (by omega) dL_ofShot_440 (by decide) (fun c_8 => absurd c_8 (by omega)) (fun c_8 => ?_)
  refine lv_aload hx hb dL_ofShot_443 (lv_at hl 10 rfl) ?_
  refine lv_iconst (v := nI 3) hx hb dL_ofShot_445 (by decide) ?_
  refine lv_iload_n hx hb dL_ofShot_446 rfl (lv_at hl 2 rfl) ?_
  refine rn_mul (a := 3) (b := a) hx hb dL_ofShot_447 ?_
  refine rn_iald (i := 3 * a) hx hb hK hP 5 0 rfl rfl (by omega) (by omega) dL_ofShot_448 ?_
  refine lv_if_ne (tgt := 457) hx hb dL_ofShot_449 (by decide) (fun c_9 => ?_) (fun c_9 => ?_)
  · refine lv_iload_n hx hb dL_ofShot_457 rfl (lv_at hl 2 rfl) ?_
    refine lv_aload hx hb dL_ofShot_458 (lv_at hl 5 rfl) ?_
    refine lv_aload hx hb dL_ofShot_460 (lv_at hl 9 rfl) ?_
    refine lv_aload hx hb dL_ofShot_462 (lv_at hl 10 rfl) ?_
    refine rwS4 (rest := []) S (c_L_corrects l E a aq al ar vq vl vr (by omega) hst) cd_L_corrects bw_395 ⟨Nat.le_of_ble_eq_true rfl, Nat.le_of_ble_eq_true rfl⟩ ⟨Nat.zero_le _, Nat.zero_le _⟩ hP (hDa.to rfl) hE hA hS [0, 4, 5] rfl rfl [aq, al, ar] rfl rfl (Nat.le_of_ble_eq_true rfl) hl.1 dL_ofShot_464 (fun H locs hP _ hS => ?_)
    have hP : va_P E.1 vwCl [(aq, .inl (E.2.1, 13, .inl (lCq vq vl vr a))), (af, .inl (E.2.1, 21, .inl vf)), (ad, .inl (E.2.1, 63, .inl vd)), (aw, .inl (E.2.1, 63, .inl vw)), (al, .inl (E.2.1, 63, .inl (lCl vq vl vr a))), (ar, .inl (E.2.1, 63, .inl (lCr vq vl vr a)))] H := hP
    exact hret _ _ _ _ _ _ (by rw [s7V, if_neg c_9]) (by rw [show s7Q vq vf vd vw vl vr n a b x = lCq vq vl vr a from by rw [s7Q, if_neg c_9], show s7F vq vf vd vw vl vr n a b x = vf from by rw [s7F], show s7D vq vf vd vw vl vr n a b x = vd from by rw [s7D], show s7W vq vf vd vw vl vr n a b x = vw from by rw [s7W], show s7L vq vf vd vw vl vr n a b x = lCl vq vl vr a from by rw [s7L, if_neg c_9], show s7R vq vf vd vw vl vr n a b x = lCr vq vl vr a from by rw [s7R, if_neg c_9]]) rfl hP hS dL_ofShot_467
  · refine lv_bipush (v := (-5)) hx hb dL_ofShot_452 (by decide) ?_
    refine lv_goto (tgt := 467) hx hb dL_ofShot_454 (by decide) ?_
    exact hret _ _ _ _ _ _ (by rw [s7V, if_pos c_9]) (by rw [show s7Q vq vf vd vw vl vr n a b x = vq from by rw [s7Q, if_pos c_9], show s7F vq vf vd vw vl vr n a b x = vf from by rw [s7F], show s7D vq vf vd vw vl vr n a b x = vd from by rw [s7D], show s7W vq vf vd vw vl vr n a b x = vw from by rw [s7W], show s7L vq vf vd vw vl vr n a b x = vl from by rw [s7L, if_pos c_9], show s7R vq vf vd vw vl vr n a b x = vr from by rw [s7R, if_pos c_9]]) rfl hP hS dL_ofShot_467

def s12V (vq : Nat → Int32) (vf : Nat → Int32) (vd : Nat → Int32) (vw : Nat → Int32) (vl : Nat → Int32) (vr : Nat → Int32) (n : Nat) (a : Nat) (b : Nat) (x : Int32) : Int32 := nI (n - 1)
def s12Q (vq : Nat → Int32) (vf : Nat → Int32) (vd : Nat → Int32) (vw : Nat → Int32) (vl : Nat → Int32) (vr : Nat → Int32) (n : Nat) (a : Nat) (b : Nat) (x : Int32) : Nat → Int32 := upd vq 4 (nI (n - 1))
def s12F (vq : Nat → Int32) (vf : Nat → Int32) (vd : Nat → Int32) (vw : Nat → Int32) (vl : Nat → Int32) (vr : Nat → Int32) (n : Nat) (a : Nat) (b : Nat) (x : Int32) : Nat → Int32 := sd1 vf a (n - 1)
def s12D (vq : Nat → Int32) (vf : Nat → Int32) (vd : Nat → Int32) (vw : Nat → Int32) (vl : Nat → Int32) (vr : Nat → Int32) (n : Nat) (a : Nat) (b : Nat) (x : Int32) : Nat → Int32 := sd3 vd a (n - 1)
def s12W (vq : Nat → Int32) (vf : Nat → Int32) (vd : Nat → Int32) (vw : Nat → Int32) (vl : Nat → Int32) (vr : Nat → Int32) (n : Nat) (a : Nat) (b : Nat) (x : Int32) : Nat → Int32 := sd3 vw a (n - 1)
def s12L (vq : Nat → Int32) (vf : Nat → Int32) (vd : Nat → Int32) (vw : Nat → Int32) (vl : Nat → Int32) (vr : Nat → Int32) (n : Nat) (a : Nat) (b : Nat) (x : Int32) : Nat → Int32 := sd3 vl a (n - 1)
def s12R (vq : Nat → Int32) (vf : Nat → Int32) (vd : Nat → Int32) (vw : Nat → Int32) (vl : Nat → Int32) (vr : Nat → Int32) (n : Nat) (a : Nat) (b : Nat) (x : Int32) : Nat → Int32 := sd3 vr a (n - 1)
set_option maxHeartbeats 4000000 in
set_option maxRecDepth 100000 in
theorem c_L_ofShot_12 (l : Launch) (E : EV) (a : Nat) (b : Nat) (x : Int32) (aq : Nat) (af : Nat) (ad : Nat) (aw : Nat) (al : Nat) (ar : Nat) (vq : Nat → Int32) (vf : Nat → Int32) (vd : Nat → Int32) (vw : Nat → Int32) (vl : Nat → Int32) (vr : Nat → Int32) (n : Nat) (hf : vq 4 = nI n) (hn : n ≤ 20) (ha : a < n) : rcI l E yL_ofShot cL_ofShot 13 .int 3 [.int (nI 12), .int (nI a), .int (nI b), .int x, .ref aq, .ref af, .ref ad, .ref aw, .ref al, .ref ar] [(aq, .inl (E.2.1, 13, .inl vq)), (af, .inl (E.2.1, 21, .inl vf)), (ad, .inl (E.2.1, 63, .inl vd)), (aw, .inl (E.2.1, 63, .inl vw)), (al, .inl (E.2.1, 63, .inl vl)), (ar, .inl (E.2.1, 63, .inl vr))] (s12V vq vf vd vw vl vr n a b x) [(aq, .inl (E.2.1, 13, .inl (s12Q vq vf vd vw vl vr n a b x))), (af, .inl (E.2.1, 21, .inl (s12F vq vf vd vw vl vr n a b x))), (ad, .inl (E.2.1, 63, .inl (s12D vq vf vd vw vl vr n a b x))), (aw, .inl (E.2.1, 63, .inl (s12W vq vf vd vw vl vr n a b x))), (al, .inl (E.2.1, 63, .inl (s12L vq vf vd vw vl vr n a b x))), (ar, .inl (E.2.1, 63, .inl (s12R vq vf vd vw vl vr n a b x)))] := by
  refine rcI_of (by decide) (Nat.le_of_ble_eq_true rfl) ?_
  intro pg e s m below meth c Q A ls S hP hD0 hE hA hl hret
  have hx := S.1
  have hb := S.2.1
  have hown := S.2.2.2.1
  have hts := S.2.2.2.2
  have hK := hE.1
  have hS : va_S A s.heap s.heap [] := va_S.rf
  have hDa : va_Da A [aq, af, ad, aw, al, ar] := ⟨_, hD0, rfl⟩
  have hl : lv_has ls 13 [(0, .int (nI 12)), (1, .int (nI a)), (2, .int (nI b)), (3, .int x), (4, .ref aq), (5, .ref af), (6, .ref ad), (7, .ref aw), (8, .ref al), (9, .ref ar)] := hl
  refine lv_iload_n hx hb dL_ofShot_0 rfl (lv_at hl 0 rfl) ?_
  refine lv_iconst (v := nI 1) hx hb dL_ofShot_1 (by decide) ?_
  refine rn_icmp_ne (a := 12) (b := 1) (tgt := 16) hx hb (by omega) (by omega) dL_ofShot_2 (by decide) (fun c_1 => ?_) (fun c_1 => absurd c_1 (by omega))
  refine lv_iload_n hx hb dL_ofShot_16 rfl (lv_at hl 0 rfl) ?_
  refine lv_iconst (v := nI 2) hx hb dL_ofShot_17 (by decide) ?_
  refine rn_icmp_ne (a := 12) (b := 2) (tgt := 35) hx hb (by omega) (by omega) dL_ofShot_18 (by decide) (fun c_2 => ?_) (fun c_2 => absurd c_2 (by omega))
  refine lv_iconst (v := nI 0) hx hb dL_ofShot_35 (by decide) ?_
  refine lv_istore (lv' := [(10, .int (nI 0)), (0, .int (nI 12)), (1, .int (nI a)), (2, .int (nI b)), (3, .int x), (4, .ref aq), (5, .ref af), (6, .ref ad), (7, .ref aw), (8, .ref al), (9, .ref ar)]) hx hb dL_ofShot_36 hl (by decide) rfl (fun ls hl => ?_)
  refine lv_iload_n hx hb dL_ofShot_38 rfl (lv_at hl 1 rfl) ?_
  refine lv_iconst (v := nI 1) hx hb dL_ofShot_39 (by decide) ?_
  refine rn_icmp_ne (a := 12) (b := 1) (tgt := 60) hx hb (by omega) (by omega) dL_ofShot_40 (by decide) (fun c_3 => ?_) (fun c_3 => absurd c_3 (by omega))
  refine lv_iload_n hx hb dL_ofShot_60 rfl (lv_at hl 1 rfl) ?_
  refine lv_iconst (v := nI 2) hx hb dL_ofShot_61 (by decide) ?_
  refine rn_icmp_ne (a := 12) (b := 2) (tgt := 85) hx hb (by omega) (by omega) dL_ofShot_62 (by decide) (fun c_4 => ?_) (fun c_4 => absurd c_4 (by omega))
  refine lv_iload_n hx hb dL_ofShot_85 rfl (lv_at hl 1 rfl) ?_
  refine lv_iconst (v := nI 3) hx hb dL_ofShot_86 (by decide) ?_
  refine rn_icmp_ne (a := 12) (b := 3) (tgt := 185) hx hb (by omega) (by omega) dL_ofShot_87 (by decide) (fun c_5 => ?_) (fun c_5 => absurd c_5 (by omega))
  refine lv_iload_n hx hb dL_ofShot_185 rfl (lv_at hl 1 rfl) ?_
  refine lv_iconst (v := nI 4) hx hb dL_ofShot_186 (by decide) ?_
  refine rn_icmp_ne (a := 12) (b := 4) (tgt := 279) hx hb (by omega) (by omega) dL_ofShot_187 (by decide) (fun c_6 => ?_) (fun c_6 => absurd c_6 (by omega))
  refine lv_iload_n hx hb dL_ofShot_279 rfl (lv_at hl 1 rfl) ?_
  refine lv_iconst (v := nI 5) hx hb dL_ofShot_280 (by decide) ?_
  refine rn_icmp_ne (a := 12) (b := 5) (tgt := 437) hx hb (by omega) (by omega) dL_ofShot_281 (by decide) (fun c_7 => ?_) (fun c_7 => absurd c_7 (by omega))
  refine lv_iload_n hx hb dL_ofShot_437 rfl (lv_at hl 1 rfl) ?_
  refine lv_bipush (v := nI 7) hx hb dL_ofShot_438 (by decide) ?_
  refine rn_icmp_ne (a := 12) (b := 7) (tgt := 468) hx hb (by omega) (by omega) dL_ofShot_440 (by decide) (fun c_8 => ?_) (fun c_8 => absurd c_8 (by omega))
  refine lv_iload_n hx hb dL_ofShot_468 rfl (lv_at hl 2 rfl) ?_
  refine lv_iconst (v := (-1)) hx hb dL_ofShot_469 (by decide) ?_
  refine lv_aload hx hb dL_ofShot_470 (lv_at hl 5 rfl) ?_
  refine lv_aload hx hb dL_ofShot_472 (lv_at hl 6 rfl) ?_
  refine lv_aload hx hb dL_ofShot_474 (lv_at hl 7 rfl) ?_
  refine lv_aload hx hb dL_ofShot_476 (lv_at hl 8 rfl) ?_
  refine lv_aload hx hb dL_ofShot_478 (lv_at hl 9 rfl) ?_
  refine lv_aload hx hb dL_ofShot_480 (lv_at hl 10 rfl) ?_
  refine rwSv8 (rest := []) S (c_L_shift_d l E a aq af ad aw al ar vq vf vd vw vl vr n hf hn ha) cd_L_shift bw_380 ⟨Nat.le_of_ble_eq_true rfl, Nat.le_of_ble_eq_true rfl⟩ ⟨Nat.zero_le _, Nat.zero_le _⟩ hP (hDa.to rfl) hE hA hS [0, 1, 2, 3, 4, 5] rfl rfl [aq, af, ad, aw, al, ar] rfl rfl (Nat.le_of_ble_eq_true rfl) hl.1 dL_ofShot_482 (fun H locs hP _ hS => ?_)
  have hP : va_P E.1 vwCl [(aq, .inl (E.2.1, 13, .inl (upd vq 4 (nI (n - 1))))), (af, .inl (E.2.1, 21, .inl (sd1 vf a (n - 1)))), (ad, .inl (E.2.1, 63, .inl (sd3 vd a (n - 1)))), (aw, .inl (E.2.1, 63, .inl (sd3 vw a (n - 1)))), (al, .inl (E.2.1, 63, .inl (sd3 vl a (n - 1)))), (ar, .inl (E.2.1, 63, .inl (sd3 vr a (n - 1))))] H := hP
  refine lv_aload hx hb dL_ofShot_485 (lv_at hl 5 rfl) ?_
  refine lv_iconst (v := nI 4) hx hb dL_ofShot_487 (by decide) ?_
  refine rn_iald (i := 4) hx hb hK hP 0 0 rfl rfl (by omega) (by omega) dL_ofShot_488 ?_
  refine W.eq (congrArg (fun z => F0 m 489 ls (.int z :: [])) (show (upd vq 4 (nI (n - 1))) 4 = nI (n - 1) from pk_us)) ?_
  exact hret _ _ _ _ _ _ (by rw [s12V]) (by rw [show s12Q vq vf vd vw vl vr n a b x = upd vq 4 (nI (n - 1)) from by rw [s12Q], show s12F vq vf vd vw vl vr n a b x = sd1 vf a (n - 1) from by rw [s12F], show s12D vq vf vd vw vl vr n a b x = sd3 vd a (n - 1) from by rw [s12D], show s12W vq vf vd vw vl vr n a b x = sd3 vw a (n - 1) from by rw [s12W], show s12L vq vf vd vw vl vr n a b x = sd3 vl a (n - 1) from by rw [s12L], show s12R vq vf vd vw vl vr n a b x = sd3 vr a (n - 1) from by rw [s12R]]) rfl hP hS dL_ofShot_489

theorem cd_L_due : cdS yL_due cL_due 13 (some .int) 10 := ⟨⟨bw_379, bw_1, by decide, by decide, by decide +kernel⟩, bw_378⟩
def u0V (vq : Nat → Int32) (vf : Nat → Int32) (vd : Nat → Int32) (vw : Nat → Int32) (vl : Nat → Int32) (vr : Nat → Int32) (n : Nat) (a : Nat) (b : Nat) (x : Int32) : Int32 := if n < a then (-1) else if n = 20 then (-4) else nI (n + 1)
def u0Q (vq : Nat → Int32) (vf : Nat → Int32) (vd : Nat → Int32) (vw : Nat → Int32) (vl : Nat → Int32) (vr : Nat → Int32) (n : Nat) (a : Nat) (b : Nat) (x : Int32) : Nat → Int32 := if n < a then vq else if n = 20 then vq else upd vq 4 (nI (n + 1))
def u0F (vq : Nat → Int32) (vf : Nat → Int32) (vd : Nat → Int32) (vw : Nat → Int32) (vl : Nat → Int32) (vr : Nat → Int32) (n : Nat) (a : Nat) (b : Nat) (x : Int32) : Nat → Int32 := if n < a then vf else if n = 20 then vf else upd (su1 vf n a) a (nI (1 + lowN x 99))
def u0D (vq : Nat → Int32) (vf : Nat → Int32) (vd : Nat → Int32) (vw : Nat → Int32) (vl : Nat → Int32) (vr : Nat → Int32) (n : Nat) (a : Nat) (b : Nat) (x : Int32) : Nat → Int32 := if n < a then vd else if n = 20 then vd else upd (upd (upd (su3 vd n a) (3 * a + 0) (nI (lowN (x >>> (nI 7 &&& 31)) 51))) (3 * a + 1) (nI (lowN (x >>> (nI 9 &&& 31)) 51))) (3 * a + 2) (nI (lowN (x >>> (nI 11 &&& 31)) 51))
def u0W (vq : Nat → Int32) (vf : Nat → Int32) (vd : Nat → Int32) (vw : Nat → Int32) (vl : Nat → Int32) (vr : Nat → Int32) (n : Nat) (a : Nat) (b : Nat) (x : Int32) : Nat → Int32 := if n < a then vw else if n = 20 then vw else upd (upd (upd (su3 vw n a) (3 * a + 0) (nI 0)) (3 * a + 1) (nI 0)) (3 * a + 2) (nI 0)
def u0L (vq : Nat → Int32) (vf : Nat → Int32) (vd : Nat → Int32) (vw : Nat → Int32) (vl : Nat → Int32) (vr : Nat → Int32) (n : Nat) (a : Nat) (b : Nat) (x : Int32) : Nat → Int32 := if n < a then vl else if n = 20 then vl else upd (upd (upd (su3 vl n a) (3 * a + 0) (nI 25)) (3 * a + 1) (nI 25)) (3 * a + 2) (nI 25)
def u0R (vq : Nat → Int32) (vf : Nat → Int32) (vd : Nat → Int32) (vw : Nat → Int32) (vl : Nat → Int32) (vr : Nat → Int32) (n : Nat) (a : Nat) (b : Nat) (x : Int32) : Nat → Int32 := if n < a then vr else if n = 20 then vr else fo3 (su3 vr n a) a
set_option maxHeartbeats 4000000 in
set_option maxRecDepth 100000 in
theorem c_L_due_0 (l : Launch) (E : EV) (a : Nat) (b : Nat) (x : Int32) (aq : Nat) (af : Nat) (ad : Nat) (aw : Nat) (al : Nat) (ar : Nat) (vq : Nat → Int32) (vf : Nat → Int32) (vd : Nat → Int32) (vw : Nat → Int32) (vl : Nat → Int32) (vr : Nat → Int32) (n : Nat) (hf : vq 4 = nI n) (hn : n ≤ 20) : rcI l E yL_due cL_due 13 .int 4 [.int (nI 0), .int (nI a), .int (nI b), .int x, .ref aq, .ref af, .ref ad, .ref aw, .ref al, .ref ar] [(aq, .inl (E.2.1, 13, .inl vq)), (af, .inl (E.2.1, 21, .inl vf)), (ad, .inl (E.2.1, 63, .inl vd)), (aw, .inl (E.2.1, 63, .inl vw)), (al, .inl (E.2.1, 63, .inl vl)), (ar, .inl (E.2.1, 63, .inl vr))] (u0V vq vf vd vw vl vr n a b x) [(aq, .inl (E.2.1, 13, .inl (u0Q vq vf vd vw vl vr n a b x))), (af, .inl (E.2.1, 21, .inl (u0F vq vf vd vw vl vr n a b x))), (ad, .inl (E.2.1, 63, .inl (u0D vq vf vd vw vl vr n a b x))), (aw, .inl (E.2.1, 63, .inl (u0W vq vf vd vw vl vr n a b x))), (al, .inl (E.2.1, 63, .inl (u0L vq vf vd vw vl vr n a b x))), (ar, .inl (E.2.1, 63, .inl (u0R vq vf vd vw vl vr n a b x)))] := by
  refine rcI_of (by decide) (Nat.le_of_ble_eq_true rfl) ?_
  intro pg e s m below meth c Q A ls S hP hD0 hE hA hl hret
  have hx := S.1
  have hb := S.2.1
  have hown := S.2.2.2.1
  have hts := S.2.2.2.2
  have hK := hE.1
  have hS : va_S A s.heap s.heap [] := va_S.rf
  have hDa : va_Da A [aq, af, ad, aw, al, ar] := ⟨_, hD0, rfl⟩
  have hl : lv_has ls 13 [(0, .int (nI 0)), (1, .int (nI a)), (2, .int (nI b)), (3, .int x), (4, .ref aq), (5, .ref af), (6, .ref ad), (7, .ref aw), (8, .ref al), (9, .ref ar)] := hl
  refine lv_iload_n hx hb dL_due_0 rfl (lv_at hl 0 rfl) ?_
  refine lv_if_ne (tgt := 135) hx hb dL_due_1 (by decide) (fun c9 => by first | exact absurd c9 (by decide) | exact absurd (by decide) c9) (fun _ => ?_)
  refine lv_iload_n hx hb dL_due_4 rfl (lv_at hl 1 rfl) ?_
  refine lv_aload hx hb dL_due_5 (lv_at hl 4 rfl) ?_
  refine lv_iconst (v := nI 4) hx hb dL_due_7 (by decide) ?_
  refine rn_iald (i := 4) hx hb hK hP 0 0 rfl rfl (by omega) (by omega) dL_due_8 ?_
  refine W.eq (congrArg (fun z => F0 m 9 ls (.int z :: [.int (nI a)])) (show vq 4 = nI n from hf)) ?_
  refine rn_icmp_gt (a := a) (b := n) (tgt := 21) hx hb (by omega) (by omega) dL_due_9 (by decide) (fun c_1 => ?_) (fun c_1 => ?_)
  · refine lv_iload_n hx hb dL_due_21 rfl (lv_at hl 1 rfl) ?_
    refine lv_aload hx hb dL_due_22 (lv_at hl 4 rfl) ?_
    refine lv_iconst (v := nI 4) hx hb dL_due_24 (by decide) ?_
    refine rn_iald (i := 4) hx hb hK hP 0 0 rfl rfl (by omega) (by omega) dL_due_25 ?_
    refine W.eq (congrArg (fun z => F0 m 26 ls (.int z :: [.int (nI a)])) (show vq 4 = nI n from hf)) ?_
    refine rn_icmp_le (a := a) (b := n) (tgt := 33) hx hb (by omega) (by omega) dL_due_26 (by decide) (fun c_2 => absurd c_2 (by omega)) (fun c_2 => ?_)
    refine lv_iconst (v := (-1)) hx hb dL_due_29 (by decide) ?_
    refine lv_goto (tgt := 35) hx hb dL_due_30 (by decide) ?_
    exact hret _ _ _ _ _ _ (by rw [u0V, if_pos c_1]) (by rw [show u0Q vq vf vd vw vl vr n a b x = vq from by rw [u0Q, if_pos c_1], show u0F vq vf vd vw vl vr n a b x = vf from by rw [u0F, if_pos c_1], show u0D vq vf vd vw vl vr n a b x = vd from by rw [u0D, if_pos c_1], show u0W vq vf vd vw vl vr n a b x = vw from by rw [u0W, if_pos c_1], show u0L vq vf vd vw vl vr n a b x = vl from by rw [u0L, if_pos c_1], show u0R vq vf vd vw vl vr n a b x = vr from by rw [u0R, if_pos c_1]]) rfl hP hS dL_due_35
  · refine lv_aload hx hb dL_due_12 (lv_at hl 4 rfl) ?_
    refine lv_iconst (v := nI 4) hx hb dL_due_14 (by decide) ?_
    refine rn_iald (i := 4) hx hb hK hP 0 0 rfl rfl (by omega) (by omega) dL_due_15 ?_
    refine W.eq (congrArg (fun z => F0 m 16 ls (.int z :: [])) (show vq 4 = nI n from hf)) ?_
    refine lv_bipush (v := nI 20) hx hb dL_due_16 (by decide) ?_
    refine rn_icmp_ne (a := n) (b := 20) (tgt := 36) hx hb (by omega) (by omega) dL_due_18 (by decide) (fun c_3 => ?_) (fun c_3 => ?_)
    · refine lv_iload_n hx hb dL_due_36 rfl (lv_at hl 1 rfl) ?_
      refine lv_iconst (v := nI 1) hx hb dL_due_37 (by decide) ?_
      refine lv_aload hx hb dL_due_38 (lv_at hl 4 rfl) ?_
      refine lv_aload hx hb dL_due_40 (lv_at hl 5 rfl) ?_
      refine lv_aload hx hb dL_due_42 (lv_at hl 6 rfl) ?_
      refine lv_aload hx hb dL_due_44 (lv_at hl 7 rfl) ?_
      refine lv_aload hx hb dL_due_46 (lv_at hl 8 rfl) ?_
      refine lv_aload hx hb dL_due_48 (lv_at hl 9 rfl) ?_
      refine rwSv8 (rest := []) S (c_L_shift_u l E a aq af ad aw al ar vq vf vd vw vl vr n hf hn (by omega)) cd_L_shift bw_380 ⟨Nat.le_of_ble_eq_true rfl, Nat.le_of_ble_eq_true rfl⟩ ⟨Nat.zero_le _, Nat.zero_le _⟩ hP (hDa.to rfl) hE hA hS [0, 1, 2, 3, 4, 5] rfl rfl [aq, af, ad, aw, al, ar] rfl rfl (Nat.le_of_ble_eq_true rfl) hl.1 dL_due_50 (fun H locs hP _ hS => ?_)
      have hP : va_P E.1 vwCl [(aq, .inl (E.2.1, 13, .inl (upd vq 4 (nI (n + 1))))), (af, .inl (E.2.1, 21, .inl (su1 vf n a))), (ad, .inl (E.2.1, 63, .inl (su3 vd n a))), (aw, .inl (E.2.1, 63, .inl (su3 vw n a))), (al, .inl (E.2.1, 63, .inl (su3 vl n a))), (ar, .inl (E.2.1, 63, .inl (su3 vr n a)))] H := hP
      refine lv_aload hx hb dL_due_53 (lv_at hl 5 rfl) ?_
      refine lv_iload_n hx hb dL_due_55 rfl (lv_at hl 1 rfl) ?_
      refine lv_iconst (v := nI 1) hx hb dL_due_56 (by decide) ?_
      refine lv_iload_n hx hb dL_due_57 rfl (lv_at hl 3 rfl) ?_
      refine lv_bipush (v := nI 99) hx hb dL_due_58 (by decide) ?_
      refine rwS2 (rest := [.int (nI 1), .int (nI a), .ref af]) S (c_L_low l E x 99 (by omega) (by omega)) cd_L_low bw_140 ⟨Nat.le_of_ble_eq_true rfl, Nat.le_of_ble_eq_true rfl⟩ ⟨Nat.zero_le _, Nat.zero_le _⟩ hP (hDa.to rfl) hE hA hS [] rfl rfl [] rfl rfl (Nat.le_of_ble_eq_true rfl) hl.1 dL_due_60 (fun H locs hP _ hS => ?_)
      have hP : va_P E.1 vwCl [(aq, .inl (E.2.1, 13, .inl (upd vq 4 (nI (n + 1))))), (af, .inl (E.2.1, 21, .inl (su1 vf n a))), (ad, .inl (E.2.1, 63, .inl (su3 vd n a))), (aw, .inl (E.2.1, 63, .inl (su3 vw n a))), (al, .inl (E.2.1, 63, .inl (su3 vl n a))), (ar, .inl (E.2.1, 63, .inl (su3 vr n a)))] H := hP
      refine rn_add (a := 1) (b := lowN x 99) hx hb dL_due_63 ?_
      refine rn_iast (i := a) hx hb hK hP (hDa.to rfl) hS 1 0 rfl rfl (by omega) (by omega) dL_due_64 (fun H locs hP _ hS => ?_)
      have hP : va_P E.1 vwCl [(aq, .inl (E.2.1, 13, .inl (upd vq 4 (nI (n + 1))))), (af, .inl (E.2.1, 21, .inl (upd (su1 vf n a) a (nI (1 + lowN x 99))))), (ad, .inl (E.2.1, 63, .inl (su3 vd n a))), (aw, .inl (E.2.1, 63, .inl (su3 vw n a))), (al, .inl (E.2.1, 63, .inl (su3 vl n a))), (ar, .inl (E.2.1, 63, .inl (su3 vr n a)))] H := hP
      refine lv_iconst (v := nI 0) hx hb dL_due_65 (by decide) ?_
      refine lv_istore (lv' := [(10, .int (nI 0)), (0, .int (nI 0)), (1, .int (nI a)), (2, .int (nI b)), (3, .int x), (4, .ref aq), (5, .ref af), (6, .ref ad), (7, .ref aw), (8, .ref al), (9, .ref ar)]) hx hb dL_due_66 hl (by decide) rfl (fun ls hl => ?_)
      refine lv_iload hx hb dL_due_68 (lv_at hl 0 rfl) ?_
      refine lv_iconst (v := nI 3) hx hb dL_due_70 (by decide) ?_
      refine rn_icmp_ge (a := 0) (b := 3) (tgt := 124) hx hb (by omega) (by omega) dL_due_71 (by decide) (fun c_4 => absurd c_4 (by omega)) (fun c_4 => ?_)
      refine lv_aload hx hb dL_due_74 (lv_at hl 7 rfl) ?_
      refine lv_iconst (v := nI 3) hx hb dL_due_76 (by decide) ?_
      refine lv_iload_n hx hb dL_due_77 rfl (lv_at hl 2 rfl) ?_
      refine rn_mul (a := 3) (b := a) hx hb dL_due_78 ?_
      refine lv_iload hx hb dL_due_79 (lv_at hl 0 rfl) ?_
      refine rn_add (a := 3 * a) (b := 0) hx hb dL_due_81 ?_
      refine lv_iload_n hx hb dL_due_82 rfl (lv_at hl 4 rfl) ?_
      refine lv_bipush (v := nI 7) hx hb dL_due_83 (by decide) ?_
      refine lv_iconst (v := nI 2) hx hb dL_due_85 (by decide) ?_
      refine lv_iload hx hb dL_due_86 (lv_at hl 0 rfl) ?_
      refine rn_mul (a := 2) (b := 0) hx hb dL_due_88 ?_
      refine rn_add (a := 7) (b := 0) hx hb dL_due_89 ?_
      refine lv_ishr hx hb dL_due_90 ?_
      refine lv_bipush (v := nI 51) hx hb dL_due_91 (by decide) ?_
      refine rwS2 (rest := [.int (nI (3 * a + 0)), .ref ad]) S (c_L_low l E (x >>> (nI 7 &&& 31)) 51 (by omega) (by omega)) cd_L_low bw_140 ⟨Nat.le_of_ble_eq_true rfl, Nat.le_of_ble_eq_true rfl⟩ ⟨Nat.zero_le _, Nat.zero_le _⟩ hP (hDa.to rfl) hE hA hS [] rfl rfl [] rfl rfl (Nat.le_of_ble_eq_true rfl) hl.1 dL_due_93 (fun H locs hP _ hS => ?_)
      have hP : va_P E.1 vwCl [(aq, .inl (E.2.1, 13, .inl (upd vq 4 (nI (n + 1))))), (af, .inl (E.2.1, 21, .inl (upd (su1 vf n a) a (nI (1 + lowN x 99))))), (ad, .inl (E.2.1, 63, .inl (su3 vd n a))), (aw, .inl (E.2.1, 63, .inl (su3 vw n a))), (al, .inl (E.2.1, 63, .inl (su3 vl n a))), (ar, .inl (E.2.1, 63, .inl (su3 vr n a)))] H := hP
      refine rn_iast (i := 3 * a + 0) hx hb hK hP (hDa.to rfl) hS 2 0 rfl rfl (by omega) (by omega) dL_due_96 (fun H locs hP _ hS => ?_)
      have hP : va_P E.1 vwCl [(aq, .inl (E.2.1, 13, .inl (upd vq 4 (nI (n + 1))))), (af, .inl (E.2.1, 21, .inl (upd (su1 vf n a) a (nI (1 + lowN x 99))))), (ad, .inl (E.2.1, 63, .inl (upd (su3 vd n a) (3 * a + 0) (nI (lowN (x >>> (nI 7 &&& 31)) 51))))), (aw, .inl (E.2.1, 63, .inl (su3 vw n a))), (al, .inl (E.2.1, 63, .inl (su3 vl n a))), (ar, .inl (E.2.1, 63, .inl (su3 vr n a)))] H := hP
      refine lv_aload hx hb dL_due_97 (lv_at hl 8 rfl) ?_
      refine lv_iconst (v := nI 3) hx hb dL_due_99 (by decide) ?_
      refine lv_iload_n hx hb dL_due_100 rfl (lv_at hl 2 rfl) ?_
      refine rn_mul (a := 3) (b := a) hx hb dL_due_101 ?_
      refine lv_iload hx hb dL_due_102 (lv_at hl 0 rfl) ?_
      refine rn_add (a := 3 * a) (b := 0) hx hb dL_due_104 ?_
      refine lv_iconst (v := nI 0) hx hb dL_due_105 (by decide) ?_
      refine rn_iast (i := 3 * a + 0) hx hb hK hP (hDa.to rfl) hS 3 0 rfl rfl (by omega) (by omega) dL_due_106 (fun H locs hP _ hS => ?_)
      have hP : va_P E.1 vwCl [(aq, .inl (E.2.1, 13, .inl (upd vq 4 (nI (n + 1))))), (af, .inl (E.2.1, 21, .inl (upd (su1 vf n a) a (nI (1 + lowN x 99))))), (ad, .inl (E.2.1, 63, .inl (upd (su3 vd n a) (3 * a + 0) (nI (lowN (x >>> (nI 7 &&& 31)) 51))))), (aw, .inl (E.2.1, 63, .inl (upd (su3 vw n a) (3 * a + 0) (nI 0)))), (al, .inl (E.2.1, 63, .inl (su3 vl n a))), (ar, .inl (E.2.1, 63, .inl (su3 vr n a)))] H := hP
      refine lv_aload hx hb dL_due_107 (lv_at hl 9 rfl) ?_
      refine lv_iconst (v := nI 3) hx hb dL_due_109 (by decide) ?_
      refine lv_iload_n hx hb dL_due_110 rfl (lv_at hl 2 rfl) ?_
      refine rn_mul (a := 3) (b := a) hx hb dL_due_111 ?_
      refine lv_iload hx hb dL_due_112 (lv_at hl 0 rfl) ?_
      refine rn_add (a := 3 * a) (b := 0) hx hb dL_due_114 ?_
      refine lv_bipush (v := nI 25) hx hb dL_due_115 (by decide) ?_
      refine rn_iast (i := 3 * a + 0) hx hb hK hP (hDa.to rfl) hS 4 0 rfl rfl (by omega) (by omega) dL_due_117 (fun H locs hP _ hS => ?_)
      have hP : va_P E.1 vwCl [(aq, .inl (E.2.1, 13, .inl (upd vq 4 (nI (n + 1))))), (af, .inl (E.2.1, 21, .inl (upd (su1 vf n a) a (nI (1 + lowN x 99))))), (ad, .inl (E.2.1, 63, .inl (upd (su3 vd n a) (3 * a + 0) (nI (lowN (x >>> (nI 7 &&& 31)) 51))))), (aw, .inl (E.2.1, 63, .inl (upd (su3 vw n a) (3 * a + 0) (nI 0)))), (al, .inl (E.2.1, 63, .inl (upd (su3 vl n a) (3 * a + 0) (nI 25)))), (ar, .inl (E.2.1, 63, .inl (su3 vr n a)))] H := hP
      refine rn_inc (a := 0) (d := 1) (lv' := [(10, .int (nI 1)), (0, .int (nI 0)), (1, .int (nI a)), (2, .int (nI b)), (3, .int x), (4, .ref aq), (5, .ref af), (6, .ref ad), (7, .ref aw), (8, .ref al), (9, .ref ar)]) hx hb dL_due_118 hl (k := 0) rfl (by decide) (by decide) rfl (fun ls hl => ?_)
      refine lv_goto (tgt := 68) hx hb dL_due_121 (by decide) ?_
      refine lv_iload hx hb dL_due_68 (lv_at hl 0 rfl) ?_
      refine lv_iconst (v := nI 3) hx hb dL_due_70 (by decide) ?_
      refine rn_icmp_ge (a := 1) (b := 3) (tgt := 124) hx hb (by omega) (by omega) dL_due_71 (by decide) (fun c_5 => absurd c_5 (by omega)) (fun c_5 => ?_)
      refine lv_aload hx hb dL_due_74 (lv_at hl 7 rfl) ?_
      refine lv_iconst (v := nI 3) hx hb dL_due_76 (by decide) ?_
      refine lv_iload_n hx hb dL_due_77 rfl (lv_at hl 2 rfl) ?_
      refine rn_mul (a := 3) (b := a) hx hb dL_due_78 ?_
      refine lv_iload hx hb dL_due_79 (lv_at hl 0 rfl) ?_
      refine rn_add (a := 3 * a) (b := 1) hx hb dL_due_81 ?_
      refine lv_iload_n hx hb dL_due_82 rfl (lv_at hl 4 rfl) ?_
      refine lv_bipush (v := nI 7) hx hb dL_due_83 (by decide) ?_
      refine lv_iconst (v := nI 2) hx hb dL_due_85 (by decide) ?_
      refine lv_iload hx hb dL_due_86 (lv_at hl 0 rfl) ?_
      refine rn_mul (a := 2) (b := 1) hx hb dL_due_88 ?_
      refine rn_add (a := 7) (b := 2) hx hb dL_due_89 ?_
      refine lv_ishr hx hb dL_due_90 ?_
      refine lv_bipush (v := nI 51) hx hb dL_due_91 (by decide) ?_
      refine rwS2 (rest := [.int (nI (3 * a + 1)), .ref ad]) S (c_L_low l E (x >>> (nI 9 &&& 31)) 51 (by omega) (by omega)) cd_L_low bw_140 ⟨Nat.le_of_ble_eq_true rfl, Nat.le_of_ble_eq_true rfl⟩ ⟨Nat.zero_le _, Nat.zero_le _⟩ hP (hDa.to rfl) hE hA hS [] rfl rfl [] rfl rfl (Nat.le_of_ble_eq_true rfl) hl.1 dL_due_93 (fun H locs hP _ hS => ?_)
      have hP : va_P E.1 vwCl [(aq, .inl (E.2.1, 13, .inl (upd vq 4 (nI (n + 1))))), (af, .inl (E.2.1, 21, .inl (upd (su1 vf n a) a (nI (1 + lowN x 99))))), (ad, .inl (E.2.1, 63, .inl (upd (su3 vd n a) (3 * a + 0) (nI (lowN (x >>> (nI 7 &&& 31)) 51))))), (aw, .inl (E.2.1, 63, .inl (upd (su3 vw n a) (3 * a + 0) (nI 0)))), (al, .inl (E.2.1, 63, .inl (upd (su3 vl n a) (3 * a + 0) (nI 25)))), (ar, .inl (E.2.1, 63, .inl (su3 vr n a)))] H := hP
      refine rn_iast (i := 3 * a + 1) hx hb hK hP (hDa.to rfl) hS 2 0 rfl rfl (by omega) (by omega) dL_due_96 (fun H locs hP _ hS => ?_)
      have hP : va_P E.1 vwCl [(aq, .inl (E.2.1, 13, .inl (upd vq 4 (nI (n + 1))))), (af, .inl (E.2.1, 21, .inl (upd (su1 vf n a) a (nI (1 + lowN x 99))))), (ad, .inl (E.2.1, 63, .inl (upd (upd (su3 vd n a) (3 * a + 0) (nI (lowN (x >>> (nI 7 &&& 31)) 51))) (3 * a + 1) (nI (lowN (x >>> (nI 9 &&& 31)) 51))))), (aw, .inl (E.2.1, 63, .inl (upd (su3 vw n a) (3 * a + 0) (nI 0)))), (al, .inl (E.2.1, 63, .inl (upd (su3 vl n a) (3 * a + 0) (nI 25)))), (ar, .inl (E.2.1, 63, .inl (su3 vr n a)))] H := hP
      refine lv_aload hx hb dL_due_97 (lv_at hl 8 rfl) ?_
      refine lv_iconst (v := nI 3) hx hb dL_due_99 (by decide) ?_
      refine lv_iload_n hx hb dL_due_100 rfl (lv_at hl 2 rfl) ?_
      refine rn_mul (a := 3) (b := a) hx hb dL_due_101 ?_
      refine lv_iload hx hb dL_due_102 (lv_at hl 0 rfl) ?_
      refine rn_add (a := 3 * a) (b := 1) hx hb dL_due_104 ?_
      refine lv_iconst (v := nI 0) hx hb dL_due_105 (by decide) ?_
      refine rn_iast (i := 3 * a + 1) hx hb hK hP (hDa.to rfl) hS 3 0 rfl rfl (by omega) (by omega) dL_due_106 (fun H locs hP _ hS => ?_)
      have hP : va_P E.1 vwCl [(aq, .inl (E.2.1, 13, .inl (upd vq 4 (nI (n + 1))))), (af, .inl (E.2.1, 21, .inl (upd (su1 vf n a) a (nI (1 + lowN x 99))))), (ad, .inl (E.2.1, 63, .inl (upd (upd (su3 vd n a) (3 * a + 0) (nI (lowN (x >>> (nI 7 &&& 31)) 51))) (3 * a + 1) (nI (lowN (x >>> (nI 9 &&& 31)) 51))))), (aw, .inl (E.2.1, 63, .inl (upd (upd (su3 vw n a) (3 * a + 0) (nI 0)) (3 * a + 1) (nI 0)))), (al, .inl (E.2.1, 63, .inl (upd (su3 vl n a) (3 * a + 0) (nI 25)))), (ar, .inl (E.2.1, 63, .inl (su3 vr n a)))] H := hP
      refine lv_aload hx hb dL_due_107 (lv_at hl 9 rfl) ?_
      refine lv_iconst (v := nI 3) hx hb dL_due_109 (by decide) ?_
      refine lv_iload_n hx hb dL_due_110 rfl (lv_at hl 2 rfl) ?_
      refine rn_mul (a := 3) (b := a) hx hb dL_due_111 ?_
      refine lv_iload hx hb dL_due_112 (lv_at hl 0 rfl) ?_
      refine rn_add (a := 3 * a) (b := 1) hx hb dL_due_114 ?_
      refine lv_bipush (v := nI 25) hx hb dL_due_115 (by decide) ?_
      refine rn_iast (i := 3 * a + 1) hx hb hK hP (hDa.to rfl) hS 4 0 rfl rfl (by omega) (by omega) dL_due_117 (fun H locs hP _ hS => ?_)
      have hP : va_P E.1 vwCl [(aq, .inl (E.2.1, 13, .inl (upd vq 4 (nI (n + 1))))), (af, .inl (E.2.1, 21, .inl (upd (su1 vf n a) a (nI (1 + lowN x 99))))), (ad, .inl (E.2.1, 63, .inl (upd (upd (su3 vd n a) (3 * a + 0) (nI (lowN (x >>> (nI 7 &&& 31)) 51))) (3 * a + 1) (nI (lowN (x >>> (nI 9 &&& 31)) 51))))), (aw, .inl (E.2.1, 63, .inl (upd (upd (su3 vw n a) (3 * a + 0) (nI 0)) (3 * a + 1) (nI 0)))), (al, .inl (E.2.1, 63, .inl (upd (upd (su3 vl n a) (3 * a + 0) (nI 25)) (3 * a + 1) (nI 25)))), (ar, .inl (E.2.1, 63, .inl (su3 vr n a)))] H := hP
      refine rn_inc (a := 1) (d := 1) (lv' := [(10, .int (nI 2)), (0, .int (nI 0)), (1, .int (nI a)), (2, .int (nI b)), (3, .int x), (4, .ref aq), (5, .ref af), (6, .ref ad), (7, .ref aw), (8, .ref al), (9, .ref ar)]) hx hb dL_due_118 hl (k := 0) rfl (by decide) (by decide) rfl (fun ls hl => ?_)
      refine lv_goto (tgt := 68) hx hb dL_due_121 (by decide) ?_
      refine lv_iload hx hb dL_due_68 (lv_at hl 0 rfl) ?_
      refine lv_iconst (v := nI 3) hx hb dL_due_70 (by decide) ?_
      refine rn_icmp_ge (a := 2) (b := 3) (tgt := 124) hx hb (by omega) (by omega) dL_due_71 (by decide) (fun c_6 => absurd c_6 (by omega)) (fun c_6 => ?_)
      refine lv_aload hx hb dL_due_74 (lv_at hl 7 rfl) ?_
      refine lv_iconst (v := nI 3) hx hb dL_due_76 (by decide) ?_
      refine lv_iload_n hx hb dL_due_77 rfl (lv_at hl 2 rfl) ?_
      refine rn_mul (a := 3) (b := a) hx hb dL_due_78 ?_
      refine lv_iload hx hb dL_due_79 (lv_at hl 0 rfl) ?_
      refine rn_add (a := 3 * a) (b := 2) hx hb dL_due_81 ?_
      refine lv_iload_n hx hb dL_due_82 rfl (lv_at hl 4 rfl) ?_
      refine lv_bipush (v := nI 7) hx hb dL_due_83 (by decide) ?_
      refine lv_iconst (v := nI 2) hx hb dL_due_85 (by decide) ?_
      refine lv_iload hx hb dL_due_86 (lv_at hl 0 rfl) ?_
      refine rn_mul (a := 2) (b := 2) hx hb dL_due_88 ?_
      refine rn_add (a := 7) (b := 4) hx hb dL_due_89 ?_
      refine lv_ishr hx hb dL_due_90 ?_
      refine lv_bipush (v := nI 51) hx hb dL_due_91 (by decide) ?_
      refine rwS2 (rest := [.int (nI (3 * a + 2)), .ref ad]) S (c_L_low l E (x >>> (nI 11 &&& 31)) 51 (by omega) (by omega)) cd_L_low bw_140 ⟨Nat.le_of_ble_eq_true rfl, Nat.le_of_ble_eq_true rfl⟩ ⟨Nat.zero_le _, Nat.zero_le _⟩ hP (hDa.to rfl) hE hA hS [] rfl rfl [] rfl rfl (Nat.le_of_ble_eq_true rfl) hl.1 dL_due_93 (fun H locs hP _ hS => ?_)
      have hP : va_P E.1 vwCl [(aq, .inl (E.2.1, 13, .inl (upd vq 4 (nI (n + 1))))), (af, .inl (E.2.1, 21, .inl (upd (su1 vf n a) a (nI (1 + lowN x 99))))), (ad, .inl (E.2.1, 63, .inl (upd (upd (su3 vd n a) (3 * a + 0) (nI (lowN (x >>> (nI 7 &&& 31)) 51))) (3 * a + 1) (nI (lowN (x >>> (nI 9 &&& 31)) 51))))), (aw, .inl (E.2.1, 63, .inl (upd (upd (su3 vw n a) (3 * a + 0) (nI 0)) (3 * a + 1) (nI 0)))), (al, .inl (E.2.1, 63, .inl (upd (upd (su3 vl n a) (3 * a + 0) (nI 25)) (3 * a + 1) (nI 25)))), (ar, .inl (E.2.1, 63, .inl (su3 vr n a)))] H := hP
      refine rn_iast (i := 3 * a + 2) hx hb hK hP (hDa.to rfl) hS 2 0 rfl rfl (by omega) (by omega) dL_due_96 (fun H locs hP _ hS => ?_)
      have hP : va_P E.1 vwCl [(aq, .inl (E.2.1, 13, .inl (upd vq 4 (nI (n + 1))))), (af, .inl (E.2.1, 21, .inl (upd (su1 vf n a) a (nI (1 + lowN x 99))))), (ad, .inl (E.2.1, 63, .inl (upd (upd (upd (su3 vd n a) (3 * a + 0) (nI (lowN (x >>> (nI 7 &&& 31)) 51))) (3 * a + 1) (nI (lowN (x >>> (nI 9 &&& 31)) 51))) (3 * a + 2) (nI (lowN (x >>> (nI 11 &&& 31)) 51))))), (aw, .inl (E.2.1, 63, .inl (upd (upd (su3 vw n a) (3 * a + 0) (nI 0)) (3 * a + 1) (nI 0)))), (al, .inl (E.2.1, 63, .inl (upd (upd (su3 vl n a) (3 * a + 0) (nI 25)) (3 * a + 1) (nI 25)))), (ar, .inl (E.2.1, 63, .inl (su3 vr n a)))] H := hP
      refine lv_aload hx hb dL_due_97 (lv_at hl 8 rfl) ?_
      refine lv_iconst (v := nI 3) hx hb dL_due_99 (by decide) ?_
      refine lv_iload_n hx hb dL_due_100 rfl (lv_at hl 2 rfl) ?_
      refine rn_mul (a := 3) (b := a) hx hb dL_due_101 ?_
      refine lv_iload hx hb dL_due_102 (lv_at hl 0 rfl) ?_
      refine rn_add (a := 3 * a) (b := 2) hx hb dL_due_104 ?_
      refine lv_iconst (v := nI 0) hx hb dL_due_105 (by decide) ?_
      refine rn_iast (i := 3 * a + 2) hx hb hK hP (hDa.to rfl) hS 3 0 rfl rfl (by omega) (by omega) dL_due_106 (fun H locs hP _ hS => ?_)
      have hP : va_P E.1 vwCl [(aq, .inl (E.2.1, 13, .inl (upd vq 4 (nI (n + 1))))), (af, .inl (E.2.1, 21, .inl (upd (su1 vf n a) a (nI (1 + lowN x 99))))), (ad, .inl (E.2.1, 63, .inl (upd (upd (upd (su3 vd n a) (3 * a + 0) (nI (lowN (x >>> (nI 7 &&& 31)) 51))) (3 * a + 1) (nI (lowN (x >>> (nI 9 &&& 31)) 51))) (3 * a + 2) (nI (lowN (x >>> (nI 11 &&& 31)) 51))))), (aw, .inl (E.2.1, 63, .inl (upd (upd (upd (su3 vw n a) (3 * a + 0) (nI 0)) (3 * a + 1) (nI 0)) (3 * a + 2) (nI 0)))), (al, .inl (E.2.1, 63, .inl (upd (upd (su3 vl n a) (3 * a + 0) (nI 25)) (3 * a + 1) (nI 25)))), (ar, .inl (E.2.1, 63, .inl (su3 vr n a)))] H := hP
      refine lv_aload hx hb dL_due_107 (lv_at hl 9 rfl) ?_
      refine lv_iconst (v := nI 3) hx hb dL_due_109 (by decide) ?_
      refine lv_iload_n hx hb dL_due_110 rfl (lv_at hl 2 rfl) ?_
      refine rn_mul (a := 3) (b := a) hx hb dL_due_111 ?_
      refine lv_iload hx hb dL_due_112 (lv_at hl 0 rfl) ?_
      refine rn_add (a := 3 * a) (b := 2) hx hb dL_due_114 ?_
      refine lv_bipush (v := nI 25) hx hb dL_due_115 (by decide) ?_
      refine rn_iast (i := 3 * a + 2) hx hb hK hP (hDa.to rfl) hS 4 0 rfl rfl (by omega) (by omega) dL_due_117 (fun H locs hP _ hS => ?_)
      have hP : va_P E.1 vwCl [(aq, .inl (E.2.1, 13, .inl (upd vq 4 (nI (n + 1))))), (af, .inl (E.2.1, 21, .inl (upd (su1 vf n a) a (nI (1 + lowN x 99))))), (ad, .inl (E.2.1, 63, .inl (upd (upd (upd (su3 vd n a) (3 * a + 0) (nI (lowN (x >>> (nI 7 &&& 31)) 51))) (3 * a + 1) (nI (lowN (x >>> (nI 9 &&& 31)) 51))) (3 * a + 2) (nI (lowN (x >>> (nI 11 &&& 31)) 51))))), (aw, .inl (E.2.1, 63, .inl (upd (upd (upd (su3 vw n a) (3 * a + 0) (nI 0)) (3 * a + 1) (nI 0)) (3 * a + 2) (nI 0)))), (al, .inl (E.2.1, 63, .inl (upd (upd (upd (su3 vl n a) (3 * a + 0) (nI 25)) (3 * a + 1) (nI 25)) (3 * a + 2) (nI 25)))), (ar, .inl (E.2.1, 63, .inl (su3 vr n a)))] H := hP
      refine rn_inc (a := 2) (d := 1) (lv' := [(10, .int (nI 3)), (0, .int (nI 0)), (1, .int (nI a)), (2, .int (nI b)), (3, .int x), (4, .ref aq), (5, .ref af), (6, .ref ad), (7, .ref aw), (8, .ref al), (9, .ref ar)]) hx hb dL_due_118 hl (k := 0) rfl (by decide) (by decide) rfl (fun ls hl => ?_)
      refine lv_goto (tgt := 68) hx hb dL_due_121 (by decide) ?_
      refine lv_iload hx hb dL_due_68 (lv_at hl 0 rfl) ?_
      refine lv_iconst (v := nI 3) hx hb dL_due_70 (by decide) ?_
      refine rn_icmp_ge (a := 3) (b := 3) (tgt := 124) hx hb (by omega) (by omega) dL_due_71 (by decide) (fun c_7 => ?_) (fun c_7 => absurd c_7 (by omega))
      refine lv_iload_n hx hb dL_due_124 rfl (lv_at hl 2 rfl) ?_
      refine lv_aload hx hb dL_due_125 (lv_at hl 10 rfl) ?_
      refine rwSv2 (rest := []) S (c_L_forget l E a ar (su3 vr n a) (by omega)) cd_L_forget bw_386 ⟨Nat.le_of_ble_eq_true rfl, Nat.le_of_ble_eq_true rfl⟩ ⟨Nat.zero_le _, Nat.zero_le _⟩ hP (hDa.to rfl) hE hA hS [5] rfl rfl [ar] rfl rfl (Nat.le_of_ble_eq_true rfl) hl.1 dL_due_127 (fun H locs hP _ hS => ?_)
      have hP : va_P E.1 vwCl [(aq, .inl (E.2.1, 13, .inl (upd vq 4 (nI (n + 1))))), (af, .inl (E.2.1, 21, .inl (upd (su1 vf n a) a (nI (1 + lowN x 99))))), (ad, .inl (E.2.1, 63, .inl (upd (upd (upd (su3 vd n a) (3 * a + 0) (nI (lowN (x >>> (nI 7 &&& 31)) 51))) (3 * a + 1) (nI (lowN (x >>> (nI 9 &&& 31)) 51))) (3 * a + 2) (nI (lowN (x >>> (nI 11 &&& 31)) 51))))), (aw, .inl (E.2.1, 63, .inl (upd (upd (upd (su3 vw n a) (3 * a + 0) (nI 0)) (3 * a + 1) (nI 0)) (3 * a + 2) (nI 0)))), (al, .inl (E.2.1, 63, .inl (upd (upd (upd (su3 vl n a) (3 * a + 0) (nI 25)) (3 * a + 1) (nI 25)) (3 * a + 2) (nI 25)))), (ar, .inl (E.2.1, 63, .inl (fo3 (su3 vr n a) a)))] H := hP
      refine lv_aload hx hb dL_due_130 (lv_at hl 5 rfl) ?_
      refine lv_iconst (v := nI 4) hx hb dL_due_132 (by decide) ?_
      refine rn_iald (i := 4) hx hb hK hP 0 0 rfl rfl (by omega) (by omega) dL_due_133 ?_
      refine W.eq (congrArg (fun z => F0 m 134 ls (.int z :: [])) (show (upd vq 4 (nI (n + 1))) 4 = nI (n + 1) from pk_us)) ?_
      exact hret _ _ _ _ _ _ (by rw [u0V, if_neg c_1, if_neg c_3]) (by rw [show u0Q vq vf vd vw vl vr n a b x = upd vq 4 (nI (n + 1)) from by rw [u0Q, if_neg c_1, if_neg c_3], show u0F vq vf vd vw vl vr n a b x = upd (su1 vf n a) a (nI (1 + lowN x 99)) from by rw [u0F, if_neg c_1, if_neg c_3], show u0D vq vf vd vw vl vr n a b x = upd (upd (upd (su3 vd n a) (3 * a + 0) (nI (lowN (x >>> (nI 7 &&& 31)) 51))) (3 * a + 1) (nI (lowN (x >>> (nI 9 &&& 31)) 51))) (3 * a + 2) (nI (lowN (x >>> (nI 11 &&& 31)) 51)) from by rw [u0D, if_neg c_1, if_neg c_3], show u0W vq vf vd vw vl vr n a b x = upd (upd (upd (su3 vw n a) (3 * a + 0) (nI 0)) (3 * a + 1) (nI 0)) (3 * a + 2) (nI 0) from by rw [u0W, if_neg c_1, if_neg c_3], show u0L vq vf vd vw vl vr n a b x = upd (upd (upd (su3 vl n a) (3 * a + 0) (nI 25)) (3 * a + 1) (nI 25)) (3 * a + 2) (nI 25) from by rw [u0L, if_neg c_1, if_neg c_3], show u0R vq vf vd vw vl vr n a b x = fo3 (su3 vr n a) a from by rw [u0R, if_neg c_1, if_neg c_3]]) rfl hP hS dL_due_134
    · refine lv_iload_n hx hb dL_due_21 rfl (lv_at hl 1 rfl) ?_
      refine lv_aload hx hb dL_due_22 (lv_at hl 4 rfl) ?_
      refine lv_iconst (v := nI 4) hx hb dL_due_24 (by decide) ?_
      refine rn_iald (i := 4) hx hb hK hP 0 0 rfl rfl (by omega) (by omega) dL_due_25 ?_
      refine W.eq (congrArg (fun z => F0 m 26 ls (.int z :: [.int (nI a)])) (show vq 4 = nI n from hf)) ?_
      refine rn_icmp_le (a := a) (b := n) (tgt := 33) hx hb (by omega) (by omega) dL_due_26 (by decide) (fun c_8 => ?_) (fun c_8 => absurd c_8 (by omega))
      refine lv_bipush (v := (-4)) hx hb dL_due_33 (by decide) ?_
      exact hret _ _ _ _ _ _ (by rw [u0V, if_neg c_1, if_pos c_3]) (by rw [show u0Q vq vf vd vw vl vr n a b x = vq from by rw [u0Q, if_neg c_1, if_pos c_3], show u0F vq vf vd vw vl vr n a b x = vf from by rw [u0F, if_neg c_1, if_pos c_3], show u0D vq vf vd vw vl vr n a b x = vd from by rw [u0D, if_neg c_1, if_pos c_3], show u0W vq vf vd vw vl vr n a b x = vw from by rw [u0W, if_neg c_1, if_pos c_3], show u0L vq vf vd vw vl vr n a b x = vl from by rw [u0L, if_neg c_1, if_pos c_3], show u0R vq vf vd vw vl vr n a b x = vr from by rw [u0R, if_neg c_1, if_pos c_3]]) rfl hP hS dL_due_35

def u1V (vq : Nat → Int32) (vf : Nat → Int32) (vd : Nat → Int32) (vw : Nat → Int32) (vl : Nat → Int32) (vr : Nat → Int32) (n : Nat) (a : Nat) (b : Nat) (x : Int32) : Int32 := if a < n then s1V vq vf vd vw vl vr n a b x else (-1)
def u1Q (vq : Nat → Int32) (vf : Nat → Int32) (vd : Nat → Int32) (vw : Nat → Int32) (vl : Nat → Int32) (vr : Nat → Int32) (n : Nat) (a : Nat) (b : Nat) (x : Int32) : Nat → Int32 := if a < n then s1Q vq vf vd vw vl vr n a b x else vq
def u1F (vq : Nat → Int32) (vf : Nat → Int32) (vd : Nat → Int32) (vw : Nat → Int32) (vl : Nat → Int32) (vr : Nat → Int32) (n : Nat) (a : Nat) (b : Nat) (x : Int32) : Nat → Int32 := if a < n then s1F vq vf vd vw vl vr n a b x else vf
def u1D (vq : Nat → Int32) (vf : Nat → Int32) (vd : Nat → Int32) (vw : Nat → Int32) (vl : Nat → Int32) (vr : Nat → Int32) (n : Nat) (a : Nat) (b : Nat) (x : Int32) : Nat → Int32 := if a < n then s1D vq vf vd vw vl vr n a b x else vd
def u1W (vq : Nat → Int32) (vf : Nat → Int32) (vd : Nat → Int32) (vw : Nat → Int32) (vl : Nat → Int32) (vr : Nat → Int32) (n : Nat) (a : Nat) (b : Nat) (x : Int32) : Nat → Int32 := if a < n then s1W vq vf vd vw vl vr n a b x else vw
def u1L (vq : Nat → Int32) (vf : Nat → Int32) (vd : Nat → Int32) (vw : Nat → Int32) (vl : Nat → Int32) (vr : Nat → Int32) (n : Nat) (a : Nat) (b : Nat) (x : Int32) : Nat → Int32 := if a < n then s1L vq vf vd vw vl vr n a b x else vl
def u1R (vq : Nat → Int32) (vf : Nat → Int32) (vd : Nat → Int32) (vw : Nat → Int32) (vl : Nat → Int32) (vr : Nat → Int32) (n : Nat) (a : Nat) (b : Nat) (x : Int32) : Nat → Int32 := if a < n then s1R vq vf vd vw vl vr n a b x else vr
set_option maxHeartbeats 4000000 in
set_option maxRecDepth 100000 in
theorem c_L_due_1 (l : Launch) (E : EV) (a : Nat) (b : Nat) (x : Int32) (aq : Nat) (af : Nat) (ad : Nat) (aw : Nat) (al : Nat) (ar : Nat) (vq : Nat → Int32) (vf : Nat → Int32) (vd : Nat → Int32) (vw : Nat → Int32) (vl : Nat → Int32) (vr : Nat → Int32) (n : Nat) (hf : vq 4 = nI n) (hn : n ≤ 20) (hb3 : b < 3) : rcI l E yL_due cL_due 13 .int 4 [.int (nI 1), .int (nI a), .int (nI b), .int x, .ref aq, .ref af, .ref ad, .ref aw, .ref al, .ref ar] [(aq, .inl (E.2.1, 13, .inl vq)), (af, .inl (E.2.1, 21, .inl vf)), (ad, .inl (E.2.1, 63, .inl vd)), (aw, .inl (E.2.1, 63, .inl vw)), (al, .inl (E.2.1, 63, .inl vl)), (ar, .inl (E.2.1, 63, .inl vr))] (u1V vq vf vd vw vl vr n a b x) [(aq, .inl (E.2.1, 13, .inl (u1Q vq vf vd vw vl vr n a b x))), (af, .inl (E.2.1, 21, .inl (u1F vq vf vd vw vl vr n a b x))), (ad, .inl (E.2.1, 63, .inl (u1D vq vf vd vw vl vr n a b x))), (aw, .inl (E.2.1, 63, .inl (u1W vq vf vd vw vl vr n a b x))), (al, .inl (E.2.1, 63, .inl (u1L vq vf vd vw vl vr n a b x))), (ar, .inl (E.2.1, 63, .inl (u1R vq vf vd vw vl vr n a b x)))] := by
  refine rcI_of (by decide) (Nat.le_of_ble_eq_true rfl) ?_
  intro pg e s m below meth c Q A ls S hP hD0 hE hA hl hret
  have hx := S.1
  have hb := S.2.1
  have hown := S.2.2.2.1
  have hts := S.2.2.2.2
  have hK := hE.1
  have hS : va_S A s.heap s.heap [] := va_S.rf
  have hDa : va_Da A [aq, af, ad, aw, al, ar] := ⟨_, hD0, rfl⟩
  have hl : lv_has ls 13 [(0, .int (nI 1)), (1, .int (nI a)), (2, .int (nI b)), (3, .int x), (4, .ref aq), (5, .ref af), (6, .ref ad), (7, .ref aw), (8, .ref al), (9, .ref ar)] := hl
  refine lv_iload_n hx hb dL_due_0 rfl (lv_at hl 0 rfl) ?_
  refine lv_if_ne (tgt := 135) hx hb dL_due_1 (by decide) (fun _ => ?_) (fun c9 => by first | exact absurd (by decide) c9 | exact absurd c9 (by decide))
  refine lv_iload_n hx hb dL_due_135 rfl (lv_at hl 0 rfl) ?_
  refine lv_bipush (v := nI 6) hx hb dL_due_136 (by decide) ?_
  refine rn_icmp_lt (a := 1) (b := 6) (tgt := 153) hx hb (by omega) (by omega) dL_due_138 (by decide) (fun c_1 => ?_) (fun c_1 => absurd c_1 (by omega))
  refine lv_iload_n hx hb dL_due_153 rfl (lv_at hl 1 rfl) ?_
  refine lv_aload hx hb dL_due_154 (lv_at hl 4 rfl) ?_
  refine lv_iconst (v := nI 4) hx hb dL_due_156 (by decide) ?_
  refine rn_iald (i := 4) hx hb hK hP 0 0 rfl rfl (by omega) (by omega) dL_due_157 ?_
  refine W.eq (congrArg (fun z => F0 m 158 ls (.int z :: [.int (nI a)])) (show vq 4 = nI n from hf)) ?_
  refine rn_icmp_lt (a := a) (b := n) (tgt := 165) hx hb (by omega) (by omega) dL_due_158 (by decide) (fun c_2 => ?_) (fun c_2 => ?_)
  · refine lv_iload_n hx hb dL_due_165 rfl (lv_at hl 0 rfl) ?_
    refine lv_iload_n hx hb dL_due_166 rfl (lv_at hl 1 rfl) ?_
    refine lv_iload_n hx hb dL_due_167 rfl (lv_at hl 2 rfl) ?_
    refine lv_iload_n hx hb dL_due_168 rfl (lv_at hl 3 rfl) ?_
    refine lv_aload hx hb dL_due_169 (lv_at hl 4 rfl) ?_
    refine lv_aload hx hb dL_due_171 (lv_at hl 5 rfl) ?_
    refine lv_aload hx hb dL_due_173 (lv_at hl 6 rfl) ?_
    refine lv_aload hx hb dL_due_175 (lv_at hl 7 rfl) ?_
    refine lv_aload hx hb dL_due_177 (lv_at hl 8 rfl) ?_
    refine lv_aload hx hb dL_due_179 (lv_at hl 9 rfl) ?_
    refine rwS10 (rest := []) S (c_L_ofShot_1 l E a b x aq af ad aw al ar vq vf vd vw vl vr n hf hn c_2 hb3) cd_L_ofShot bw_389 ⟨Nat.le_of_ble_eq_true rfl, Nat.le_of_ble_eq_true rfl⟩ ⟨Nat.zero_le _, Nat.zero_le _⟩ hP (hDa.to rfl) hE hA hS [0, 1, 2, 3, 4, 5] rfl rfl [aq, af, ad, aw, al, ar] rfl rfl (Nat.le_of_ble_eq_true rfl) hl.1 dL_due_181 (fun H locs hP _ hS => ?_)
    have hP : va_P E.1 vwCl [(aq, .inl (E.2.1, 13, .inl (s1Q vq vf vd vw vl vr n a b x))), (af, .inl (E.2.1, 21, .inl (s1F vq vf vd vw vl vr n a b x))), (ad, .inl (E.2.1, 63, .inl (s1D vq vf vd vw vl vr n a b x))), (aw, .inl (E.2.1, 63, .inl (s1W vq vf vd vw vl vr n a b x))), (al, .inl (E.2.1, 63, .inl (s1L vq vf vd vw vl vr n a b x))), (ar, .inl (E.2.1, 63, .inl (s1R vq vf vd vw vl vr n a b x)))] H := hP
    exact hret _ _ _ _ _ _ (by rw [u1V, if_pos c_2]) (by rw [show u1Q vq vf vd vw vl vr n a b x = s1Q vq vf vd vw vl vr n a b x from by rw [u1Q, if_pos c_2], show u1F vq vf vd vw vl vr n a b x = s1F vq vf vd vw vl vr n a b x from by rw [u1F, if_pos c_2], show u1D vq vf vd vw vl vr n a b x = s1D vq vf vd vw vl vr n a b x from by rw [u1D, if_pos c_2], show u1W vq vf vd vw vl vr n a b x = s1W vq vf vd vw vl vr n a b x from by rw [u1W, if_pos c_2], show u1L vq vf vd vw vl vr n a b x = s1L vq vf vd vw vl vr n a b x from by rw [u1L, if_pos c_2], show u1R vq vf vd vw vl vr n a b x = s1R vq vf vd vw vl vr n a b x from by rw [u1R, if_pos c_2]]) rfl hP hS dL_due_184
  · refine lv_iconst (v := (-1)) hx hb dL_due_161 (by decide) ?_
    refine lv_goto (tgt := 184) hx hb dL_due_162 (by decide) ?_
    exact hret _ _ _ _ _ _ (by rw [u1V, if_neg c_2]) (by rw [show u1Q vq vf vd vw vl vr n a b x = vq from by rw [u1Q, if_neg c_2], show u1F vq vf vd vw vl vr n a b x = vf from by rw [u1F, if_neg c_2], show u1D vq vf vd vw vl vr n a b x = vd from by rw [u1D, if_neg c_2], show u1W vq vf vd vw vl vr n a b x = vw from by rw [u1W, if_neg c_2], show u1L vq vf vd vw vl vr n a b x = vl from by rw [u1L, if_neg c_2], show u1R vq vf vd vw vl vr n a b x = vr from by rw [u1R, if_neg c_2]]) rfl hP hS dL_due_184

def u2V (vq : Nat → Int32) (vf : Nat → Int32) (vd : Nat → Int32) (vw : Nat → Int32) (vl : Nat → Int32) (vr : Nat → Int32) (n : Nat) (a : Nat) (b : Nat) (x : Int32) : Int32 := if a < n then s2V vq vf vd vw vl vr n a b x else (-1)
def u2Q (vq : Nat → Int32) (vf : Nat → Int32) (vd : Nat → Int32) (vw : Nat → Int32) (vl : Nat → Int32) (vr : Nat → Int32) (n : Nat) (a : Nat) (b : Nat) (x : Int32) : Nat → Int32 := if a < n then s2Q vq vf vd vw vl vr n a b x else vq
def u2F (vq : Nat → Int32) (vf : Nat → Int32) (vd : Nat → Int32) (vw : Nat → Int32) (vl : Nat → Int32) (vr : Nat → Int32) (n : Nat) (a : Nat) (b : Nat) (x : Int32) : Nat → Int32 := if a < n then s2F vq vf vd vw vl vr n a b x else vf
def u2D (vq : Nat → Int32) (vf : Nat → Int32) (vd : Nat → Int32) (vw : Nat → Int32) (vl : Nat → Int32) (vr : Nat → Int32) (n : Nat) (a : Nat) (b : Nat) (x : Int32) : Nat → Int32 := if a < n then s2D vq vf vd vw vl vr n a b x else vd
def u2W (vq : Nat → Int32) (vf : Nat → Int32) (vd : Nat → Int32) (vw : Nat → Int32) (vl : Nat → Int32) (vr : Nat → Int32) (n : Nat) (a : Nat) (b : Nat) (x : Int32) : Nat → Int32 := if a < n then s2W vq vf vd vw vl vr n a b x else vw
def u2L (vq : Nat → Int32) (vf : Nat → Int32) (vd : Nat → Int32) (vw : Nat → Int32) (vl : Nat → Int32) (vr : Nat → Int32) (n : Nat) (a : Nat) (b : Nat) (x : Int32) : Nat → Int32 := if a < n then s2L vq vf vd vw vl vr n a b x else vl
def u2R (vq : Nat → Int32) (vf : Nat → Int32) (vd : Nat → Int32) (vw : Nat → Int32) (vl : Nat → Int32) (vr : Nat → Int32) (n : Nat) (a : Nat) (b : Nat) (x : Int32) : Nat → Int32 := if a < n then s2R vq vf vd vw vl vr n a b x else vr
set_option maxHeartbeats 4000000 in
set_option maxRecDepth 100000 in
theorem c_L_due_2 (l : Launch) (E : EV) (a : Nat) (b : Nat) (x : Int32) (aq : Nat) (af : Nat) (ad : Nat) (aw : Nat) (al : Nat) (ar : Nat) (vq : Nat → Int32) (vf : Nat → Int32) (vd : Nat → Int32) (vw : Nat → Int32) (vl : Nat → Int32) (vr : Nat → Int32) (n : Nat) (hf : vq 4 = nI n) (hn : n ≤ 20) (hb3 : b < 3) : rcI l E yL_due cL_due 13 .int 4 [.int (nI 2), .int (nI a), .int (nI b), .int x, .ref aq, .ref af, .ref ad, .ref aw, .ref al, .ref ar] [(aq, .inl (E.2.1, 13, .inl vq)), (af, .inl (E.2.1, 21, .inl vf)), (ad, .inl (E.2.1, 63, .inl vd)), (aw, .inl (E.2.1, 63, .inl vw)), (al, .inl (E.2.1, 63, .inl vl)), (ar, .inl (E.2.1, 63, .inl vr))] (u2V vq vf vd vw vl vr n a b x) [(aq, .inl (E.2.1, 13, .inl (u2Q vq vf vd vw vl vr n a b x))), (af, .inl (E.2.1, 21, .inl (u2F vq vf vd vw vl vr n a b x))), (ad, .inl (E.2.1, 63, .inl (u2D vq vf vd vw vl vr n a b x))), (aw, .inl (E.2.1, 63, .inl (u2W vq vf vd vw vl vr n a b x))), (al, .inl (E.2.1, 63, .inl (u2L vq vf vd vw vl vr n a b x))), (ar, .inl (E.2.1, 63, .inl (u2R vq vf vd vw vl vr n a b x)))] := by
  refine rcI_of (by decide) (Nat.le_of_ble_eq_true rfl) ?_
  intro pg e s m below meth c Q A ls S hP hD0 hE hA hl hret
  have hx := S.1
  have hb := S.2.1
  have hown := S.2.2.2.1
  have hts := S.2.2.2.2
  have hK := hE.1
  have hS : va_S A s.heap s.heap [] := va_S.rf
  have hDa : va_Da A [aq, af, ad, aw, al, ar] := ⟨_, hD0, rfl⟩
  have hl : lv_has ls 13 [(0, .int (nI 2)), (1, .int (nI a)), (2, .int (nI b)), (3, .int x), (4, .ref aq), (5, .ref af), (6, .ref ad), (7, .ref aw), (8, .ref al), (9, .ref ar)] := hl
  refine lv_iload_n hx hb dL_due_0 rfl (lv_at hl 0 rfl) ?_
  refine lv_if_ne (tgt := 135) hx hb dL_due_1 (by decide) (fun _ => ?_) (fun c9 => by first | exact absurd (by decide) c9 | exact absurd c9 (by decide))
  refine lv_iload_n hx hb dL_due_135 rfl (lv_at hl 0 rfl) ?_
  refine lv_bipush (v := nI 6) hx hb dL_due_136 (by decide) ?_
  refine rn_icmp_lt (a := 2) (b := 6) (tgt := 153) hx hb (by omega) (by omega) dL_due_138 (by decide) (fun c_1 => ?_) (fun c_1 => absurd c_1 (by omega))
  refine lv_iload_n hx hb dL_due_153 rfl (lv_at hl 1 rfl) ?_
  refine lv_aload hx hb dL_due_154 (lv_at hl 4 rfl) ?_
  refine lv_iconst (v := nI 4) hx hb dL_due_156 (by decide) ?_
  refine rn_iald (i := 4) hx hb hK hP 0 0 rfl rfl (by omega) (by omega) dL_due_157 ?_
  refine W.eq (congrArg (fun z => F0 m 158 ls (.int z :: [.int (nI a)])) (show vq 4 = nI n from hf)) ?_
  refine rn_icmp_lt (a := a) (b := n) (tgt := 165) hx hb (by omega) (by omega) dL_due_158 (by decide) (fun c_2 => ?_) (fun c_2 => ?_)
  · refine lv_iload_n hx hb dL_due_165 rfl (lv_at hl 0 rfl) ?_
    refine lv_iload_n hx hb dL_due_166 rfl (lv_at hl 1 rfl) ?_
    refine lv_iload_n hx hb dL_due_167 rfl (lv_at hl 2 rfl) ?_
    refine lv_iload_n hx hb dL_due_168 rfl (lv_at hl 3 rfl) ?_
    refine lv_aload hx hb dL_due_169 (lv_at hl 4 rfl) ?_
    refine lv_aload hx hb dL_due_171 (lv_at hl 5 rfl) ?_
    refine lv_aload hx hb dL_due_173 (lv_at hl 6 rfl) ?_
    refine lv_aload hx hb dL_due_175 (lv_at hl 7 rfl) ?_
    refine lv_aload hx hb dL_due_177 (lv_at hl 8 rfl) ?_
    refine lv_aload hx hb dL_due_179 (lv_at hl 9 rfl) ?_
    refine rwS10 (rest := []) S (c_L_ofShot_2 l E a b x aq af ad aw al ar vq vf vd vw vl vr n hf hn c_2 hb3) cd_L_ofShot bw_389 ⟨Nat.le_of_ble_eq_true rfl, Nat.le_of_ble_eq_true rfl⟩ ⟨Nat.zero_le _, Nat.zero_le _⟩ hP (hDa.to rfl) hE hA hS [0, 1, 2, 3, 4, 5] rfl rfl [aq, af, ad, aw, al, ar] rfl rfl (Nat.le_of_ble_eq_true rfl) hl.1 dL_due_181 (fun H locs hP _ hS => ?_)
    have hP : va_P E.1 vwCl [(aq, .inl (E.2.1, 13, .inl (s2Q vq vf vd vw vl vr n a b x))), (af, .inl (E.2.1, 21, .inl (s2F vq vf vd vw vl vr n a b x))), (ad, .inl (E.2.1, 63, .inl (s2D vq vf vd vw vl vr n a b x))), (aw, .inl (E.2.1, 63, .inl (s2W vq vf vd vw vl vr n a b x))), (al, .inl (E.2.1, 63, .inl (s2L vq vf vd vw vl vr n a b x))), (ar, .inl (E.2.1, 63, .inl (s2R vq vf vd vw vl vr n a b x)))] H := hP
    exact hret _ _ _ _ _ _ (by rw [u2V, if_pos c_2]) (by rw [show u2Q vq vf vd vw vl vr n a b x = s2Q vq vf vd vw vl vr n a b x from by rw [u2Q, if_pos c_2], show u2F vq vf vd vw vl vr n a b x = s2F vq vf vd vw vl vr n a b x from by rw [u2F, if_pos c_2], show u2D vq vf vd vw vl vr n a b x = s2D vq vf vd vw vl vr n a b x from by rw [u2D, if_pos c_2], show u2W vq vf vd vw vl vr n a b x = s2W vq vf vd vw vl vr n a b x from by rw [u2W, if_pos c_2], show u2L vq vf vd vw vl vr n a b x = s2L vq vf vd vw vl vr n a b x from by rw [u2L, if_pos c_2], show u2R vq vf vd vw vl vr n a b x = s2R vq vf vd vw vl vr n a b x from by rw [u2R, if_pos c_2]]) rfl hP hS dL_due_184
  · refine lv_iconst (v := (-1)) hx hb dL_due_161 (by decide) ?_
    refine lv_goto (tgt := 184) hx hb dL_due_162 (by decide) ?_
    exact hret _ _ _ _ _ _ (by rw [u2V, if_neg c_2]) (by rw [show u2Q vq vf vd vw vl vr n a b x = vq from by rw [u2Q, if_neg c_2], show u2F vq vf vd vw vl vr n a b x = vf from by rw [u2F, if_neg c_2], show u2D vq vf vd vw vl vr n a b x = vd from by rw [u2D, if_neg c_2], show u2W vq vf vd vw vl vr n a b x = vw from by rw [u2W, if_neg c_2], show u2L vq vf vd vw vl vr n a b x = vl from by rw [u2L, if_neg c_2], show u2R vq vf vd vw vl vr n a b x = vr from by rw [u2R, if_neg c_2]]) rfl hP hS dL_due_184

def u3V (vq : Nat → Int32) (vf : Nat → Int32) (vd : Nat → Int32) (vw : Nat → Int32) (vl : Nat → Int32) (vr : Nat → Int32) (n : Nat) (a : Nat) (b : Nat) (x : Int32) : Int32 := if a < n then s3V vq vf vd vw vl vr n a b x else (-1)
def u3Q (vq : Nat → Int32) (vf : Nat → Int32) (vd : Nat → Int32) (vw : Nat → Int32) (vl : Nat → Int32) (vr : Nat → Int32) (n : Nat) (a : Nat) (b : Nat) (x : Int32) : Nat → Int32 := if a < n then s3Q vq vf vd vw vl vr n a b x else vq
def u3F (vq : Nat → Int32) (vf : Nat → Int32) (vd : Nat → Int32) (vw : Nat → Int32) (vl : Nat → Int32) (vr : Nat → Int32) (n : Nat) (a : Nat) (b : Nat) (x : Int32) : Nat → Int32 := if a < n then s3F vq vf vd vw vl vr n a b x else vf
def u3D (vq : Nat → Int32) (vf : Nat → Int32) (vd : Nat → Int32) (vw : Nat → Int32) (vl : Nat → Int32) (vr : Nat → Int32) (n : Nat) (a : Nat) (b : Nat) (x : Int32) : Nat → Int32 := if a < n then s3D vq vf vd vw vl vr n a b x else vd
def u3W (vq : Nat → Int32) (vf : Nat → Int32) (vd : Nat → Int32) (vw : Nat → Int32) (vl : Nat → Int32) (vr : Nat → Int32) (n : Nat) (a : Nat) (b : Nat) (x : Int32) : Nat → Int32 := if a < n then s3W vq vf vd vw vl vr n a b x else vw
def u3L (vq : Nat → Int32) (vf : Nat → Int32) (vd : Nat → Int32) (vw : Nat → Int32) (vl : Nat → Int32) (vr : Nat → Int32) (n : Nat) (a : Nat) (b : Nat) (x : Int32) : Nat → Int32 := if a < n then s3L vq vf vd vw vl vr n a b x else vl
def u3R (vq : Nat → Int32) (vf : Nat → Int32) (vd : Nat → Int32) (vw : Nat → Int32) (vl : Nat → Int32) (vr : Nat → Int32) (n : Nat) (a : Nat) (b : Nat) (x : Int32) : Nat → Int32 := if a < n then s3R vq vf vd vw vl vr n a b x else vr
set_option maxHeartbeats 4000000 in
set_option maxRecDepth 100000 in
theorem c_L_due_3 (l : Launch) (E : EV) (a : Nat) (b : Nat) (x : Int32) (aq : Nat) (af : Nat) (ad : Nat) (aw : Nat) (al : Nat) (ar : Nat) (vq : Nat → Int32) (vf : Nat → Int32) (vd : Nat → Int32) (vw : Nat → Int32) (vl : Nat → Int32) (vr : Nat → Int32) (n : Nat) (hf : vq 4 = nI n) (hn : n ≤ 20) : rcI l E yL_due cL_due 13 .int 4 [.int (nI 3), .int (nI a), .int (nI b), .int x, .ref aq, .ref af, .ref ad, .ref aw, .ref al, .ref ar] [(aq, .inl (E.2.1, 13, .inl vq)), (af, .inl (E.2.1, 21, .inl vf)), (ad, .inl (E.2.1, 63, .inl vd)), (aw, .inl (E.2.1, 63, .inl vw)), (al, .inl (E.2.1, 63, .inl vl)), (ar, .inl (E.2.1, 63, .inl vr))] (u3V vq vf vd vw vl vr n a b x) [(aq, .inl (E.2.1, 13, .inl (u3Q vq vf vd vw vl vr n a b x))), (af, .inl (E.2.1, 21, .inl (u3F vq vf vd vw vl vr n a b x))), (ad, .inl (E.2.1, 63, .inl (u3D vq vf vd vw vl vr n a b x))), (aw, .inl (E.2.1, 63, .inl (u3W vq vf vd vw vl vr n a b x))), (al, .inl (E.2.1, 63, .inl (u3L vq vf vd vw vl vr n a b x))), (ar, .inl (E.2.1, 63, .inl (u3R vq vf vd vw vl vr n a b x)))] := by
  refine rcI_of (by decide) (Nat.le_of_ble_eq_true rfl) ?_
  intro pg e s m below meth c Q A ls S hP hD0 hE hA hl hret
  have hx := S.1
  have hb := S.2.1
  have hown := S.2.2.2.1
  have hts := S.2.2.2.2
  have hK := hE.1
  have hS : va_S A s.heap s.heap [] := va_S.rf
  have hDa : va_Da A [aq, af, ad, aw, al, ar] := ⟨_, hD0, rfl⟩
  have hl : lv_has ls 13 [(0, .int (nI 3)), (1, .int (nI a)), (2, .int (nI b)), (3, .int x), (4, .ref aq), (5, .ref af), (6, .ref ad), (7, .ref aw), (8, .ref al), (9, .ref ar)] := hl
  refine lv_iload_n hx hb dL_due_0 rfl (lv_at hl 0 rfl) ?_
  refine lv_if_ne (tgt := 135) hx hb dL_due_1 (by decide) (fun _ => ?_) (fun c9 => by first | exact absurd (by decide) c9 | exact absurd c9 (by decide))
  refine lv_iload_n hx hb dL_due_135 rfl (lv_at hl 0 rfl) ?_
  refine lv_bipush (v := nI 6) hx hb dL_due_136 (by decide) ?_
  refine rn_icmp_lt (a := 3) (b := 6) (tgt := 153) hx hb (by omega) (by omega) dL_due_138 (by decide) (fun c_1 => ?_) (fun c_1 => absurd c_1 (by omega))
  refine lv_iload_n hx hb dL_due_153 rfl (lv_at hl 1 rfl) ?_
  refine lv_aload hx hb dL_due_154 (lv_at hl 4 rfl) ?_
  refine lv_iconst (v := nI 4) hx hb dL_due_156 (by decide) ?_
  refine rn_iald (i := 4) hx hb hK hP 0 0 rfl rfl (by omega) (by omega) dL_due_157 ?_
  refine W.eq (congrArg (fun z => F0 m 158 ls (.int z :: [.int (nI a)])) (show vq 4 = nI n from hf)) ?_
  refine rn_icmp_lt (a := a) (b := n) (tgt := 165) hx hb (by omega) (by omega) dL_due_158 (by decide) (fun c_2 => ?_) (fun c_2 => ?_)
  · refine lv_iload_n hx hb dL_due_165 rfl (lv_at hl 0 rfl) ?_
    refine lv_iload_n hx hb dL_due_166 rfl (lv_at hl 1 rfl) ?_
    refine lv_iload_n hx hb dL_due_167 rfl (lv_at hl 2 rfl) ?_
    refine lv_iload_n hx hb dL_due_168 rfl (lv_at hl 3 rfl) ?_
    refine lv_aload hx hb dL_due_169 (lv_at hl 4 rfl) ?_
    refine lv_aload hx hb dL_due_171 (lv_at hl 5 rfl) ?_
    refine lv_aload hx hb dL_due_173 (lv_at hl 6 rfl) ?_
    refine lv_aload hx hb dL_due_175 (lv_at hl 7 rfl) ?_
    refine lv_aload hx hb dL_due_177 (lv_at hl 8 rfl) ?_
    refine lv_aload hx hb dL_due_179 (lv_at hl 9 rfl) ?_
    refine rwS10 (rest := []) S (c_L_ofShot_3 l E a b x aq af ad aw al ar vq vf vd vw vl vr n hf hn c_2) cd_L_ofShot bw_389 ⟨Nat.le_of_ble_eq_true rfl, Nat.le_of_ble_eq_true rfl⟩ ⟨Nat.zero_le _, Nat.zero_le _⟩ hP (hDa.to rfl) hE hA hS [0, 1, 2, 3, 4, 5] rfl rfl [aq, af, ad, aw, al, ar] rfl rfl (Nat.le_of_ble_eq_true rfl) hl.1 dL_due_181 (fun H locs hP _ hS => ?_)
    have hP : va_P E.1 vwCl [(aq, .inl (E.2.1, 13, .inl (s3Q vq vf vd vw vl vr n a b x))), (af, .inl (E.2.1, 21, .inl (s3F vq vf vd vw vl vr n a b x))), (ad, .inl (E.2.1, 63, .inl (s3D vq vf vd vw vl vr n a b x))), (aw, .inl (E.2.1, 63, .inl (s3W vq vf vd vw vl vr n a b x))), (al, .inl (E.2.1, 63, .inl (s3L vq vf vd vw vl vr n a b x))), (ar, .inl (E.2.1, 63, .inl (s3R vq vf vd vw vl vr n a b x)))] H := hP
    exact hret _ _ _ _ _ _ (by rw [u3V, if_pos c_2]) (by rw [show u3Q vq vf vd vw vl vr n a b x = s3Q vq vf vd vw vl vr n a b x from by rw [u3Q, if_pos c_2], show u3F vq vf vd vw vl vr n a b x = s3F vq vf vd vw vl vr n a b x from by rw [u3F, if_pos c_2], show u3D vq vf vd vw vl vr n a b x = s3D vq vf vd vw vl vr n a b x from by rw [u3D, if_pos c_2], show u3W vq vf vd vw vl vr n a b x = s3W vq vf vd vw vl vr n a b x from by rw [u3W, if_pos c_2], show u3L vq vf vd vw vl vr n a b x = s3L vq vf vd vw vl vr n a b x from by rw [u3L, if_pos c_2], show u3R vq vf vd vw vl vr n a b x = s3R vq vf vd vw vl vr n a b x from by rw [u3R, if_pos c_2]]) rfl hP hS dL_due_184
  · refine lv_iconst (v := (-1)) hx hb dL_due_161 (by decide) ?_
    refine lv_goto (tgt := 184) hx hb dL_due_162 (by decide) ?_
    exact hret _ _ _ _ _ _ (by rw [u3V, if_neg c_2]) (by rw [show u3Q vq vf vd vw vl vr n a b x = vq from by rw [u3Q, if_neg c_2], show u3F vq vf vd vw vl vr n a b x = vf from by rw [u3F, if_neg c_2], show u3D vq vf vd vw vl vr n a b x = vd from by rw [u3D, if_neg c_2], show u3W vq vf vd vw vl vr n a b x = vw from by rw [u3W, if_neg c_2], show u3L vq vf vd vw vl vr n a b x = vl from by rw [u3L, if_neg c_2], show u3R vq vf vd vw vl vr n a b x = vr from by rw [u3R, if_neg c_2]]) rfl hP hS dL_due_184

def u4V (vq : Nat → Int32) (vf : Nat → Int32) (vd : Nat → Int32) (vw : Nat → Int32) (vl : Nat → Int32) (vr : Nat → Int32) (n : Nat) (a : Nat) (b : Nat) (x : Int32) : Int32 := if a < n then s4V vq vf vd vw vl vr n a b x else (-1)
def u4Q (vq : Nat → Int32) (vf : Nat → Int32) (vd : Nat → Int32) (vw : Nat → Int32) (vl : Nat → Int32) (vr : Nat → Int32) (n : Nat) (a : Nat) (b : Nat) (x : Int32) : Nat → Int32 := if a < n then s4Q vq vf vd vw vl vr n a b x else vq
def u4F (vq : Nat → Int32) (vf : Nat → Int32) (vd : Nat → Int32) (vw : Nat → Int32) (vl : Nat → Int32) (vr : Nat → Int32) (n : Nat) (a : Nat) (b : Nat) (x : Int32) : Nat → Int32 := if a < n then s4F vq vf vd vw vl vr n a b x else vf
def u4D (vq : Nat → Int32) (vf : Nat → Int32) (vd : Nat → Int32) (vw : Nat → Int32) (vl : Nat → Int32) (vr : Nat → Int32) (n : Nat) (a : Nat) (b : Nat) (x : Int32) : Nat → Int32 := if a < n then s4D vq vf vd vw vl vr n a b x else vd
def u4W (vq : Nat → Int32) (vf : Nat → Int32) (vd : Nat → Int32) (vw : Nat → Int32) (vl : Nat → Int32) (vr : Nat → Int32) (n : Nat) (a : Nat) (b : Nat) (x : Int32) : Nat → Int32 := if a < n then s4W vq vf vd vw vl vr n a b x else vw
def u4L (vq : Nat → Int32) (vf : Nat → Int32) (vd : Nat → Int32) (vw : Nat → Int32) (vl : Nat → Int32) (vr : Nat → Int32) (n : Nat) (a : Nat) (b : Nat) (x : Int32) : Nat → Int32 := if a < n then s4L vq vf vd vw vl vr n a b x else vl
def u4R (vq : Nat → Int32) (vf : Nat → Int32) (vd : Nat → Int32) (vw : Nat → Int32) (vl : Nat → Int32) (vr : Nat → Int32) (n : Nat) (a : Nat) (b : Nat) (x : Int32) : Nat → Int32 := if a < n then s4R vq vf vd vw vl vr n a b x else vr
set_option maxHeartbeats 4000000 in
set_option maxRecDepth 100000 in
theorem c_L_due_4 (l : Launch) (E : EV) (a : Nat) (b : Nat) (x : Int32) (aq : Nat) (af : Nat) (ad : Nat) (aw : Nat) (al : Nat) (ar : Nat) (vq : Nat → Int32) (vf : Nat → Int32) (vd : Nat → Int32) (vw : Nat → Int32) (vl : Nat → Int32) (vr : Nat → Int32) (n : Nat) (hf : vq 4 = nI n) (hn : n ≤ 20) : rcI l E yL_due cL_due 13 .int 4 [.int (nI 4), .int (nI a), .int (nI b), .int x, .ref aq, .ref af, .ref ad, .ref aw, .ref al, .ref ar] [(aq, .inl (E.2.1, 13, .inl vq)), (af, .inl (E.2.1, 21, .inl vf)), (ad, .inl (E.2.1, 63, .inl vd)), (aw, .inl (E.2.1, 63, .inl vw)), (al, .inl (E.2.1, 63, .inl vl)), (ar, .inl (E.2.1, 63, .inl vr))] (u4V vq vf vd vw vl vr n a b x) [(aq, .inl (E.2.1, 13, .inl (u4Q vq vf vd vw vl vr n a b x))), (af, .inl (E.2.1, 21, .inl (u4F vq vf vd vw vl vr n a b x))), (ad, .inl (E.2.1, 63, .inl (u4D vq vf vd vw vl vr n a b x))), (aw, .inl (E.2.1, 63, .inl (u4W vq vf vd vw vl vr n a b x))), (al, .inl (E.2.1, 63, .inl (u4L vq vf vd vw vl vr n a b x))), (ar, .inl (E.2.1, 63, .inl (u4R vq vf vd vw vl vr n a b x)))] := by
  refine rcI_of (by decide) (Nat.le_of_ble_eq_true rfl) ?_
  intro pg e s m below meth c Q A ls S hP hD0 hE hA hl hret
  have hx := S.1
  have hb := S.2.1
  have hown := S.2.2.2.1
  have hts := S.2.2.2.2
  have hK := hE.1
  have hS : va_S A s.heap s.heap [] := va_S.rf
  have hDa : va_Da A [aq, af, ad, aw, al, ar] := ⟨_, hD0, rfl⟩
  have hl : lv_has ls 13 [(0, .int (nI 4)), (1, .int (nI a)), (2, .int (nI b)), (3, .int x), (4, .ref aq), (5, .ref af), (6, .ref ad), (7, .ref aw), (8, .ref al), (9, .ref ar)] := hl
  refine lv_iload_n hx hb dL_due_0 rfl (lv_at hl 0 rfl) ?_
  refine lv_if_ne (tgt := 135) hx hb dL_due_1 (by decide) (fun _ => ?_) (fun c9 => by first | exact absurd (by decide) c9 | exact absurd c9 (by decide))
  refine lv_iload_n hx hb dL_due_135 rfl (lv_at hl 0 rfl) ?_
  refine lv_bipush (v := nI 6) hx hb dL_due_136 (by decide) ?_
  refine rn_icmp_lt (a := 4) (b := 6) (tgt := 153) hx hb (by omega) (by omega) dL_due_138 (by decide) (fun c_1 => ?_) (fun c_1 => absurd c_1 (by omega))
  refine lv_iload_n hx hb dL_due_153 rfl (lv_at hl 1 rfl) ?_
  refine lv_aload hx hb dL_due_154 (lv_at hl 4 rfl) ?_
  refine lv_iconst (v := nI 4) hx hb dL_due_156 (by decide) ?_
  refine rn_iald (i := 4) hx hb hK hP 0 0 rfl rfl (by omega) (by omega) dL_due_157 ?_
  refine W.eq (congrArg (fun z => F0 m 158 ls (.int z :: [.int (nI a)])) (show vq 4 = nI n from hf)) ?_
  refine rn_icmp_lt (a := a) (b := n) (tgt := 165) hx hb (by omega) (by omega) dL_due_158 (by decide) (fun c_2 => ?_) (fun c_2 => ?_)
  · refine lv_iload_n hx hb dL_due_165 rfl (lv_at hl 0 rfl) ?_
    refine lv_iload_n hx hb dL_due_166 rfl (lv_at hl 1 rfl) ?_
    refine lv_iload_n hx hb dL_due_167 rfl (lv_at hl 2 rfl) ?_
    refine lv_iload_n hx hb dL_due_168 rfl (lv_at hl 3 rfl) ?_
    refine lv_aload hx hb dL_due_169 (lv_at hl 4 rfl) ?_
    refine lv_aload hx hb dL_due_171 (lv_at hl 5 rfl) ?_
    refine lv_aload hx hb dL_due_173 (lv_at hl 6 rfl) ?_
    refine lv_aload hx hb dL_due_175 (lv_at hl 7 rfl) ?_
    refine lv_aload hx hb dL_due_177 (lv_at hl 8 rfl) ?_
    refine lv_aload hx hb dL_due_179 (lv_at hl 9 rfl) ?_
    refine rwS10 (rest := []) S (c_L_ofShot_4 l E a b x aq af ad aw al ar vq vf vd vw vl vr n hf hn c_2) cd_L_ofShot bw_389 ⟨Nat.le_of_ble_eq_true rfl, Nat.le_of_ble_eq_true rfl⟩ ⟨Nat.zero_le _, Nat.zero_le _⟩ hP (hDa.to rfl) hE hA hS [0, 1, 2, 3, 4, 5] rfl rfl [aq, af, ad, aw, al, ar] rfl rfl (Nat.le_of_ble_eq_true rfl) hl.1 dL_due_181 (fun H locs hP _ hS => ?_)
    have hP : va_P E.1 vwCl [(aq, .inl (E.2.1, 13, .inl (s4Q vq vf vd vw vl vr n a b x))), (af, .inl (E.2.1, 21, .inl (s4F vq vf vd vw vl vr n a b x))), (ad, .inl (E.2.1, 63, .inl (s4D vq vf vd vw vl vr n a b x))), (aw, .inl (E.2.1, 63, .inl (s4W vq vf vd vw vl vr n a b x))), (al, .inl (E.2.1, 63, .inl (s4L vq vf vd vw vl vr n a b x))), (ar, .inl (E.2.1, 63, .inl (s4R vq vf vd vw vl vr n a b x)))] H := hP
    exact hret _ _ _ _ _ _ (by rw [u4V, if_pos c_2]) (by rw [show u4Q vq vf vd vw vl vr n a b x = s4Q vq vf vd vw vl vr n a b x from by rw [u4Q, if_pos c_2], show u4F vq vf vd vw vl vr n a b x = s4F vq vf vd vw vl vr n a b x from by rw [u4F, if_pos c_2], show u4D vq vf vd vw vl vr n a b x = s4D vq vf vd vw vl vr n a b x from by rw [u4D, if_pos c_2], show u4W vq vf vd vw vl vr n a b x = s4W vq vf vd vw vl vr n a b x from by rw [u4W, if_pos c_2], show u4L vq vf vd vw vl vr n a b x = s4L vq vf vd vw vl vr n a b x from by rw [u4L, if_pos c_2], show u4R vq vf vd vw vl vr n a b x = s4R vq vf vd vw vl vr n a b x from by rw [u4R, if_pos c_2]]) rfl hP hS dL_due_184
  · refine lv_iconst (v := (-1)) hx hb dL_due_161 (by decide) ?_
    refine lv_goto (tgt := 184) hx hb dL_due_162 (by decide) ?_
    exact hret _ _ _ _ _ _ (by rw [u4V, if_neg c_2]) (by rw [show u4Q vq vf vd vw vl vr n a b x = vq from by rw [u4Q, if_neg c_2], show u4F vq vf vd vw vl vr n a b x = vf from by rw [u4F, if_neg c_2], show u4D vq vf vd vw vl vr n a b x = vd from by rw [u4D, if_neg c_2], show u4W vq vf vd vw vl vr n a b x = vw from by rw [u4W, if_neg c_2], show u4L vq vf vd vw vl vr n a b x = vl from by rw [u4L, if_neg c_2], show u4R vq vf vd vw vl vr n a b x = vr from by rw [u4R, if_neg c_2]]) rfl hP hS dL_due_184

def u5V (vq : Nat → Int32) (vf : Nat → Int32) (vd : Nat → Int32) (vw : Nat → Int32) (vl : Nat → Int32) (vr : Nat → Int32) (n : Nat) (a : Nat) (b : Nat) (x : Int32) : Int32 := if a < n then s5V vq vf vd vw vl vr n a b x else (-1)
def u5Q (vq : Nat → Int32) (vf : Nat → Int32) (vd : Nat → Int32) (vw : Nat → Int32) (vl : Nat → Int32) (vr : Nat → Int32) (n : Nat) (a : Nat) (b : Nat) (x : Int32) : Nat → Int32 := if a < n then s5Q vq vf vd vw vl vr n a b x else vq
def u5F (vq : Nat → Int32) (vf : Nat → Int32) (vd : Nat → Int32) (vw : Nat → Int32) (vl : Nat → Int32) (vr : Nat → Int32) (n : Nat) (a : Nat) (b : Nat) (x : Int32) : Nat → Int32 := if a < n then s5F vq vf vd vw vl vr n a b x else vf
def u5D (vq : Nat → Int32) (vf : Nat → Int32) (vd : Nat → Int32) (vw : Nat → Int32) (vl : Nat → Int32) (vr : Nat → Int32) (n : Nat) (a : Nat) (b : Nat) (x : Int32) : Nat → Int32 := if a < n then s5D vq vf vd vw vl vr n a b x else vd
def u5W (vq : Nat → Int32) (vf : Nat → Int32) (vd : Nat → Int32) (vw : Nat → Int32) (vl : Nat → Int32) (vr : Nat → Int32) (n : Nat) (a : Nat) (b : Nat) (x : Int32) : Nat → Int32 := if a < n then s5W vq vf vd vw vl vr n a b x else vw
def u5L (vq : Nat → Int32) (vf : Nat → Int32) (vd : Nat → Int32) (vw : Nat → Int32) (vl : Nat → Int32) (vr : Nat → Int32) (n : Nat) (a : Nat) (b : Nat) (x : Int32) : Nat → Int32 := if a < n then s5L vq vf vd vw vl vr n a b x else vl
def u5R (vq : Nat → Int32) (vf : Nat → Int32) (vd : Nat → Int32) (vw : Nat → Int32) (vl : Nat → Int32) (vr : Nat → Int32) (n : Nat) (a : Nat) (b : Nat) (x : Int32) : Nat → Int32 := if a < n then s5R vq vf vd vw vl vr n a b x else vr
set_option maxHeartbeats 4000000 in
set_option maxRecDepth 100000 in
theorem c_L_due_5 (l : Launch) (E : EV) (a : Nat) (b : Nat) (x : Int32) (aq : Nat) (af : Nat) (ad : Nat) (aw : Nat) (al : Nat) (ar : Nat) (vq : Nat → Int32) (vf : Nat → Int32) (vd : Nat → Int32) (vw : Nat → Int32) (vl : Nat → Int32) (vr : Nat → Int32) (n : Nat) (hf : vq 4 = nI n) (hn : n ≤ 20) : rcI l E yL_due cL_due 13 .int 4 [.int (nI 5), .int (nI a), .int (nI b), .int x, .ref aq, .ref af, .ref ad, .ref aw, .ref al, .ref ar] [(aq, .inl (E.2.1, 13, .inl vq)), (af, .inl (E.2.1, 21, .inl vf)), (ad, .inl (E.2.1, 63, .inl vd)), (aw, .inl (E.2.1, 63, .inl vw)), (al, .inl (E.2.1, 63, .inl vl)), (ar, .inl (E.2.1, 63, .inl vr))] (u5V vq vf vd vw vl vr n a b x) [(aq, .inl (E.2.1, 13, .inl (u5Q vq vf vd vw vl vr n a b x))), (af, .inl (E.2.1, 21, .inl (u5F vq vf vd vw vl vr n a b x))), (ad, .inl (E.2.1, 63, .inl (u5D vq vf vd vw vl vr n a b x))), (aw, .inl (E.2.1, 63, .inl (u5W vq vf vd vw vl vr n a b x))), (al, .inl (E.2.1, 63, .inl (u5L vq vf vd vw vl vr n a b x))), (ar, .inl (E.2.1, 63, .inl (u5R vq vf vd vw vl vr n a b x)))] := by
  refine rcI_of (by decide) (Nat.le_of_ble_eq_true rfl) ?_
  intro pg e s m below meth c Q A ls S hP hD0 hE hA hl hret
  have hx := S.1
  have hb := S.2.1
  have hown := S.2.2.2.1
  have hts := S.2.2.2.2
  have hK := hE.1
  have hS : va_S A s.heap s.heap [] := va_S.rf
  have hDa : va_Da A [aq, af, ad, aw, al, ar] := ⟨_, hD0, rfl⟩
  have hl : lv_has ls 13 [(0, .int (nI 5)), (1, .int (nI a)), (2, .int (nI b)), (3, .int x), (4, .ref aq), (5, .ref af), (6, .ref ad), (7, .ref aw), (8, .ref al), (9, .ref ar)] := hl
  refine lv_iload_n hx hb dL_due_0 rfl (lv_at hl 0 rfl) ?_
  refine lv_if_ne (tgt := 135) hx hb dL_due_1 (by decide) (fun _ => ?_) (fun c9 => by first | exact absurd (by decide) c9 | exact absurd c9 (by decide))
  refine lv_iload_n hx hb dL_due_135 rfl (lv_at hl 0 rfl) ?_
  refine lv_bipush (v := nI 6) hx hb dL_due_136 (by decide) ?_
  refine rn_icmp_lt (a := 5) (b := 6) (tgt := 153) hx hb (by omega) (by omega) dL_due_138 (by decide) (fun c_1 => ?_) (fun c_1 => absurd c_1 (by omega))
  refine lv_iload_n hx hb dL_due_153 rfl (lv_at hl 1 rfl) ?_
  refine lv_aload hx hb dL_due_154 (lv_at hl 4 rfl) ?_
  refine lv_iconst (v := nI 4) hx hb dL_due_156 (by decide) ?_
  refine rn_iald (i := 4) hx hb hK hP 0 0 rfl rfl (by omega) (by omega) dL_due_157 ?_
  refine W.eq (congrArg (fun z => F0 m 158 ls (.int z :: [.int (nI a)])) (show vq 4 = nI n from hf)) ?_
  refine rn_icmp_lt (a := a) (b := n) (tgt := 165) hx hb (by omega) (by omega) dL_due_158 (by decide) (fun c_2 => ?_) (fun c_2 => ?_)
  · refine lv_iload_n hx hb dL_due_165 rfl (lv_at hl 0 rfl) ?_
    refine lv_iload_n hx hb dL_due_166 rfl (lv_at hl 1 rfl) ?_
    refine lv_iload_n hx hb dL_due_167 rfl (lv_at hl 2 rfl) ?_
    refine lv_iload_n hx hb dL_due_168 rfl (lv_at hl 3 rfl) ?_
    refine lv_aload hx hb dL_due_169 (lv_at hl 4 rfl) ?_
    refine lv_aload hx hb dL_due_171 (lv_at hl 5 rfl) ?_
    refine lv_aload hx hb dL_due_173 (lv_at hl 6 rfl) ?_
    refine lv_aload hx hb dL_due_175 (lv_at hl 7 rfl) ?_
    refine lv_aload hx hb dL_due_177 (lv_at hl 8 rfl) ?_
    refine lv_aload hx hb dL_due_179 (lv_at hl 9 rfl) ?_
    refine rwS10 (rest := []) S (c_L_ofShot_5 l E a b x aq af ad aw al ar vq vf vd vw vl vr n hf hn c_2) cd_L_ofShot bw_389 ⟨Nat.le_of_ble_eq_true rfl, Nat.le_of_ble_eq_true rfl⟩ ⟨Nat.zero_le _, Nat.zero_le _⟩ hP (hDa.to rfl) hE hA hS [0, 1, 2, 3, 4, 5] rfl rfl [aq, af, ad, aw, al, ar] rfl rfl (Nat.le_of_ble_eq_true rfl) hl.1 dL_due_181 (fun H locs hP _ hS => ?_)
    have hP : va_P E.1 vwCl [(aq, .inl (E.2.1, 13, .inl (s5Q vq vf vd vw vl vr n a b x))), (af, .inl (E.2.1, 21, .inl (s5F vq vf vd vw vl vr n a b x))), (ad, .inl (E.2.1, 63, .inl (s5D vq vf vd vw vl vr n a b x))), (aw, .inl (E.2.1, 63, .inl (s5W vq vf vd vw vl vr n a b x))), (al, .inl (E.2.1, 63, .inl (s5L vq vf vd vw vl vr n a b x))), (ar, .inl (E.2.1, 63, .inl (s5R vq vf vd vw vl vr n a b x)))] H := hP
    exact hret _ _ _ _ _ _ (by rw [u5V, if_pos c_2]) (by rw [show u5Q vq vf vd vw vl vr n a b x = s5Q vq vf vd vw vl vr n a b x from by rw [u5Q, if_pos c_2], show u5F vq vf vd vw vl vr n a b x = s5F vq vf vd vw vl vr n a b x from by rw [u5F, if_pos c_2], show u5D vq vf vd vw vl vr n a b x = s5D vq vf vd vw vl vr n a b x from by rw [u5D, if_pos c_2], show u5W vq vf vd vw vl vr n a b x = s5W vq vf vd vw vl vr n a b x from by rw [u5W, if_pos c_2], show u5L vq vf vd vw vl vr n a b x = s5L vq vf vd vw vl vr n a b x from by rw [u5L, if_pos c_2], show u5R vq vf vd vw vl vr n a b x = s5R vq vf vd vw vl vr n a b x from by rw [u5R, if_pos c_2]]) rfl hP hS dL_due_184
  · refine lv_iconst (v := (-1)) hx hb dL_due_161 (by decide) ?_
    refine lv_goto (tgt := 184) hx hb dL_due_162 (by decide) ?_
    exact hret _ _ _ _ _ _ (by rw [u5V, if_neg c_2]) (by rw [show u5Q vq vf vd vw vl vr n a b x = vq from by rw [u5Q, if_neg c_2], show u5F vq vf vd vw vl vr n a b x = vf from by rw [u5F, if_neg c_2], show u5D vq vf vd vw vl vr n a b x = vd from by rw [u5D, if_neg c_2], show u5W vq vf vd vw vl vr n a b x = vw from by rw [u5W, if_neg c_2], show u5L vq vf vd vw vl vr n a b x = vl from by rw [u5L, if_neg c_2], show u5R vq vf vd vw vl vr n a b x = vr from by rw [u5R, if_neg c_2]]) rfl hP hS dL_due_184

def u7V (vq : Nat → Int32) (vf : Nat → Int32) (vd : Nat → Int32) (vw : Nat → Int32) (vl : Nat → Int32) (vr : Nat → Int32) (n : Nat) (a : Nat) (b : Nat) (x : Int32) : Int32 := if a < n then s7V vq vf vd vw vl vr n a b x else (-1)
def u7Q (vq : Nat → Int32) (vf : Nat → Int32) (vd : Nat → Int32) (vw : Nat → Int32) (vl : Nat → Int32) (vr : Nat → Int32) (n : Nat) (a : Nat) (b : Nat) (x : Int32) : Nat → Int32 := if a < n then s7Q vq vf vd vw vl vr n a b x else vq
def u7F (vq : Nat → Int32) (vf : Nat → Int32) (vd : Nat → Int32) (vw : Nat → Int32) (vl : Nat → Int32) (vr : Nat → Int32) (n : Nat) (a : Nat) (b : Nat) (x : Int32) : Nat → Int32 := if a < n then s7F vq vf vd vw vl vr n a b x else vf
def u7D (vq : Nat → Int32) (vf : Nat → Int32) (vd : Nat → Int32) (vw : Nat → Int32) (vl : Nat → Int32) (vr : Nat → Int32) (n : Nat) (a : Nat) (b : Nat) (x : Int32) : Nat → Int32 := if a < n then s7D vq vf vd vw vl vr n a b x else vd
def u7W (vq : Nat → Int32) (vf : Nat → Int32) (vd : Nat → Int32) (vw : Nat → Int32) (vl : Nat → Int32) (vr : Nat → Int32) (n : Nat) (a : Nat) (b : Nat) (x : Int32) : Nat → Int32 := if a < n then s7W vq vf vd vw vl vr n a b x else vw
def u7L (vq : Nat → Int32) (vf : Nat → Int32) (vd : Nat → Int32) (vw : Nat → Int32) (vl : Nat → Int32) (vr : Nat → Int32) (n : Nat) (a : Nat) (b : Nat) (x : Int32) : Nat → Int32 := if a < n then s7L vq vf vd vw vl vr n a b x else vl
def u7R (vq : Nat → Int32) (vf : Nat → Int32) (vd : Nat → Int32) (vw : Nat → Int32) (vl : Nat → Int32) (vr : Nat → Int32) (n : Nat) (a : Nat) (b : Nat) (x : Int32) : Nat → Int32 := if a < n then s7R vq vf vd vw vl vr n a b x else vr
set_option maxHeartbeats 4000000 in
set_option maxRecDepth 100000 in
theorem c_L_due_7 (l : Launch) (E : EV) (a : Nat) (b : Nat) (x : Int32) (aq : Nat) (af : Nat) (ad : Nat) (aw : Nat) (al : Nat) (ar : Nat) (vq : Nat → Int32) (vf : Nat → Int32) (vd : Nat → Int32) (vw : Nat → Int32) (vl : Nat → Int32) (vr : Nat → Int32) (n : Nat) (hf : vq 4 = nI n) (hn : n ≤ 20) (hst : ¬ vq 0 = 0) : rcI l E yL_due cL_due 13 .int 4 [.int (nI 7), .int (nI a), .int (nI b), .int x, .ref aq, .ref af, .ref ad, .ref aw, .ref al, .ref ar] [(aq, .inl (E.2.1, 13, .inl vq)), (af, .inl (E.2.1, 21, .inl vf)), (ad, .inl (E.2.1, 63, .inl vd)), (aw, .inl (E.2.1, 63, .inl vw)), (al, .inl (E.2.1, 63, .inl vl)), (ar, .inl (E.2.1, 63, .inl vr))] (u7V vq vf vd vw vl vr n a b x) [(aq, .inl (E.2.1, 13, .inl (u7Q vq vf vd vw vl vr n a b x))), (af, .inl (E.2.1, 21, .inl (u7F vq vf vd vw vl vr n a b x))), (ad, .inl (E.2.1, 63, .inl (u7D vq vf vd vw vl vr n a b x))), (aw, .inl (E.2.1, 63, .inl (u7W vq vf vd vw vl vr n a b x))), (al, .inl (E.2.1, 63, .inl (u7L vq vf vd vw vl vr n a b x))), (ar, .inl (E.2.1, 63, .inl (u7R vq vf vd vw vl vr n a b x)))] := by
  refine rcI_of (by decide) (Nat.le_of_ble_eq_true rfl) ?_
  intro pg e s m below meth c Q A ls S hP hD0 hE hA hl hret
  have hx := S.1
  have hb := S.2.1
  have hown := S.2.2.2.1
  have hts := S.2.2.2.2
  have hK := hE.1
  have hS : va_S A s.heap s.heap [] := va_S.rf
  have hDa : va_Da A [aq, af, ad, aw, al, ar] := ⟨_, hD0, rfl⟩
  have hl : lv_has ls 13 [(0, .int (nI 7)), (1, .int (nI a)), (2, .int (nI b)), (3, .int x), (4, .ref aq), (5, .ref af), (6, .ref ad), (7, .ref aw), (8, .ref al), (9, .ref ar)] := hl
  refine lv_iload_n hx hb dL_due_0 rfl (lv_at hl 0 rfl) ?_
  refine lv_if_ne (tgt := 135) hx hb dL_due_1 (by decide) (fun _ => ?_) (fun c9 => by first | exact absurd (by decide) c9 | exact absurd c9 (by decide))
  refine lv_iload_n hx hb dL_due_135 rfl (lv_at hl 0 rfl) ?_
  refine lv_bipush (v := nI 6) hx hb dL_due_136 (by decide) ?_
  refine rn_icmp_lt (a := 7) (b := 6) (tgt := 153) hx hb (by omega) (by omega) dL_due_138 (by decide) (fun c_1 => absurd c_1 (by omega)) (fun c_1 => ?_)
  refine lv_iload_n hx hb dL_due_141 rfl (lv_at hl 0 rfl) ?_
  refine lv_bipush (v := nI 7) hx hb dL_due_142 (by decide) ?_
  refine rn_icmp_eq (a := 7) (b := 7) (tgt := 153) hx hb (by omega) (by omega) dL_due_144 (by decide) (fun c_2 => ?_) (fun c_2 => absurd c_2 (by omega))
  refine lv_iload_n hx hb dL_due_153 rfl (lv_at hl 1 rfl) ?_
  refine lv_aload hx hb dL_due_154 (lv_at hl 4 rfl) ?_
  refine lv_iconst (v := nI 4) hx hb dL_due_156 (by decide) ?_
  refine rn_iald (i := 4) hx hb hK hP 0 0 rfl rfl (by omega) (by omega) dL_due_157 ?_
  refine W.eq (congrArg (fun z => F0 m 158 ls (.int z :: [.int (nI a)])) (show vq 4 = nI n from hf)) ?_
  refine rn_icmp_lt (a := a) (b := n) (tgt := 165) hx hb (by omega) (by omega) dL_due_158 (by decide) (fun c_3 => ?_) (fun c_3 => ?_)
  · refine lv_iload_n hx hb dL_due_165 rfl (lv_at hl 0 rfl) ?_
    refine lv_iload_n hx hb dL_due_166 rfl (lv_at hl 1 rfl) ?_
    refine lv_iload_n hx hb dL_due_167 rfl (lv_at hl 2 rfl) ?_
    refine lv_iload_n hx hb dL_due_168 rfl (lv_at hl 3 rfl) ?_
    refine lv_aload hx hb dL_due_169 (lv_at hl 4 rfl) ?_
    refine lv_aload hx hb dL_due_171 (lv_at hl 5 rfl) ?_
    refine lv_aload hx hb dL_due_173 (lv_at hl 6 rfl) ?_
    refine lv_aload hx hb dL_due_175 (lv_at hl 7 rfl) ?_
    refine lv_aload hx hb dL_due_177 (lv_at hl 8 rfl) ?_
    refine lv_aload hx hb dL_due_179 (lv_at hl 9 rfl) ?_
    refine rwS10 (rest := []) S (c_L_ofShot_7 l E a b x aq af ad aw al ar vq vf vd vw vl vr n hf hn c_3 hst) cd_L_ofShot bw_389 ⟨Nat.le_of_ble_eq_true rfl, Nat.le_of_ble_eq_true rfl⟩ ⟨Nat.zero_le _, Nat.zero_le _⟩ hP (hDa.to rfl) hE hA hS [0, 1, 2, 3, 4, 5] rfl rfl [aq, af, ad, aw, al, ar] rfl rfl (Nat.le_of_ble_eq_true rfl) hl.1 dL_due_181 (fun H locs hP _ hS => ?_)
    have hP : va_P E.1 vwCl [(aq, .inl (E.2.1, 13, .inl (s7Q vq vf vd vw vl vr n a b x))), (af, .inl (E.2.1, 21, .inl (s7F vq vf vd vw vl vr n a b x))), (ad, .inl (E.2.1, 63, .inl (s7D vq vf vd vw vl vr n a b x))), (aw, .inl (E.2.1, 63, .inl (s7W vq vf vd vw vl vr n a b x))), (al, .inl (E.2.1, 63, .inl (s7L vq vf vd vw vl vr n a b x))), (ar, .inl (E.2.1, 63, .inl (s7R vq vf vd vw vl vr n a b x)))] H := hP
    exact hret _ _ _ _ _ _ (by rw [u7V, if_pos c_3]) (by rw [show u7Q vq vf vd vw vl vr n a b x = s7Q vq vf vd vw vl vr n a b x from by rw [u7Q, if_pos c_3], show u7F vq vf vd vw vl vr n a b x = s7F vq vf vd vw vl vr n a b x from by rw [u7F, if_pos c_3], show u7D vq vf vd vw vl vr n a b x = s7D vq vf vd vw vl vr n a b x from by rw [u7D, if_pos c_3], show u7W vq vf vd vw vl vr n a b x = s7W vq vf vd vw vl vr n a b x from by rw [u7W, if_pos c_3], show u7L vq vf vd vw vl vr n a b x = s7L vq vf vd vw vl vr n a b x from by rw [u7L, if_pos c_3], show u7R vq vf vd vw vl vr n a b x = s7R vq vf vd vw vl vr n a b x from by rw [u7R, if_pos c_3]]) rfl hP hS dL_due_184
  · refine lv_iconst (v := (-1)) hx hb dL_due_161 (by decide) ?_
    refine lv_goto (tgt := 184) hx hb dL_due_162 (by decide) ?_
    exact hret _ _ _ _ _ _ (by rw [u7V, if_neg c_3]) (by rw [show u7Q vq vf vd vw vl vr n a b x = vq from by rw [u7Q, if_neg c_3], show u7F vq vf vd vw vl vr n a b x = vf from by rw [u7F, if_neg c_3], show u7D vq vf vd vw vl vr n a b x = vd from by rw [u7D, if_neg c_3], show u7W vq vf vd vw vl vr n a b x = vw from by rw [u7W, if_neg c_3], show u7L vq vf vd vw vl vr n a b x = vl from by rw [u7L, if_neg c_3], show u7R vq vf vd vw vl vr n a b x = vr from by rw [u7R, if_neg c_3]]) rfl hP hS dL_due_184

def u12V (vq : Nat → Int32) (vf : Nat → Int32) (vd : Nat → Int32) (vw : Nat → Int32) (vl : Nat → Int32) (vr : Nat → Int32) (n : Nat) (a : Nat) (b : Nat) (x : Int32) : Int32 := if a < n then s12V vq vf vd vw vl vr n a b x else (-1)
def u12Q (vq : Nat → Int32) (vf : Nat → Int32) (vd : Nat → Int32) (vw : Nat → Int32) (vl : Nat → Int32) (vr : Nat → Int32) (n : Nat) (a : Nat) (b : Nat) (x : Int32) : Nat → Int32 := if a < n then s12Q vq vf vd vw vl vr n a b x else vq
def u12F (vq : Nat → Int32) (vf : Nat → Int32) (vd : Nat → Int32) (vw : Nat → Int32) (vl : Nat → Int32) (vr : Nat → Int32) (n : Nat) (a : Nat) (b : Nat) (x : Int32) : Nat → Int32 := if a < n then s12F vq vf vd vw vl vr n a b x else vf
def u12D (vq : Nat → Int32) (vf : Nat → Int32) (vd : Nat → Int32) (vw : Nat → Int32) (vl : Nat → Int32) (vr : Nat → Int32) (n : Nat) (a : Nat) (b : Nat) (x : Int32) : Nat → Int32 := if a < n then s12D vq vf vd vw vl vr n a b x else vd
def u12W (vq : Nat → Int32) (vf : Nat → Int32) (vd : Nat → Int32) (vw : Nat → Int32) (vl : Nat → Int32) (vr : Nat → Int32) (n : Nat) (a : Nat) (b : Nat) (x : Int32) : Nat → Int32 := if a < n then s12W vq vf vd vw vl vr n a b x else vw
def u12L (vq : Nat → Int32) (vf : Nat → Int32) (vd : Nat → Int32) (vw : Nat → Int32) (vl : Nat → Int32) (vr : Nat → Int32) (n : Nat) (a : Nat) (b : Nat) (x : Int32) : Nat → Int32 := if a < n then s12L vq vf vd vw vl vr n a b x else vl
def u12R (vq : Nat → Int32) (vf : Nat → Int32) (vd : Nat → Int32) (vw : Nat → Int32) (vl : Nat → Int32) (vr : Nat → Int32) (n : Nat) (a : Nat) (b : Nat) (x : Int32) : Nat → Int32 := if a < n then s12R vq vf vd vw vl vr n a b x else vr
set_option maxHeartbeats 4000000 in
set_option maxRecDepth 100000 in
theorem c_L_due_12 (l : Launch) (E : EV) (a : Nat) (b : Nat) (x : Int32) (aq : Nat) (af : Nat) (ad : Nat) (aw : Nat) (al : Nat) (ar : Nat) (vq : Nat → Int32) (vf : Nat → Int32) (vd : Nat → Int32) (vw : Nat → Int32) (vl : Nat → Int32) (vr : Nat → Int32) (n : Nat) (hf : vq 4 = nI n) (hn : n ≤ 20) : rcI l E yL_due cL_due 13 .int 4 [.int (nI 12), .int (nI a), .int (nI b), .int x, .ref aq, .ref af, .ref ad, .ref aw, .ref al, .ref ar] [(aq, .inl (E.2.1, 13, .inl vq)), (af, .inl (E.2.1, 21, .inl vf)), (ad, .inl (E.2.1, 63, .inl vd)), (aw, .inl (E.2.1, 63, .inl vw)), (al, .inl (E.2.1, 63, .inl vl)), (ar, .inl (E.2.1, 63, .inl vr))] (u12V vq vf vd vw vl vr n a b x) [(aq, .inl (E.2.1, 13, .inl (u12Q vq vf vd vw vl vr n a b x))), (af, .inl (E.2.1, 21, .inl (u12F vq vf vd vw vl vr n a b x))), (ad, .inl (E.2.1, 63, .inl (u12D vq vf vd vw vl vr n a b x))), (aw, .inl (E.2.1, 63, .inl (u12W vq vf vd vw vl vr n a b x))), (al, .inl (E.2.1, 63, .inl (u12L vq vf vd vw vl vr n a b x))), (ar, .inl (E.2.1, 63, .inl (u12R vq vf vd vw vl vr n a b x)))] := by
  refine rcI_of (by decide) (Nat.le_of_ble_eq_true rfl) ?_
  intro pg e s m below meth c Q A ls S hP hD0 hE hA hl hret
  have hx := S.1
  have hb := S.2.1
  have hown := S.2.2.2.1
  have hts := S.2.2.2.2
  have hK := hE.1
  have hS : va_S A s.heap s.heap [] := va_S.rf
  have hDa : va_Da A [aq, af, ad, aw, al, ar] := ⟨_, hD0, rfl⟩
  have hl : lv_has ls 13 [(0, .int (nI 12)), (1, .int (nI a)), (2, .int (nI b)), (3, .int x), (4, .ref aq), (5, .ref af), (6, .ref ad), (7, .ref aw), (8, .ref al), (9, .ref ar)] := hl
  refine lv_iload_n hx hb dL_due_0 rfl (lv_at hl 0 rfl) ?_
  refine lv_if_ne (tgt := 135) hx hb dL_due_1 (by decide) (fun _ => ?_) (fun c9 => by first | exact absurd (by decide) c9 | exact absurd c9 (by decide))
  refine lv_iload_n hx hb dL_due_135 rfl (lv_at hl 0 rfl) ?_
  refine lv_bipush (v := nI 6) hx hb dL_due_136 (by decide) ?_
  refine rn_icmp_lt (a := 12) (b := 6) (tgt := 153) hx hb (by omega) (by omega) dL_due_138 (by decide) (fun c_1 => absurd c_1 (by omega)) (fun c_1 => ?_)
  refine lv_iload_n hx hb dL_due_141 rfl (lv_at hl 0 rfl) ?_
  refine lv_bipush (v := nI 7) hx hb dL_due_142 (by decide) ?_
  refine rn_icmp_eq (a := 12) (b := 7) (tgt := 153) hx hb (by omega) (by omega) dL_due_144 (by decide) (fun c_2 => absurd c_2 (by omega)) (fun c_2 => ?_)
  refine lv_iload_n hx hb dL_due_147 rfl (lv_at hl 0 rfl) ?_
  refine lv_bipush (v := nI 12) hx hb dL_due_148 (by decide) ?_
  refine rn_icmp_ne (a := 12) (b := 12) (tgt := 185) hx hb (by omega) (by omega) dL_due_150 (by decide) (fun c_3 => absurd c_3 (by omega)) (fun c_3 => ?_)
  refine lv_iload_n hx hb dL_due_153 rfl (lv_at hl 1 rfl) ?_
  refine lv_aload hx hb dL_due_154 (lv_at hl 4 rfl) ?_
  refine lv_iconst (v := nI 4) hx hb dL_due_156 (by decide) ?_
  refine rn_iald (i := 4) hx hb hK hP 0 0 rfl rfl (by omega) (by omega) dL_due_157 ?_
  refine W.eq (congrArg (fun z => F0 m 158 ls (.int z :: [.int (nI a)])) (show vq 4 = nI n from hf)) ?_
  refine rn_icmp_lt (a := a) (b := n) (tgt := 165) hx hb (by omega) (by omega) dL_due_158 (by decide) (fun c_4 => ?_) (fun c_4 => ?_)
  · refine lv_iload_n hx hb dL_due_165 rfl (lv_at hl 0 rfl) ?_
    refine lv_iload_n hx hb dL_due_166 rfl (lv_at hl 1 rfl) ?_
    refine lv_iload_n hx hb dL_due_167 rfl (lv_at hl 2 rfl) ?_
    refine lv_iload_n hx hb dL_due_168 rfl (lv_at hl 3 rfl) ?_
    refine lv_aload hx hb dL_due_169 (lv_at hl 4 rfl) ?_
    refine lv_aload hx hb dL_due_171 (lv_at hl 5 rfl) ?_
    refine lv_aload hx hb dL_due_173 (lv_at hl 6 rfl) ?_
    refine lv_aload hx hb dL_due_175 (lv_at hl 7 rfl) ?_
    refine lv_aload hx hb dL_due_177 (lv_at hl 8 rfl) ?_
    refine lv_aload hx hb dL_due_179 (lv_at hl 9 rfl) ?_
    refine rwS10 (rest := []) S (c_L_ofShot_12 l E a b x aq af ad aw al ar vq vf vd vw vl vr n hf hn c_4) cd_L_ofShot bw_389 ⟨Nat.le_of_ble_eq_true rfl, Nat.le_of_ble_eq_true rfl⟩ ⟨Nat.zero_le _, Nat.zero_le _⟩ hP (hDa.to rfl) hE hA hS [0, 1, 2, 3, 4, 5] rfl rfl [aq, af, ad, aw, al, ar] rfl rfl (Nat.le_of_ble_eq_true rfl) hl.1 dL_due_181 (fun H locs hP _ hS => ?_)
    have hP : va_P E.1 vwCl [(aq, .inl (E.2.1, 13, .inl (s12Q vq vf vd vw vl vr n a b x))), (af, .inl (E.2.1, 21, .inl (s12F vq vf vd vw vl vr n a b x))), (ad, .inl (E.2.1, 63, .inl (s12D vq vf vd vw vl vr n a b x))), (aw, .inl (E.2.1, 63, .inl (s12W vq vf vd vw vl vr n a b x))), (al, .inl (E.2.1, 63, .inl (s12L vq vf vd vw vl vr n a b x))), (ar, .inl (E.2.1, 63, .inl (s12R vq vf vd vw vl vr n a b x)))] H := hP
    exact hret _ _ _ _ _ _ (by rw [u12V, if_pos c_4]) (by rw [show u12Q vq vf vd vw vl vr n a b x = s12Q vq vf vd vw vl vr n a b x from by rw [u12Q, if_pos c_4], show u12F vq vf vd vw vl vr n a b x = s12F vq vf vd vw vl vr n a b x from by rw [u12F, if_pos c_4], show u12D vq vf vd vw vl vr n a b x = s12D vq vf vd vw vl vr n a b x from by rw [u12D, if_pos c_4], show u12W vq vf vd vw vl vr n a b x = s12W vq vf vd vw vl vr n a b x from by rw [u12W, if_pos c_4], show u12L vq vf vd vw vl vr n a b x = s12L vq vf vd vw vl vr n a b x from by rw [u12L, if_pos c_4], show u12R vq vf vd vw vl vr n a b x = s12R vq vf vd vw vl vr n a b x from by rw [u12R, if_pos c_4]]) rfl hP hS dL_due_184
  · refine lv_iconst (v := (-1)) hx hb dL_due_161 (by decide) ?_
    refine lv_goto (tgt := 184) hx hb dL_due_162 (by decide) ?_
    exact hret _ _ _ _ _ _ (by rw [u12V, if_neg c_4]) (by rw [show u12Q vq vf vd vw vl vr n a b x = vq from by rw [u12Q, if_neg c_4], show u12F vq vf vd vw vl vr n a b x = vf from by rw [u12F, if_neg c_4], show u12D vq vf vd vw vl vr n a b x = vd from by rw [u12D, if_neg c_4], show u12W vq vf vd vw vl vr n a b x = vw from by rw [u12W, if_neg c_4], show u12L vq vf vd vw vl vr n a b x = vl from by rw [u12L, if_neg c_4], show u12R vq vf vd vw vl vr n a b x = vr from by rw [u12R, if_neg c_4]]) rfl hP hS dL_due_184

def u6V (vq : Nat → Int32) (vf : Nat → Int32) (vd : Nat → Int32) (vw : Nat → Int32) (vl : Nat → Int32) (vr : Nat → Int32) (n : Nat) (a : Nat) (b : Nat) (x : Int32) : Int32 := if n = 0 then (-5) else lPv vq vf vd vw vl vr n
def u6Q (vq : Nat → Int32) (vf : Nat → Int32) (vd : Nat → Int32) (vw : Nat → Int32) (vl : Nat → Int32) (vr : Nat → Int32) (n : Nat) (a : Nat) (b : Nat) (x : Int32) : Nat → Int32 := if n = 0 then vq else lPq vq vf vd vw vl vr n
def u6F (vq : Nat → Int32) (vf : Nat → Int32) (vd : Nat → Int32) (vw : Nat → Int32) (vl : Nat → Int32) (vr : Nat → Int32) (n : Nat) (a : Nat) (b : Nat) (x : Int32) : Nat → Int32 := vf
def u6D (vq : Nat → Int32) (vf : Nat → Int32) (vd : Nat → Int32) (vw : Nat → Int32) (vl : Nat → Int32) (vr : Nat → Int32) (n : Nat) (a : Nat) (b : Nat) (x : Int32) : Nat → Int32 := vd
def u6W (vq : Nat → Int32) (vf : Nat → Int32) (vd : Nat → Int32) (vw : Nat → Int32) (vl : Nat → Int32) (vr : Nat → Int32) (n : Nat) (a : Nat) (b : Nat) (x : Int32) : Nat → Int32 := vw
def u6L (vq : Nat → Int32) (vf : Nat → Int32) (vd : Nat → Int32) (vw : Nat → Int32) (vl : Nat → Int32) (vr : Nat → Int32) (n : Nat) (a : Nat) (b : Nat) (x : Int32) : Nat → Int32 := vl
def u6R (vq : Nat → Int32) (vf : Nat → Int32) (vd : Nat → Int32) (vw : Nat → Int32) (vl : Nat → Int32) (vr : Nat → Int32) (n : Nat) (a : Nat) (b : Nat) (x : Int32) : Nat → Int32 := if n = 0 then vr else lPrr vq vf vd vw vl vr n
set_option maxHeartbeats 4000000 in
set_option maxRecDepth 100000 in
theorem c_L_due_6 (l : Launch) (E : EV) (a : Nat) (b : Nat) (x : Int32) (aq : Nat) (af : Nat) (ad : Nat) (aw : Nat) (al : Nat) (ar : Nat) (vq : Nat → Int32) (vf : Nat → Int32) (vd : Nat → Int32) (vw : Nat → Int32) (vl : Nat → Int32) (vr : Nat → Int32) (n : Nat) (hf : vq 4 = nI n) (hn : n ≤ 20) : rcI l E yL_due cL_due 13 .int 4 [.int (nI 6), .int (nI a), .int (nI b), .int x, .ref aq, .ref af, .ref ad, .ref aw, .ref al, .ref ar] [(aq, .inl (E.2.1, 13, .inl vq)), (af, .inl (E.2.1, 21, .inl vf)), (ad, .inl (E.2.1, 63, .inl vd)), (aw, .inl (E.2.1, 63, .inl vw)), (al, .inl (E.2.1, 63, .inl vl)), (ar, .inl (E.2.1, 63, .inl vr))] (u6V vq vf vd vw vl vr n a b x) [(aq, .inl (E.2.1, 13, .inl (u6Q vq vf vd vw vl vr n a b x))), (af, .inl (E.2.1, 21, .inl (u6F vq vf vd vw vl vr n a b x))), (ad, .inl (E.2.1, 63, .inl (u6D vq vf vd vw vl vr n a b x))), (aw, .inl (E.2.1, 63, .inl (u6W vq vf vd vw vl vr n a b x))), (al, .inl (E.2.1, 63, .inl (u6L vq vf vd vw vl vr n a b x))), (ar, .inl (E.2.1, 63, .inl (u6R vq vf vd vw vl vr n a b x)))] := by
  refine rcI_of (by decide) (Nat.le_of_ble_eq_true rfl) ?_
  intro pg e s m below meth c Q A ls S hP hD0 hE hA hl hret
  have hx := S.1
  have hb := S.2.1
  have hown := S.2.2.2.1
  have hts := S.2.2.2.2
  have hK := hE.1
  have hS : va_S A s.heap s.heap [] := va_S.rf
  have hDa : va_Da A [aq, af, ad, aw, al, ar] := ⟨_, hD0, rfl⟩
  have hl : lv_has ls 13 [(0, .int (nI 6)), (1, .int (nI a)), (2, .int (nI b)), (3, .int x), (4, .ref aq), (5, .ref af), (6, .ref ad), (7, .ref aw), (8, .ref al), (9, .ref ar)] := hl
  refine lv_iload_n hx hb dL_due_0 rfl (lv_at hl 0 rfl) ?_
  refine lv_if_ne (tgt := 135) hx hb dL_due_1 (by decide) (fun _ => ?_) (fun c9 => by first | exact absurd (by decide) c9 | exact absurd c9 (by decide))
  refine lv_iload_n hx hb dL_due_135 rfl (lv_at hl 0 rfl) ?_
  refine lv_bipush (v := nI 6) hx hb dL_due_136 (by decide) ?_
  refine rn_icmp_lt (a := 6) (b := 6) (tgt := 153) hx hb (by omega) (by omega) dL_due_138 (by decide) (fun c_1 => absurd c_1 (by omega)) (fun c_1 => ?_)
  refine lv_iload_n hx hb dL_due_141 rfl (lv_at hl 0 rfl) ?_
  refine lv_bipush (v := nI 7) hx hb dL_due_142 (by decide) ?_
  refine rn_icmp_eq (a := 6) (b := 7) (tgt := 153) hx hb (by omega) (by omega) dL_due_144 (by decide) (fun c_2 => absurd c_2 (by omega)) (fun c_2 => ?_)
  refine lv_iload_n hx hb dL_due_147 rfl (lv_at hl 0 rfl) ?_
  refine lv_bipush (v := nI 12) hx hb dL_due_148 (by decide) ?_
  refine rn_icmp_ne (a := 6) (b := 12) (tgt := 185) hx hb (by omega) (by omega) dL_due_150 (by decide) (fun c_3 => ?_) (fun c_3 => absurd c_3 (by omega))
  refine lv_iconst (v := nI 0) hx hb dL_due_185 (by decide) ?_
  refine lv_istore (lv' := [(10, .int (nI 0)), (0, .int (nI 6)), (1, .int (nI a)), (2, .int (nI b)), (3, .int x), (4, .ref aq), (5, .ref af), (6, .ref ad), (7, .ref aw), (8, .ref al), (9, .ref ar)]) hx hb dL_due_186 hl (by decide) rfl (fun ls hl => ?_)
  refine lv_iload_n hx hb dL_due_188 rfl (lv_at hl 1 rfl) ?_
  refine lv_bipush (v := nI 6) hx hb dL_due_189 (by decide) ?_
  refine rn_icmp_ne (a := 6) (b := 6) (tgt := 222) hx hb (by omega) (by omega) dL_due_191 (by decide) (fun c_4 => absurd c_4 (by omega)) (fun c_4 => ?_)
  refine lv_aload hx hb dL_due_194 (lv_at hl 5 rfl) ?_
  refine lv_iconst (v := nI 4) hx hb dL_due_196 (by decide) ?_
  refine rn_iald (i := 4) hx hb hK hP 0 0 rfl rfl (by omega) (by omega) dL_due_197 ?_
  refine W.eq (congrArg (fun z => F0 m 198 ls (.int z :: [])) (show vq 4 = nI n from hf)) ?_
  refine rn_if_ne (a := n) (tgt := 206) hx hb (by omega) dL_due_198 (by decide) (fun c_5 => ?_) (fun c_5 => ?_)
  · refine lv_aload hx hb dL_due_206 (lv_at hl 5 rfl) ?_
    refine lv_aload hx hb dL_due_208 (lv_at hl 6 rfl) ?_
    refine lv_aload hx hb dL_due_210 (lv_at hl 7 rfl) ?_
    refine lv_aload hx hb dL_due_212 (lv_at hl 8 rfl) ?_
    refine lv_aload hx hb dL_due_214 (lv_at hl 9 rfl) ?_
    refine lv_aload hx hb dL_due_216 (lv_at hl 10 rfl) ?_
    refine rwS6 (rest := []) S (c_L_print l E aq af ad aw al ar vq vf vd vw vl vr n hf hn (by omega)) cd_L_print bw_398 ⟨Nat.le_of_ble_eq_true rfl, Nat.le_of_ble_eq_true rfl⟩ ⟨Nat.zero_le _, Nat.zero_le _⟩ hP (hDa.to rfl) hE hA hS [0, 1, 2, 3, 4, 5] rfl rfl [aq, af, ad, aw, al, ar] rfl rfl (Nat.le_of_ble_eq_true rfl) hl.1 dL_due_218 (fun H locs hP _ hS => ?_)
    have hP : va_P E.1 vwCl [(aq, .inl (E.2.1, 13, .inl (lPq vq vf vd vw vl vr n))), (af, .inl (E.2.1, 21, .inl vf)), (ad, .inl (E.2.1, 63, .inl vd)), (aw, .inl (E.2.1, 63, .inl vw)), (al, .inl (E.2.1, 63, .inl vl)), (ar, .inl (E.2.1, 63, .inl (lPrr vq vf vd vw vl vr n)))] H := hP
    exact hret _ _ _ _ _ _ (by rw [u6V, if_neg c_5]) (by rw [show u6Q vq vf vd vw vl vr n a b x = lPq vq vf vd vw vl vr n from by rw [u6Q, if_neg c_5], show u6F vq vf vd vw vl vr n a b x = vf from by rw [u6F], show u6D vq vf vd vw vl vr n a b x = vd from by rw [u6D], show u6W vq vf vd vw vl vr n a b x = vw from by rw [u6W], show u6L vq vf vd vw vl vr n a b x = vl from by rw [u6L], show u6R vq vf vd vw vl vr n a b x = lPrr vq vf vd vw vl vr n from by rw [u6R, if_neg c_5]]) rfl hP hS dL_due_221
  · refine lv_bipush (v := (-5)) hx hb dL_due_201 (by decide) ?_
    refine lv_goto (tgt := 221) hx hb dL_due_203 (by decide) ?_
    exact hret _ _ _ _ _ _ (by rw [u6V, if_pos c_5]) (by rw [show u6Q vq vf vd vw vl vr n a b x = vq from by rw [u6Q, if_pos c_5], show u6F vq vf vd vw vl vr n a b x = vf from by rw [u6F], show u6D vq vf vd vw vl vr n a b x = vd from by rw [u6D], show u6W vq vf vd vw vl vr n a b x = vw from by rw [u6W], show u6L vq vf vd vw vl vr n a b x = vl from by rw [u6L], show u6R vq vf vd vw vl vr n a b x = vr from by rw [u6R, if_pos c_5]]) rfl hP hS dL_due_221

/-- the bad ones of the first k shots corrected -/
abbrev LA : Type := (Nat → Int32) × (Nat → Int32) × (Nat → Int32)
def lA (vq vl vr : Nat → Int32) : Nat → LA
  | 0 => (vq, vl, vr)
  | k + 1 => if lBa (lA vq vl vr k).1 (lA vq vl vr k).2.2 k = 0 then lA vq vl vr k else (lCq (lA vq vl vr k).1 (lA vq vl vr k).2.1 (lA vq vl vr k).2.2 k, lCl (lA vq vl vr k).1 (lA vq vl vr k).2.1 (lA vq vl vr k).2.2 k, lCr (lA vq vl vr k).1 (lA vq vl vr k).2.1 (lA vq vl vr k).2.2 k)
theorem lA_p {vq vl vr : Nat → Int32} {k : Nat} (h : lBa (lA vq vl vr k).1 (lA vq vl vr k).2.2 k = 0) : lA vq vl vr (k + 1) = lA vq vl vr k := by rw [lA, if_pos h]
theorem lA_n {vq vl vr : Nat → Int32} {k : Nat} (h : ¬ lBa (lA vq vl vr k).1 (lA vq vl vr k).2.2 k = 0) : lA vq vl vr (k + 1) = (lCq (lA vq vl vr k).1 (lA vq vl vr k).2.1 (lA vq vl vr k).2.2 k, lCl (lA vq vl vr k).1 (lA vq vl vr k).2.1 (lA vq vl vr k).2.2 k, lCr (lA vq vl vr k).1 (lA vq vl vr k).2.1 (lA vq vl vr k).2.2 k) := by rw [lA, if_neg h]
theorem lCq_u (vq vl vr : Nat → Int32) (k j : Nat) (h : j ≠ 6) : lCq vq vl vr k j = vq j := pk_un h
theorem lA_u (vq vl vr : Nat → Int32) (j : Nat) (h : j ≠ 6) : ∀ k : Nat, (lA vq vl vr k).1 j = vq j
  | 0 => rfl
  | k + 1 => by
    rw [← lA_u vq vl vr j h k]
    by_cases c : lBa (lA vq vl vr k).1 (lA vq vl vr k).2.2 k = 0
    · rw [lA_p c]
    · rw [lA_n c]; exact lCq_u _ _ _ _ _ h
def lAn (vq vl vr : Nat → Int32) : Nat → Int32
  | 0 => nI 0
  | k + 1 => if lBa (lA vq vl vr k).1 (lA vq vl vr k).2.2 k = 0 then lAn vq vl vr k else if lCv (lA vq vl vr k).1 (lA vq vl vr k).2.1 (lA vq vl vr k).2.2 k < 0 then lAn vq vl vr k + nI 0 else lAn vq vl vr k + nI 1
theorem lAn_p {vq vl vr : Nat → Int32} {k : Nat} (h : lBa (lA vq vl vr k).1 (lA vq vl vr k).2.2 k = 0) : lAn vq vl vr (k + 1) = lAn vq vl vr k := by rw [lAn, if_pos h]
theorem lAn_a {vq vl vr : Nat → Int32} {k : Nat} (h : ¬ lBa (lA vq vl vr k).1 (lA vq vl vr k).2.2 k = 0) (h2 : lCv (lA vq vl vr k).1 (lA vq vl vr k).2.1 (lA vq vl vr k).2.2 k < 0) : lAn vq vl vr (k + 1) = lAn vq vl vr k + nI 0 := by rw [lAn, if_neg h, if_pos h2]
theorem lAn_b {vq vl vr : Nat → Int32} {k : Nat} (h : ¬ lBa (lA vq vl vr k).1 (lA vq vl vr k).2.2 k = 0) (h2 : ¬ lCv (lA vq vl vr k).1 (lA vq vl vr k).2.1 (lA vq vl vr k).2.2 k < 0) : lAn vq vl vr (k + 1) = lAn vq vl vr k + nI 1 := by rw [lAn, if_neg h, if_neg h2]
def l20 (x : Int32) : Int32 := if x ≤ nI 20 then x else nI 20
def u8V (vq : Nat → Int32) (vf : Nat → Int32) (vd : Nat → Int32) (vw : Nat → Int32) (vl : Nat → Int32) (vr : Nat → Int32) (n : Nat) (a : Nat) (b : Nat) (x : Int32) : Int32 := lAn vq vl vr n
def u8Q (vq : Nat → Int32) (vf : Nat → Int32) (vd : Nat → Int32) (vw : Nat → Int32) (vl : Nat → Int32) (vr : Nat → Int32) (n : Nat) (a : Nat) (b : Nat) (x : Int32) : Nat → Int32 := (lA vq vl vr n).1
def u8F (vq : Nat → Int32) (vf : Nat → Int32) (vd : Nat → Int32) (vw : Nat → Int32) (vl : Nat → Int32) (vr : Nat → Int32) (n : Nat) (a : Nat) (b : Nat) (x : Int32) : Nat → Int32 := vf
def u8D (vq : Nat → Int32) (vf : Nat → Int32) (vd : Nat → Int32) (vw : Nat → Int32) (vl : Nat → Int32) (vr : Nat → Int32) (n : Nat) (a : Nat) (b : Nat) (x : Int32) : Nat → Int32 := vd
def u8W (vq : Nat → Int32) (vf : Nat → Int32) (vd : Nat → Int32) (vw : Nat → Int32) (vl : Nat → Int32) (vr : Nat → Int32) (n : Nat) (a : Nat) (b : Nat) (x : Int32) : Nat → Int32 := vw
def u8L (vq : Nat → Int32) (vf : Nat → Int32) (vd : Nat → Int32) (vw : Nat → Int32) (vl : Nat → Int32) (vr : Nat → Int32) (n : Nat) (a : Nat) (b : Nat) (x : Int32) : Nat → Int32 := (lA vq vl vr n).2.1
def u8R (vq : Nat → Int32) (vf : Nat → Int32) (vd : Nat → Int32) (vw : Nat → Int32) (vl : Nat → Int32) (vr : Nat → Int32) (n : Nat) (a : Nat) (b : Nat) (x : Int32) : Nat → Int32 := (lA vq vl vr n).2.2
set_option maxHeartbeats 4000000 in
set_option maxRecDepth 100000 in
theorem c_L_due_8 (l : Launch) (E : EV) (a : Nat) (b : Nat) (x : Int32) (aq : Nat) (af : Nat) (ad : Nat) (aw : Nat) (al : Nat) (ar : Nat) (vq : Nat → Int32) (vf : Nat → Int32) (vd : Nat → Int32) (vw : Nat → Int32) (vl : Nat → Int32) (vr : Nat → Int32) (n : Nat) (hf : vq 4 = nI n) (hn : n ≤ 20) (hst : ¬ vq 0 = 0) : rcI l E yL_due cL_due 13 .int 4 [.int (nI 8), .int (nI a), .int (nI b), .int x, .ref aq, .ref af, .ref ad, .ref aw, .ref al, .ref ar] [(aq, .inl (E.2.1, 13, .inl vq)), (af, .inl (E.2.1, 21, .inl vf)), (ad, .inl (E.2.1, 63, .inl vd)), (aw, .inl (E.2.1, 63, .inl vw)), (al, .inl (E.2.1, 63, .inl vl)), (ar, .inl (E.2.1, 63, .inl vr))] (u8V vq vf vd vw vl vr n a b x) [(aq, .inl (E.2.1, 13, .inl (u8Q vq vf vd vw vl vr n a b x))), (af, .inl (E.2.1, 21, .inl (u8F vq vf vd vw vl vr n a b x))), (ad, .inl (E.2.1, 63, .inl (u8D vq vf vd vw vl vr n a b x))), (aw, .inl (E.2.1, 63, .inl (u8W vq vf vd vw vl vr n a b x))), (al, .inl (E.2.1, 63, .inl (u8L vq vf vd vw vl vr n a b x))), (ar, .inl (E.2.1, 63, .inl (u8R vq vf vd vw vl vr n a b x)))] := by
  refine rcI_of (by decide) (Nat.le_of_ble_eq_true rfl) ?_
  intro pg e s m below meth c Q A ls S hP hD0 hE hA hl hret
  have hx := S.1
  have hb := S.2.1
  have hown := S.2.2.2.1
  have hts := S.2.2.2.2
  have hK := hE.1
  have hS : va_S A s.heap s.heap [] := va_S.rf
  have hDa : va_Da A [aq, af, ad, aw, al, ar] := ⟨_, hD0, rfl⟩
  have hl : lv_has ls 13 [(0, .int (nI 8)), (1, .int (nI a)), (2, .int (nI b)), (3, .int x), (4, .ref aq), (5, .ref af), (6, .ref ad), (7, .ref aw), (8, .ref al), (9, .ref ar)] := hl
  refine lv_iload_n hx hb dL_due_0 rfl (lv_at hl 0 rfl) ?_
  refine lv_if_ne (tgt := 135) hx hb dL_due_1 (by decide) (fun _ => ?_) (fun c9 => by first | exact absurd (by decide) c9 | exact absurd c9 (by decide))
  refine lv_iload_n hx hb dL_due_135 rfl (lv_at hl 0 rfl) ?_
  refine lv_bipush (v := nI 6) hx hb dL_due_136 (by decide) ?_
  refine rn_icmp_lt (a := 8) (b := 6) (tgt := 153) hx hb (by omega) (by omega) dL_due_138 (by decide) (fun c_1 => absurd c_1 (by omega)) (fun c_1 => ?_)
  refine lv_iload_n hx hb dL_due_141 rfl (lv_at hl 0 rfl) ?_
  refine lv_bipush (v := nI 7) hx hb dL_due_142 (by decide) ?_
  refine rn_icmp_eq (a := 8) (b := 7) (tgt := 153) hx hb (by omega) (by omega) dL_due_144 (by decide) (fun c_2 => absurd c_2 (by omega)) (fun c_2 => ?_)
  refine lv_iload_n hx hb dL_due_147 rfl (lv_at hl 0 rfl) ?_
  refine lv_bipush (v := nI 12) hx hb dL_due_148 (by decide) ?_
  refine rn_icmp_ne (a := 8) (b := 12) (tgt := 185) hx hb (by omega) (by omega) dL_due_150 (by decide) (fun c_3 => ?_) (fun c_3 => absurd c_3 (by omega))
  refine lv_iconst (v := nI 0) hx hb dL_due_185 (by decide) ?_
  refine lv_istore (lv' := [(10, .int (nI 0)), (0, .int (nI 8)), (1, .int (nI a)), (2, .int (nI b)), (3, .int x), (4, .ref aq), (5, .ref af), (6, .ref ad), (7, .ref aw), (8, .ref al), (9, .ref ar)]) hx hb dL_due_186 hl (by decide) rfl (fun ls hl => ?_)
  refine lv_iload_n hx hb dL_due_188 rfl (lv_at hl 1 rfl) ?_
  refine lv_bipush (v := nI 6) hx hb dL_due_189 (by decide) ?_
  refine rn_icmp_ne (a := 8) (b := 6) (tgt := 222) hx hb (by omega) (by omega) dL_due_191 (by decide) (fun c_4 => ?_) (fun c_4 => absurd c_4 (by omega))
  refine lv_iload_n hx hb dL_due_222 rfl (lv_at hl 1 rfl) ?_
  refine lv_bipush (v := nI 8) hx hb dL_due_223 (by decide) ?_
  refine rn_icmp_ne (a := 8) (b := 8) (tgt := 289) hx hb (by omega) (by omega) dL_due_225 (by decide) (fun c_5 => absurd c_5 (by omega)) (fun c_5 => ?_)
  refine lv_iconst (v := nI 0) hx hb dL_due_228 (by decide) ?_
  refine lv_istore (lv' := [(11, .int (nI 0)), (10, .int (nI 0)), (0, .int (nI 8)), (1, .int (nI a)), (2, .int (nI b)), (3, .int x), (4, .ref aq), (5, .ref af), (6, .ref ad), (7, .ref aw), (8, .ref al), (9, .ref ar)]) hx hb dL_due_229 hl (by decide) rfl (fun ls hl => ?_)
  have loop231 : ∀ (fuel : Nat) (k : Nat), n - k < fuel → (k ≤ n) → ∀ (H : Heap) (locs : List Loc), va_P E.1 vwCl [(aq, .inl (E.2.1, 13, .inl ((lA vq vl vr k).1))), (af, .inl (E.2.1, 21, .inl vf)), (ad, .inl (E.2.1, 63, .inl vd)), (aw, .inl (E.2.1, 63, .inl vw)), (al, .inl (E.2.1, 63, .inl ((lA vq vl vr k).2.1))), (ar, .inl (E.2.1, 63, .inl ((lA vq vl vr k).2.2)))] H → va_S A s.heap H locs → ∀ ls : Array Slot, lv_has ls 13 [(11, .int (nI k)), (10, .int (lAn vq vl vr k)), (0, .int (nI 8)), (1, .int (nI a)), (2, .int (nI b)), (3, .int x), (4, .ref aq), (5, .ref af), (6, .ref ad), (7, .ref aw), (8, .ref al), (9, .ref ar)] → W pg l e (rq 4) s m ([.int (nI 8), .int (nI a), .int (nI b), .int x, .ref aq, .ref af, .ref ad, .ref aw, .ref al, .ref ar] : List Value).toArray below meth c H locs 0 0 Q (F0 m 231 ls []) := by
    intro fuel
    induction fuel with
    | zero => intro k h9; exact absurd h9 (Nat.not_lt_zero _)
    | succ fuel ih231 =>
      intro k hfu231 hk H locs hP hS ls hl
      refine lv_iload hx hb dL_due_231 (lv_at hl 0 rfl) ?_
      refine lv_aload hx hb dL_due_233 (lv_at hl 6 rfl) ?_
      refine lv_iconst (v := nI 4) hx hb dL_due_235 (by decide) ?_
      refine rn_iald (i := 4) hx hb hK hP 0 0 rfl rfl (by omega) (by omega) dL_due_236 ?_
      refine W.eq (congrArg (fun z => F0 m 237 ls (.int z :: [.int (nI k)])) (show ((lA vq vl vr k).1) 4 = nI n from ((lA_u vq vl vr 4 (by decide) k).trans hf))) ?_
      refine rn_icmp_ge (a := k) (b := n) (tgt := 286) hx hb (by omega) (by omega) dL_due_237 (by decide) (fun c_6 => ?_) (fun c_6 => ?_)
      · have hex : n = k := by omega
        subst hex
        refine lv_iload hx hb dL_due_286 (lv_at hl 1 rfl) ?_
        exact hret _ _ _ _ _ _ (by rw [u8V]) (by rw [show u8Q vq vf vd vw vl vr n a b x = (lA vq vl vr n).1 from by rw [u8Q], show u8F vq vf vd vw vl vr n a b x = vf from by rw [u8F], show u8D vq vf vd vw vl vr n a b x = vd from by rw [u8D], show u8W vq vf vd vw vl vr n a b x = vw from by rw [u8W], show u8L vq vf vd vw vl vr n a b x = (lA vq vl vr n).2.1 from by rw [u8L], show u8R vq vf vd vw vl vr n a b x = (lA vq vl vr n).2.2 from by rw [u8R]]) rfl hP hS dL_due_288
      · refine lv_iload hx hb dL_due_240 (lv_at hl 0 rfl) ?_
        refine lv_aload hx hb dL_due_242 (lv_at hl 6 rfl) ?_
        refine lv_aload hx hb dL_due_244 (lv_at hl 11 rfl) ?_
        refine rwS3 (rest := []) S (c_L_isBad l E k aq ar ((lA vq vl vr k).1) ((lA vq vl vr k).2.2) (by omega)) cd_L_isBad bw_410 ⟨Nat.le_of_ble_eq_true rfl, Nat.le_of_ble_eq_true rfl⟩ ⟨Nat.zero_le _, Nat.zero_le _⟩ hP (hDa.to rfl) hE hA hS [0, 5] rfl rfl [aq, ar] rfl rfl (Nat.le_of_ble_eq_true rfl) hl.1 dL_due_246 (fun H locs hP _ hS => ?_)
        have hP : va_P E.1 vwCl [(aq, .inl (E.2.1, 13, .inl ((lA vq vl vr k).1))), (af, .inl (E.2.1, 21, .inl vf)), (ad, .inl (E.2.1, 63, .inl vd)), (aw, .inl (E.2.1, 63, .inl vw)), (al, .inl (E.2.1, 63, .inl ((lA vq vl vr k).2.1))), (ar, .inl (E.2.1, 63, .inl ((lA vq vl vr k).2.2)))] H := hP
        refine lv_if_eq (tgt := 280) hx hb dL_due_249 (by decide) (fun c_7 => ?_) (fun c_7 => ?_)
        · refine rn_inc (a := k) (d := 1) (lv' := [(11, .int (nI (k + 1))), (10, .int (lAn vq vl vr k)), (0, .int (nI 8)), (1, .int (nI a)), (2, .int (nI b)), (3, .int x), (4, .ref aq), (5, .ref af), (6, .ref ad), (7, .ref aw), (8, .ref al), (9, .ref ar)]) hx hb dL_due_280 hl (k := 0) rfl (by decide) (by decide) rfl (fun ls hl => ?_)
          refine lv_goto (tgt := 231) hx hb dL_due_283 (by decide) ?_
          have hP : va_P E.1 vwCl [(aq, .inl (E.2.1, 13, .inl ((lA vq vl vr (k + 1)).1))), (af, .inl (E.2.1, 21, .inl vf)), (ad, .inl (E.2.1, 63, .inl vd)), (aw, .inl (E.2.1, 63, .inl vw)), (al, .inl (E.2.1, 63, .inl ((lA vq vl vr (k + 1)).2.1))), (ar, .inl (E.2.1, 63, .inl ((lA vq vl vr (k + 1)).2.2)))] H := by first | (rw [lA_p c_7]; exact hP) | (rw [lA_n c_6]; exact hP)
          have hl : lv_has ls 13 [(11, .int (nI (k + 1))), (10, .int (lAn vq vl vr k)), (0, .int (nI 8)), (1, .int (nI a)), (2, .int (nI b)), (3, .int x), (4, .ref aq), (5, .ref af), (6, .ref ad), (7, .ref aw), (8, .ref al), (9, .ref ar)] := lv_sub hl [0, 1, 2, 3, 4, 5, 6, 7, 8, 9, 10, 11] rfl
          have hl : lv_has ls 13 [(11, .int (nI (k + 1))), (10, .int (lAn vq vl vr (k + 1))), (0, .int (nI 8)), (1, .int (nI a)), (2, .int (nI b)), (3, .int x), (4, .ref aq), (5, .ref af), (6, .ref ad), (7, .ref aw), (8, .ref al), (9, .ref ar)] := by first | (rw [lAn_p c_7]; exact hl) | (rw [lAn_a c_6 c_7]; exact hl) | (rw [lAn_b c_6 c_7]; exact hl)
          exact ih231 (k + 1) (by omega) (by omega) _ _ hP hS _ hl
        · refine lv_iload hx hb dL_due_252 (lv_at hl 0 rfl) ?_
          refine lv_aload hx hb dL_due_254 (lv_at hl 6 rfl) ?_
          refine lv_aload hx hb dL_due_256 (lv_at hl 10 rfl) ?_
          refine lv_aload hx hb dL_due_258 (lv_at hl 11 rfl) ?_
          refine rwS4 (rest := []) S (c_L_corrects l E k aq al ar ((lA vq vl vr k).1) ((lA vq vl vr k).2.1) ((lA vq vl vr k).2.2) (by omega) (by rw [lA_u vq vl vr 0 (by decide)]; exact hst)) cd_L_corrects bw_395 ⟨Nat.le_of_ble_eq_true rfl, Nat.le_of_ble_eq_true rfl⟩ ⟨Nat.zero_le _, Nat.zero_le _⟩ hP (hDa.to rfl) hE hA hS [0, 4, 5] rfl rfl [aq, al, ar] rfl rfl (Nat.le_of_ble_eq_true rfl) hl.1 dL_due_260 (fun H locs hP _ hS => ?_)
          have hP : va_P E.1 vwCl [(aq, .inl (E.2.1, 13, .inl (lCq ((lA vq vl vr k).1) ((lA vq vl vr k).2.1) ((lA vq vl vr k).2.2) k))), (af, .inl (E.2.1, 21, .inl vf)), (ad, .inl (E.2.1, 63, .inl vd)), (aw, .inl (E.2.1, 63, .inl vw)), (al, .inl (E.2.1, 63, .inl (lCl ((lA vq vl vr k).1) ((lA vq vl vr k).2.1) ((lA vq vl vr k).2.2) k))), (ar, .inl (E.2.1, 63, .inl (lCr ((lA vq vl vr k).1) ((lA vq vl vr k).2.1) ((lA vq vl vr k).2.2) k)))] H := hP
          refine lv_istore (lv' := [(12, .int (lCv ((lA vq vl vr k).1) ((lA vq vl vr k).2.1) ((lA vq vl vr k).2.2) k)), (11, .int (nI k)), (10, .int (lAn vq vl vr k)), (0, .int (nI 8)), (1, .int (nI a)), (2, .int (nI b)), (3, .int x), (4, .ref aq), (5, .ref af), (6, .ref ad), (7, .ref aw), (8, .ref al), (9, .ref ar)]) hx hb dL_due_263 hl (by decide) rfl (fun ls hl => ?_)
          refine lv_iload hx hb dL_due_265 (lv_at hl 2 rfl) ?_
          refine lv_iload hx hb dL_due_267 (lv_at hl 0 rfl) ?_
          refine lv_if_ge (tgt := 276) hx hb dL_due_269 (by decide) (fun c_8 => ?_) (fun c_8 => ?_)
          · refine lv_iconst (v := nI 1) hx hb dL_due_276 (by decide) ?_
            refine lv_iadd hx hb dL_due_277 ?_
            refine lv_istore (lv' := [(10, .int (lAn vq vl vr k + (nI 1))), (12, .int (lCv ((lA vq vl vr k).1) ((lA vq vl vr k).2.1) ((lA vq vl vr k).2.2) k)), (11, .int (nI k)), (0, .int (nI 8)), (1, .int (nI a)), (2, .int (nI b)), (3, .int x), (4, .ref aq), (5, .ref af), (6, .ref ad), (7, .ref aw), (8, .ref al), (9, .ref ar)]) hx hb dL_due_278 hl (by decide) rfl (fun ls hl => ?_)
            refine rn_inc (a := k) (d := 1) (lv' := [(11, .int (nI (k + 1))), (10, .int (lAn vq vl vr k + (nI 1))), (12, .int (lCv ((lA vq vl vr k).1) ((lA vq vl vr k).2.1) ((lA vq vl vr k).2.2) k)), (0, .int (nI 8)), (1, .int (nI a)), (2, .int (nI b)), (3, .int x), (4, .ref aq), (5, .ref af), (6, .ref ad), (7, .ref aw), (8, .ref al), (9, .ref ar)]) hx hb dL_due_280 hl (k := 2) rfl (by decide) (by decide) rfl (fun ls hl => ?_)
            refine lv_goto (tgt := 231) hx hb dL_due_283 (by decide) ?_
            have hP : va_P E.1 vwCl [(aq, .inl (E.2.1, 13, .inl ((lA vq vl vr (k + 1)).1))), (af, .inl (E.2.1, 21, .inl vf)), (ad, .inl (E.2.1, 63, .inl vd)), (aw, .inl (E.2.1, 63, .inl vw)), (al, .inl (E.2.1, 63, .inl ((lA vq vl vr (k + 1)).2.1))), (ar, .inl (E.2.1, 63, .inl ((lA vq vl vr (k + 1)).2.2)))] H := by first | (rw [lA_p c_8]; exact hP) | (rw [lA_n c_7]; exact hP)
            have hl : lv_has ls 13 [(11, .int (nI (k + 1))), (10, .int (lAn vq vl vr k + (nI 1))), (0, .int (nI 8)), (1, .int (nI a)), (2, .int (nI b)), (3, .int x), (4, .ref aq), (5, .ref af), (6, .ref ad), (7, .ref aw), (8, .ref al), (9, .ref ar)] := lv_sub hl [0, 1, 3, 4, 5, 6, 7, 8, 9, 10, 11, 12] rfl
            have hl : lv_has ls 13 [(11, .int (nI (k + 1))), (10, .int (lAn vq vl vr (k + 1))), (0, .int (nI 8)), (1, .int (nI a)), (2, .int (nI b)), (3, .int x), (4, .ref aq), (5, .ref af), (6, .ref ad), (7, .ref aw), (8, .ref al), (9, .ref ar)] := by first | (rw [lAn_p c_8]; exact hl) | (rw [lAn_a c_7 c_8]; exact hl) | (rw [lAn_b c_7 c_8]; exact hl)
            exact ih231 (k + 1) (by omega) (by omega) _ _ hP hS _ hl
          · refine lv_iconst (v := nI 0) hx hb dL_due_272 (by decide) ?_
            refine lv_goto (tgt := 277) hx hb dL_due_273 (by decide) ?_
            refine lv_iadd hx hb dL_due_277 ?_
            refine lv_istore (lv' := [(10, .int (lAn vq vl vr k + (nI 0))), (12, .int (lCv ((lA vq vl vr k).1) ((lA vq vl vr k).2.1) ((lA vq vl vr k).2.2) k)), (11, .int (nI k)), (0, .int (nI 8)), (1, .int (nI a)), (2, .int (nI b)), (3, .int x), (4, .ref aq), (5, .ref af), (6, .ref ad), (7, .ref aw), (8, .ref al), (9, .ref ar)]) hx hb dL_due_278 hl (by decide) rfl (fun ls hl => ?_)
            refine rn_inc (a := k) (d := 1) (lv' := [(11, .int (nI (k + 1))), (10, .int (lAn vq vl vr k + (nI 0))), (12, .int (lCv ((lA vq vl vr k).1) ((lA vq vl vr k).2.1) ((lA vq vl vr k).2.2) k)), (0, .int (nI 8)), (1, .int (nI a)), (2, .int (nI b)), (3, .int x), (4, .ref aq), (5, .ref af), (6, .ref ad), (7, .ref aw), (8, .ref al), (9, .ref ar)]) hx hb dL_due_280 hl (k := 2) rfl (by decide) (by decide) rfl (fun ls hl => ?_)
            refine lv_goto (tgt := 231) hx hb dL_due_283 (by decide) ?_
            have hP : va_P E.1 vwCl [(aq, .inl (E.2.1, 13, .inl ((lA vq vl vr (k + 1)).1))), (af, .inl (E.2.1, 21, .inl vf)), (ad, .inl (E.2.1, 63, .inl vd)), (aw, .inl (E.2.1, 63, .inl vw)), (al, .inl (E.2.1, 63, .inl ((lA vq vl vr (k + 1)).2.1))), (ar, .inl (E.2.1, 63, .inl ((lA vq vl vr (k + 1)).2.2)))] H := by first | (rw [lA_p c_8]; exact hP) | (rw [lA_n c_7]; exact hP)
            have hl : lv_has ls 13 [(11, .int (nI (k + 1))), (10, .int (lAn vq vl vr k + (nI 0))), (0, .int (nI 8)), (1, .int (nI a)), (2, .int (nI b)), (3, .int x), (4, .ref aq), (5, .ref af), (6, .ref ad), (7, .ref aw), (8, .ref al), (9, .ref ar)] := lv_sub hl [0, 1, 3, 4, 5, 6, 7, 8, 9, 10, 11, 12] rfl
            have hl : lv_has ls 13 [(11, .int (nI (k + 1))), (10, .int (lAn vq vl vr (k + 1))), (0, .int (nI 8)), (1, .int (nI a)), (2, .int (nI b)), (3, .int x), (4, .ref aq), (5, .ref af), (6, .ref ad), (7, .ref aw), (8, .ref al), (9, .ref ar)] := by first | (rw [lAn_p c_8]; exact hl) | (rw [lAn_a c_7 c_8]; exact hl) | (rw [lAn_b c_7 c_8]; exact hl)
            exact ih231 (k + 1) (by omega) (by omega) _ _ hP hS _ hl
  have hP : va_P E.1 vwCl [(aq, .inl (E.2.1, 13, .inl ((lA vq vl vr 0).1))), (af, .inl (E.2.1, 21, .inl vf)), (ad, .inl (E.2.1, 63, .inl vd)), (aw, .inl (E.2.1, 63, .inl vw)), (al, .inl (E.2.1, 63, .inl ((lA vq vl vr 0).2.1))), (ar, .inl (E.2.1, 63, .inl ((lA vq vl vr 0).2.2)))] s.heap := by exact hP
  have hl : lv_has ls 13 [(11, .int (nI 0)), (10, .int (lAn vq vl vr 0)), (0, .int (nI 8)), (1, .int (nI a)), (2, .int (nI b)), (3, .int x), (4, .ref aq), (5, .ref af), (6, .ref ad), (7, .ref aw), (8, .ref al), (9, .ref ar)] := lv_sub hl [0, 1, 2, 3, 4, 5, 6, 7, 8, 9, 10, 11] rfl
  exact loop231 _ 0 (Nat.lt_succ_self _) (by omega) _ _ hP hS _ hl

def u9V (vq : Nat → Int32) (vf : Nat → Int32) (vd : Nat → Int32) (vw : Nat → Int32) (vl : Nat → Int32) (vr : Nat → Int32) (n : Nat) (a : Nat) (b : Nat) (x : Int32) : Int32 := nI 0 + ((upd vq 10 (l20 (((vq 7) * (vq 3)) / (nI 100)))) 10) + ((upd (upd vq 10 (l20 (((vq 7) * (vq 3)) / (nI 100)))) 11 (l20 ((((upd vq 10 (l20 (((vq 7) * (vq 3)) / (nI 100)))) 8) * ((upd vq 10 (l20 (((vq 7) * (vq 3)) / (nI 100)))) 3)) / (nI 100)))) 11) + ((upd (upd (upd vq 10 (l20 (((vq 7) * (vq 3)) / (nI 100)))) 11 (l20 ((((upd vq 10 (l20 (((vq 7) * (vq 3)) / (nI 100)))) 8) * ((upd vq 10 (l20 (((vq 7) * (vq 3)) / (nI 100)))) 3)) / (nI 100)))) 12 (l20 ((((upd (upd vq 10 (l20 (((vq 7) * (vq 3)) / (nI 100)))) 11 (l20 ((((upd vq 10 (l20 (((vq 7) * (vq 3)) / (nI 100)))) 8) * ((upd vq 10 (l20 (((vq 7) * (vq 3)) / (nI 100)))) 3)) / (nI 100)))) 9) * ((upd (upd vq 10 (l20 (((vq 7) * (vq 3)) / (nI 100)))) 11 (l20 ((((upd vq 10 (l20 (((vq 7) * (vq 3)) / (nI 100)))) 8) * ((upd vq 10 (l20 (((vq 7) * (vq 3)) / (nI 100)))) 3)) / (nI 100)))) 3)) / (nI 100)))) 12)
def u9Q (vq : Nat → Int32) (vf : Nat → Int32) (vd : Nat → Int32) (vw : Nat → Int32) (vl : Nat → Int32) (vr : Nat → Int32) (n : Nat) (a : Nat) (b : Nat) (x : Int32) : Nat → Int32 := upd (upd (upd vq 10 (l20 (((vq 7) * (vq 3)) / (nI 100)))) 11 (l20 ((((upd vq 10 (l20 (((vq 7) * (vq 3)) / (nI 100)))) 8) * ((upd vq 10 (l20 (((vq 7) * (vq 3)) / (nI 100)))) 3)) / (nI 100)))) 12 (l20 ((((upd (upd vq 10 (l20 (((vq 7) * (vq 3)) / (nI 100)))) 11 (l20 ((((upd vq 10 (l20 (((vq 7) * (vq 3)) / (nI 100)))) 8) * ((upd vq 10 (l20 (((vq 7) * (vq 3)) / (nI 100)))) 3)) / (nI 100)))) 9) * ((upd (upd vq 10 (l20 (((vq 7) * (vq 3)) / (nI 100)))) 11 (l20 ((((upd vq 10 (l20 (((vq 7) * (vq 3)) / (nI 100)))) 8) * ((upd vq 10 (l20 (((vq 7) * (vq 3)) / (nI 100)))) 3)) / (nI 100)))) 3)) / (nI 100)))
def u9F (vq : Nat → Int32) (vf : Nat → Int32) (vd : Nat → Int32) (vw : Nat → Int32) (vl : Nat → Int32) (vr : Nat → Int32) (n : Nat) (a : Nat) (b : Nat) (x : Int32) : Nat → Int32 := vf
def u9D (vq : Nat → Int32) (vf : Nat → Int32) (vd : Nat → Int32) (vw : Nat → Int32) (vl : Nat → Int32) (vr : Nat → Int32) (n : Nat) (a : Nat) (b : Nat) (x : Int32) : Nat → Int32 := vd
def u9W (vq : Nat → Int32) (vf : Nat → Int32) (vd : Nat → Int32) (vw : Nat → Int32) (vl : Nat → Int32) (vr : Nat → Int32) (n : Nat) (a : Nat) (b : Nat) (x : Int32) : Nat → Int32 := vw
def u9L (vq : Nat → Int32) (vf : Nat → Int32) (vd : Nat → Int32) (vw : Nat → Int32) (vl : Nat → Int32) (vr : Nat → Int32) (n : Nat) (a : Nat) (b : Nat) (x : Int32) : Nat → Int32 := vl
def u9R (vq : Nat → Int32) (vf : Nat → Int32) (vd : Nat → Int32) (vw : Nat → Int32) (vl : Nat → Int32) (vr : Nat → Int32) (n : Nat) (a : Nat) (b : Nat) (x : Int32) : Nat → Int32 := vr
set_option maxHeartbeats 4000000 in
set_option maxRecDepth 100000 in
theorem c_L_due_9 (l : Launch) (E : EV) (a : Nat) (b : Nat) (x : Int32) (aq : Nat) (af : Nat) (ad : Nat) (aw : Nat) (al : Nat) (ar : Nat) (vq : Nat → Int32) (vf : Nat → Int32) (vd : Nat → Int32) (vw : Nat → Int32) (vl : Nat → Int32) (vr : Nat → Int32) (n : Nat) (hf : vq 4 = nI n) (hn : n ≤ 20) : rcI l E yL_due cL_due 13 .int 4 [.int (nI 9), .int (nI a), .int (nI b), .int x, .ref aq, .ref af, .ref ad, .ref aw, .ref al, .ref ar] [(aq, .inl (E.2.1, 13, .inl vq)), (af, .inl (E.2.1, 21, .inl vf)), (ad, .inl (E.2.1, 63, .inl vd)), (aw, .inl (E.2.1, 63, .inl vw)), (al, .inl (E.2.1, 63, .inl vl)), (ar, .inl (E.2.1, 63, .inl vr))] (u9V vq vf vd vw vl vr n a b x) [(aq, .inl (E.2.1, 13, .inl (u9Q vq vf vd vw vl vr n a b x))), (af, .inl (E.2.1, 21, .inl (u9F vq vf vd vw vl vr n a b x))), (ad, .inl (E.2.1, 63, .inl (u9D vq vf vd vw vl vr n a b x))), (aw, .inl (E.2.1, 63, .inl (u9W vq vf vd vw vl vr n a b x))), (al, .inl (E.2.1, 63, .inl (u9L vq vf vd vw vl vr n a b x))), (ar, .inl (E.2.1, 63, .inl (u9R vq vf vd vw vl vr n a b x)))] := by
  refine rcI_of (by decide) (Nat.le_of_ble_eq_true rfl) ?_
  intro pg e s m below meth c Q A ls S hP hD0 hE hA hl hret
  have hx := S.1
  have hb := S.2.1
  have hown := S.2.2.2.1
  have hts := S.2.2.2.2
  have hK := hE.1
  have hS : va_S A s.heap s.heap [] := va_S.rf
  have hDa : va_Da A [aq, af, ad, aw, al, ar] := ⟨_, hD0, rfl⟩
  have hl : lv_has ls 13 [(0, .int (nI 9)), (1, .int (nI a)), (2, .int (nI b)), (3, .int x), (4, .ref aq), (5, .ref af), (6, .ref ad), (7, .ref aw), (8, .ref al), (9, .ref ar)] := hl
  refine lv_iload_n hx hb dL_due_0 rfl (lv_at hl 0 rfl) ?_
  refine lv_if_ne (tgt := 135) hx hb dL_due_1 (by decide) (fun _ => ?_) (fun c9 => by first | exact absurd (by decide) c9 | exact absurd c9 (by decide))
  refine lv_iload_n hx hb dL_due_135 rfl (lv_at hl 0 rfl) ?_
  refine lv_bipush (v := nI 6) hx hb dL_due_136 (by decide) ?_
  refine rn_icmp_lt (a := 9) (b := 6) (tgt := 153) hx hb (by omega) (by omega) dL_due_138 (by decide) (fun c_1 => absurd c_1 (by omega)) (fun c_1 => ?_)
  refine lv_iload_n hx hb dL_due_141 rfl (lv_at hl 0 rfl) ?_
  refine lv_bipush (v := nI 7) hx hb dL_due_142 (by decide) ?_
  refine rn_icmp_eq (a := 9) (b := 7) (tgt := 153) hx hb (by omega) (by omega) dL_due_144 (by decide) (fun c_2 => absurd c_2 (by omega)) (fun c_2 => ?_)
  refine lv_iload_n hx hb dL_due_147 rfl (lv_at hl 0 rfl) ?_
  refine lv_bipush (v := nI 12) hx hb dL_due_148 (by decide) ?_
  refine rn_icmp_ne (a := 9) (b := 12) (tgt := 185) hx hb (by omega) (by omega) dL_due_150 (by decide) (fun c_3 => ?_) (fun c_3 => absurd c_3 (by omega))
  refine lv_iconst (v := nI 0) hx hb dL_due_185 (by decide) ?_
  refine lv_istore (lv' := [(10, .int (nI 0)), (0, .int (nI 9)), (1, .int (nI a)), (2, .int (nI b)), (3, .int x), (4, .ref aq), (5, .ref af), (6, .ref ad), (7, .ref aw), (8, .ref al), (9, .ref ar)]) hx hb dL_due_186 hl (by decide) rfl (fun ls hl => ?_)
  refine lv_iload_n hx hb dL_due_188 rfl (lv_at hl 1 rfl) ?_
  refine lv_bipush (v := nI 6) hx hb dL_due_189 (by decide) ?_
  refine rn_icmp_ne (a := 9) (b := 6) (tgt := 222) hx hb (by omega) (by omega) dL_due_191 (by decide) (fun c_4 => ?_) (fun c_4 => absurd c_4 (by omega))
  refine lv_iload_n hx hb dL_due_222 rfl (lv_at hl 1 rfl) ?_
  refine lv_bipush (v := nI 8) hx hb dL_due_223 (by decide) ?_
  refine rn_icmp_ne (a := 9) (b := 8) (tgt := 289) hx hb (by omega) (by omega) dL_due_225 (by decide) (fun c_5 => ?_) (fun c_5 => absurd c_5 (by omega))
  refine lv_iload_n hx hb dL_due_289 rfl (lv_at hl 1 rfl) ?_
  refine lv_bipush (v := nI 9) hx hb dL_due_290 (by decide) ?_
  refine rn_icmp_ne (a := 9) (b := 9) (tgt := 366) hx hb (by omega) (by omega) dL_due_292 (by decide) (fun c_6 => absurd c_6 (by omega)) (fun c_6 => ?_)
  refine lv_iconst (v := nI 0) hx hb dL_due_295 (by decide) ?_
  refine lv_istore (lv' := [(11, .int (nI 0)), (10, .int (nI 0)), (0, .int (nI 9)), (1, .int (nI a)), (2, .int (nI b)), (3, .int x), (4, .ref aq), (5, .ref af), (6, .ref ad), (7, .ref aw), (8, .ref al), (9, .ref ar)]) hx hb dL_due_296 hl (by decide) rfl (fun ls hl => ?_)
  refine lv_iload hx hb dL_due_298 (lv_at hl 0 rfl) ?_
  refine lv_iconst (v := nI 3) hx hb dL_due_300 (by decide) ?_
  refine rn_icmp_ge (a := 0) (b := 3) (tgt := 363) hx hb (by omega) (by omega) dL_due_301 (by decide) (fun c_7 => absurd c_7 (by omega)) (fun c_7 => ?_)
  refine lv_aload hx hb dL_due_304 (lv_at hl 6 rfl) ?_
  refine lv_bipush (v := nI 7) hx hb dL_due_306 (by decide) ?_
  refine lv_iload hx hb dL_due_308 (lv_at hl 0 rfl) ?_
  refine rn_add (a := 7) (b := 0) hx hb dL_due_310 ?_
  refine rn_iald (i := 7) hx hb hK hP 0 0 rfl rfl (by omega) (by omega) dL_due_311 ?_
  refine lv_aload hx hb dL_due_312 (lv_at hl 6 rfl) ?_
  refine lv_iconst (v := nI 3) hx hb dL_due_314 (by decide) ?_
  refine rn_iald (i := 3) hx hb hK hP 0 0 rfl rfl (by omega) (by omega) dL_due_315 ?_
  refine lv_imul hx hb dL_due_316 ?_
  refine lv_bipush (v := nI 100) hx hb dL_due_317 (by decide) ?_
  refine lv_idiv hx hb dL_due_319 (by decide) ?_
  refine lv_istore (lv' := [(12, .int (((vq 7) * (vq 3)) / (nI 100))), (11, .int (nI 0)), (10, .int (nI 0)), (0, .int (nI 9)), (1, .int (nI a)), (2, .int (nI b)), (3, .int x), (4, .ref aq), (5, .ref af), (6, .ref ad), (7, .ref aw), (8, .ref al), (9, .ref ar)]) hx hb dL_due_320 hl (by decide) rfl (fun ls hl => ?_)
  refine lv_aload hx hb dL_due_322 (lv_at hl 7 rfl) ?_
  refine lv_bipush (v := nI 10) hx hb dL_due_324 (by decide) ?_
  refine lv_iload hx hb dL_due_326 (lv_at hl 1 rfl) ?_
  refine rn_add (a := 10) (b := 0) hx hb dL_due_328 ?_
  refine lv_iload hx hb dL_due_329 (lv_at hl 0 rfl) ?_
  refine lv_bipush (v := nI 20) hx hb dL_due_331 (by decide) ?_
  refine (fun (hj : ∀ (H : Heap) (locs : List Loc), va_P E.1 vwCl [(aq, .inl (E.2.1, 13, .inl vq)), (af, .inl (E.2.1, 21, .inl vf)), (ad, .inl (E.2.1, 63, .inl vd)), (aw, .inl (E.2.1, 63, .inl vw)), (al, .inl (E.2.1, 63, .inl vl)), (ar, .inl (E.2.1, 63, .inl vr))] H → va_S A s.heap H locs → W pg l e (rq 4) s m ([.int (nI 9), .int (nI a), .int (nI b), .int x, .ref aq, .ref af, .ref ad, .ref aw, .ref al, .ref ar] : List Value).toArray below meth c H locs 0 0 Q (F0 m 343 ls [.int (if ((vq 7) * (vq 3)) / (nI 100) ≤ nI 20 then ((vq 7) * (vq 3)) / (nI 100) else nI 20), .int (nI 10), .ref aq])) => ?_) ?_
  · refine lv_icmp_le (tgt := 341) hx hb dL_due_333 (by decide) (fun c_8 => ?_) (fun c_8 => ?_)
    · refine lv_iload hx hb dL_due_341 (lv_at hl 0 rfl) ?_
      have hj9 := hj _ _ hP hS
      rw [if_pos c_8] at hj9
      exact hj9
    · refine lv_bipush (v := nI 20) hx hb dL_due_336 (by decide) ?_
      refine lv_goto (tgt := 343) hx hb dL_due_338 (by decide) ?_
      have hj9 := hj _ _ hP hS
      rw [if_neg c_8] at hj9
      exact hj9
  intro H locs hP hS
  refine W.eq (congrArg (fun z => F0 m 343 ls (.int z :: [.int (nI 10), .ref aq])) (show (if ((vq 7) * (vq 3)) / (nI 100) ≤ nI 20 then ((vq 7) * (vq 3)) / (nI 100) else nI 20) = l20 (((vq 7) * (vq 3)) / (nI 100)) from rfl)) ?_
  refine rn_iast (i := 10) hx hb hK hP (hDa.to rfl) hS 0 0 rfl rfl (by omega) (by omega) dL_due_343 (fun H locs hP _ hS => ?_)
  have hP : va_P E.1 vwCl [(aq, .inl (E.2.1, 13, .inl (upd vq 10 (l20 (((vq 7) * (vq 3)) / (nI 100)))))), (af, .inl (E.2.1, 21, .inl vf)), (ad, .inl (E.2.1, 63, .inl vd)), (aw, .inl (E.2.1, 63, .inl vw)), (al, .inl (E.2.1, 63, .inl vl)), (ar, .inl (E.2.1, 63, .inl vr))] H := hP
  refine lv_iload hx hb dL_due_344 (lv_at hl 2 rfl) ?_
  refine lv_aload hx hb dL_due_346 (lv_at hl 7 rfl) ?_
  refine lv_bipush (v := nI 10) hx hb dL_due_348 (by decide) ?_
  refine lv_iload hx hb dL_due_350 (lv_at hl 1 rfl) ?_
  refine rn_add (a := 10) (b := 0) hx hb dL_due_352 ?_
  refine rn_iald (i := 10) hx hb hK hP 0 0 rfl rfl (by omega) (by omega) dL_due_353 ?_
  refine lv_iadd hx hb dL_due_354 ?_
  refine lv_istore (lv' := [(10, .int (nI 0 + ((upd vq 10 (l20 (((vq 7) * (vq 3)) / (nI 100)))) 10))), (12, .int (((vq 7) * (vq 3)) / (nI 100))), (11, .int (nI 0)), (0, .int (nI 9)), (1, .int (nI a)), (2, .int (nI b)), (3, .int x), (4, .ref aq), (5, .ref af), (6, .ref ad), (7, .ref aw), (8, .ref al), (9, .ref ar)]) hx hb dL_due_355 hl (by decide) rfl (fun ls hl => ?_)
  refine rn_inc (a := 0) (d := 1) (lv' := [(11, .int (nI 1)), (10, .int (nI 0 + ((upd vq 10 (l20 (((vq 7) * (vq 3)) / (nI 100)))) 10))), (12, .int (((vq 7) * (vq 3)) / (nI 100))), (0, .int (nI 9)), (1, .int (nI a)), (2, .int (nI b)), (3, .int x), (4, .ref aq), (5, .ref af), (6, .ref ad), (7, .ref aw), (8, .ref al), (9, .ref ar)]) hx hb dL_due_357 hl (k := 2) rfl (by decide) (by decide) rfl (fun ls hl => ?_)
  refine lv_goto (tgt := 298) hx hb dL_due_360 (by decide) ?_
  refine lv_iload hx hb dL_due_298 (lv_at hl 0 rfl) ?_
  refine lv_iconst (v := nI 3) hx hb dL_due_300 (by decide) ?_
  refine rn_icmp_ge (a := 1) (b := 3) (tgt := 363) hx hb (by omega) (by omega) dL_due_301 (by decide) (fun c_9 => absurd c_9 (by omega)) (fun c_9 => ?_)
  refine lv_aload hx hb dL_due_304 (lv_at hl 7 rfl) ?_
  refine lv_bipush (v := nI 7) hx hb dL_due_306 (by decide) ?_
  refine lv_iload hx hb dL_due_308 (lv_at hl 0 rfl) ?_
  refine rn_add (a := 7) (b := 1) hx hb dL_due_310 ?_
  refine rn_iald (i := 8) hx hb hK hP 0 0 rfl rfl (by omega) (by omega) dL_due_311 ?_
  refine lv_aload hx hb dL_due_312 (lv_at hl 7 rfl) ?_
  refine lv_iconst (v := nI 3) hx hb dL_due_314 (by decide) ?_
  refine rn_iald (i := 3) hx hb hK hP 0 0 rfl rfl (by omega) (by omega) dL_due_315 ?_
  refine lv_imul hx hb dL_due_316 ?_
  refine lv_bipush (v := nI 100) hx hb dL_due_317 (by decide) ?_
  refine lv_idiv hx hb dL_due_319 (by decide) ?_
  refine lv_istore (lv' := [(12, .int ((((upd vq 10 (l20 (((vq 7) * (vq 3)) / (nI 100)))) 8) * ((upd vq 10 (l20 (((vq 7) * (vq 3)) / (nI 100)))) 3)) / (nI 100))), (11, .int (nI 1)), (10, .int (nI 0 + ((upd vq 10 (l20 (((vq 7) * (vq 3)) / (nI 100)))) 10))), (0, .int (nI 9)), (1, .int (nI a)), (2, .int (nI b)), (3, .int x), (4, .ref aq), (5, .ref af), (6, .ref ad), (7, .ref aw), (8, .ref al), (9, .ref ar)]) hx hb dL_due_320 hl (by decide) rfl (fun ls hl => ?_)
  refine lv_aload hx hb dL_due_322 (lv_at hl 7 rfl) ?_
  refine lv_bipush (v := nI 10) hx hb dL_due_324 (by decide) ?_
  refine lv_iload hx hb dL_due_326 (lv_at hl 1 rfl) ?_
  refine rn_add (a := 10) (b := 1) hx hb dL_due_328 ?_
  refine lv_iload hx hb dL_due_329 (lv_at hl 0 rfl) ?_
  refine lv_bipush (v := nI 20) hx hb dL_due_331 (by decide) ?_
  refine (fun (hj : ∀ (H : Heap) (locs : List Loc), va_P E.1 vwCl [(aq, .inl (E.2.1, 13, .inl (upd vq 10 (l20 (((vq 7) * (vq 3)) / (nI 100)))))), (af, .inl (E.2.1, 21, .inl vf)), (ad, .inl (E.2.1, 63, .inl vd)), (aw, .inl (E.2.1, 63, .inl vw)), (al, .inl (E.2.1, 63, .inl vl)), (ar, .inl (E.2.1, 63, .inl vr))] H → va_S A s.heap H locs → W pg l e (rq 4) s m ([.int (nI 9), .int (nI a), .int (nI b), .int x, .ref aq, .ref af, .ref ad, .ref aw, .ref al, .ref ar] : List Value).toArray below meth c H locs 0 0 Q (F0 m 343 ls [.int (if (((upd vq 10 (l20 (((vq 7) * (vq 3)) / (nI 100)))) 8) * ((upd vq 10 (l20 (((vq 7) * (vq 3)) / (nI 100)))) 3)) / (nI 100) ≤ nI 20 then (((upd vq 10 (l20 (((vq 7) * (vq 3)) / (nI 100)))) 8) * ((upd vq 10 (l20 (((vq 7) * (vq 3)) / (nI 100)))) 3)) / (nI 100) else nI 20), .int (nI 11), .ref aq])) => ?_) ?_
  · refine lv_icmp_le (tgt := 341) hx hb dL_due_333 (by decide) (fun c_10 => ?_) (fun c_10 => ?_)
    · refine lv_iload hx hb dL_due_341 (lv_at hl 0 rfl) ?_
      have hj9 := hj _ _ hP hS
      rw [if_pos c_10] at hj9
      exact hj9
    · refine lv_bipush (v := nI 20) hx hb dL_due_336 (by decide) ?_
      refine lv_goto (tgt := 343) hx hb dL_due_338 (by decide) ?_
      have hj9 := hj _ _ hP hS
      rw [if_neg c_10] at hj9
      exact hj9
  intro H locs hP hS
  refine W.eq (congrArg (fun z => F0 m 343 ls (.int z :: [.int (nI 11), .ref aq])) (show (if (((upd vq 10 (l20 (((vq 7) * (vq 3)) / (nI 100)))) 8) * ((upd vq 10 (l20 (((vq 7) * (vq 3)) / (nI 100)))) 3)) / (nI 100) ≤ nI 20 then (((upd vq 10 (l20 (((vq 7) * (vq 3)) / (nI 100)))) 8) * ((upd vq 10 (l20 (((vq 7) * (vq 3)) / (nI 100)))) 3)) / (nI 100) else nI 20) = l20 ((((upd vq 10 (l20 (((vq 7) * (vq 3)) / (nI 100)))) 8) * ((upd vq 10 (l20 (((vq 7) * (vq 3)) / (nI 100)))) 3)) / (nI 100)) from rfl)) ?_
  refine rn_iast (i := 11) hx hb hK hP (hDa.to rfl) hS 0 0 rfl rfl (by omega) (by omega) dL_due_343 (fun H locs hP _ hS => ?_)
  have hP : va_P E.1 vwCl [(aq, .inl (E.2.1, 13, .inl (upd (upd vq 10 (l20 (((vq 7) * (vq 3)) / (nI 100)))) 11 (l20 ((((upd vq 10 (l20 (((vq 7) * (vq 3)) / (nI 100)))) 8) * ((upd vq 10 (l20 (((vq 7) * (vq 3)) / (nI 100)))) 3)) / (nI 100)))))), (af, .inl (E.2.1, 21, .inl vf)), (ad, .inl (E.2.1, 63, .inl vd)), (aw, .inl (E.2.1, 63, .inl vw)), (al, .inl (E.2.1, 63, .inl vl)), (ar, .inl (E.2.1, 63, .inl vr))] H := hP
  refine lv_iload hx hb dL_due_344 (lv_at hl 2 rfl) ?_
  refine lv_aload hx hb dL_due_346 (lv_at hl 7 rfl) ?_
  refine lv_bipush (v := nI 10) hx hb dL_due_348 (by decide) ?_
  refine lv_iload hx hb dL_due_350 (lv_at hl 1 rfl) ?_
  refine rn_add (a := 10) (b := 1) hx hb dL_due_352 ?_
  refine rn_iald (i := 11) hx hb hK hP 0 0 rfl rfl (by omega) (by omega) dL_due_353 ?_
  refine lv_iadd hx hb dL_due_354 ?_
  refine lv_istore (lv' := [(10, .int (nI 0 + ((upd vq 10 (l20 (((vq 7) * (vq 3)) / (nI 100)))) 10) + ((upd (upd vq 10 (l20 (((vq 7) * (vq 3)) / (nI 100)))) 11 (l20 ((((upd vq 10 (l20 (((vq 7) * (vq 3)) / (nI 100)))) 8) * ((upd vq 10 (l20 (((vq 7) * (vq 3)) / (nI 100)))) 3)) / (nI 100)))) 11))), (12, .int ((((upd vq 10 (l20 (((vq 7) * (vq 3)) / (nI 100)))) 8) * ((upd vq 10 (l20 (((vq 7) * (vq 3)) / (nI 100)))) 3)) / (nI 100))), (11, .int (nI 1)), (0, .int (nI 9)), (1, .int (nI a)), (2, .int (nI b)), (3, .int x), (4, .ref aq), (5, .ref af), (6, .ref ad), (7, .ref aw), (8, .ref al), (9, .ref ar)]) hx hb dL_due_355 hl (by decide) rfl (fun ls hl => ?_)
  refine rn_inc (a := 1) (d := 1) (lv' := [(11, .int (nI 2)), (10, .int (nI 0 + ((upd vq 10 (l20 (((vq 7) * (vq 3)) / (nI 100)))) 10) + ((upd (upd vq 10 (l20 (((vq 7) * (vq 3)) / (nI 100)))) 11 (l20 ((((upd vq 10 (l20 (((vq 7) * (vq 3)) / (nI 100)))) 8) * ((upd vq 10 (l20 (((vq 7) * (vq 3)) / (nI 100)))) 3)) / (nI 100)))) 11))), (12, .int ((((upd vq 10 (l20 (((vq 7) * (vq 3)) / (nI 100)))) 8) * ((upd vq 10 (l20 (((vq 7) * (vq 3)) / (nI 100)))) 3)) / (nI 100))), (0, .int (nI 9)), (1, .int (nI a)), (2, .int (nI b)), (3, .int x), (4, .ref aq), (5, .ref af), (6, .ref ad), (7, .ref aw), (8, .ref al), (9, .ref ar)]) hx hb dL_due_357 hl (k := 2) rfl (by decide) (by decide) rfl (fun ls hl => ?_)
  refine lv_goto (tgt := 298) hx hb dL_due_360 (by decide) ?_
  refine lv_iload hx hb dL_due_298 (lv_at hl 0 rfl) ?_
  refine lv_iconst (v := nI 3) hx hb dL_due_300 (by decide) ?_
  refine rn_icmp_ge (a := 2) (b := 3) (tgt := 363) hx hb (by omega) (by omega) dL_due_301 (by decide) (fun c_11 => absurd c_11 (by omega)) (fun c_11 => ?_)
  refine lv_aload hx hb dL_due_304 (lv_at hl 7 rfl) ?_
  refine lv_bipush (v := nI 7) hx hb dL_due_306 (by decide) ?_
  refine lv_iload hx hb dL_due_308 (lv_at hl 0 rfl) ?_
  refine rn_add (a := 7) (b := 2) hx hb dL_due_310 ?_
  refine rn_iald (i := 9) hx hb hK hP 0 0 rfl rfl (by omega) (by omega) dL_due_311 ?_
  refine lv_aload hx hb dL_due_312 (lv_at hl 7 rfl) ?_
  refine lv_iconst (v := nI 3) hx hb dL_due_314 (by decide) ?_
  refine rn_iald (i := 3) hx hb hK hP 0 0 rfl rfl (by omega) (by omega) dL_due_315 ?_
  refine lv_imul hx hb dL_due_316 ?_
  refine lv_bipush (v := nI 100) hx hb dL_due_317 (by decide) ?_
  refine lv_idiv hx hb dL_due_319 (by decide) ?_
  refine lv_istore (lv' := [(12, .int ((((upd (upd vq 10 (l20 (((vq 7) * (vq 3)) / (nI 100)))) 11 (l20 ((((upd vq 10 (l20 (((vq 7) * (vq 3)) / (nI 100)))) 8) * ((upd vq 10 (l20 (((vq 7) * (vq 3)) / (nI 100)))) 3)) / (nI 100)))) 9) * ((upd (upd vq 10 (l20 (((vq 7) * (vq 3)) / (nI 100)))) 11 (l20 ((((upd vq 10 (l20 (((vq 7) * (vq 3)) / (nI 100)))) 8) * ((upd vq 10 (l20 (((vq 7) * (vq 3)) / (nI 100)))) 3)) / (nI 100)))) 3)) / (nI 100))), (11, .int (nI 2)), (10, .int (nI 0 + ((upd vq 10 (l20 (((vq 7) * (vq 3)) / (nI 100)))) 10) + ((upd (upd vq 10 (l20 (((vq 7) * (vq 3)) / (nI 100)))) 11 (l20 ((((upd vq 10 (l20 (((vq 7) * (vq 3)) / (nI 100)))) 8) * ((upd vq 10 (l20 (((vq 7) * (vq 3)) / (nI 100)))) 3)) / (nI 100)))) 11))), (0, .int (nI 9)), (1, .int (nI a)), (2, .int (nI b)), (3, .int x), (4, .ref aq), (5, .ref af), (6, .ref ad), (7, .ref aw), (8, .ref al), (9, .ref ar)]) hx hb dL_due_320 hl (by decide) rfl (fun ls hl => ?_)
  refine lv_aload hx hb dL_due_322 (lv_at hl 7 rfl) ?_
  refine lv_bipush (v := nI 10) hx hb dL_due_324 (by decide) ?_
  refine lv_iload hx hb dL_due_326 (lv_at hl 1 rfl) ?_
  refine rn_add (a := 10) (b := 2) hx hb dL_due_328 ?_
  refine lv_iload hx hb dL_due_329 (lv_at hl 0 rfl) ?_
  refine lv_bipush (v := nI 20) hx hb dL_due_331 (by decide) ?_
  refine (fun (hj : ∀ (H : Heap) (locs : List Loc), va_P E.1 vwCl [(aq, .inl (E.2.1, 13, .inl (upd (upd vq 10 (l20 (((vq 7) * (vq 3)) / (nI 100)))) 11 (l20 ((((upd vq 10 (l20 (((vq 7) * (vq 3)) / (nI 100)))) 8) * ((upd vq 10 (l20 (((vq 7) * (vq 3)) / (nI 100)))) 3)) / (nI 100)))))), (af, .inl (E.2.1, 21, .inl vf)), (ad, .inl (E.2.1, 63, .inl vd)), (aw, .inl (E.2.1, 63, .inl vw)), (al, .inl (E.2.1, 63, .inl vl)), (ar, .inl (E.2.1, 63, .inl vr))] H → va_S A s.heap H locs → W pg l e (rq 4) s m ([.int (nI 9), .int (nI a), .int (nI b), .int x, .ref aq, .ref af, .ref ad, .ref aw, .ref al, .ref ar] : List Value).toArray below meth c H locs 0 0 Q (F0 m 343 ls [.int (if (((upd (upd vq 10 (l20 (((vq 7) * (vq 3)) / (nI 100)))) 11 (l20 ((((upd vq 10 (l20 (((vq 7) * (vq 3)) / (nI 100)))) 8) * ((upd vq 10 (l20 (((vq 7) * (vq 3)) / (nI 100)))) 3)) / (nI 100)))) 9) * ((upd (upd vq 10 (l20 (((vq 7) * (vq 3)) / (nI 100)))) 11 (l20 ((((upd vq 10 (l20 (((vq 7) * (vq 3)) / (nI 100)))) 8) * ((upd vq 10 (l20 (((vq 7) * (vq 3)) / (nI 100)))) 3)) / (nI 100)))) 3)) / (nI 100) ≤ nI 20 then (((upd (upd vq 10 (l20 (((vq 7) * (vq 3)) / (nI 100)))) 11 (l20 ((((upd vq 10 (l20 (((vq 7) * (vq 3)) / (nI 100)))) 8) * ((upd vq 10 (l20 (((vq 7) * (vq 3)) / (nI 100)))) 3)) / (nI 100)))) 9) * ((upd (upd vq 10 (l20 (((vq 7) * (vq 3)) / (nI 100)))) 11 (l20 ((((upd vq 10 (l20 (((vq 7) * (vq 3)) / (nI 100)))) 8) * ((upd vq 10 (l20 (((vq 7) * (vq 3)) / (nI 100)))) 3)) / (nI 100)))) 3)) / (nI 100) else nI 20), .int (nI 12), .ref aq])) => ?_) ?_
  · refine lv_icmp_le (tgt := 341) hx hb dL_due_333 (by decide) (fun c_12 => ?_) (fun c_12 => ?_)
    · refine lv_iload hx hb dL_due_341 (lv_at hl 0 rfl) ?_
      have hj9 := hj _ _ hP hS
      rw [if_pos c_12] at hj9
      exact hj9
    · refine lv_bipush (v := nI 20) hx hb dL_due_336 (by decide) ?_
      refine lv_goto (tgt := 343) hx hb dL_due_338 (by decide) ?_
      have hj9 := hj _ _ hP hS
      rw [if_neg c_12] at hj9
      exact hj9
  intro H locs hP hS
  refine W.eq (congrArg (fun z => F0 m 343 ls (.int z :: [.int (nI 12), .ref aq])) (show (if (((upd (upd vq 10 (l20 (((vq 7) * (vq 3)) / (nI 100)))) 11 (l20 ((((upd vq 10 (l20 (((vq 7) * (vq 3)) / (nI 100)))) 8) * ((upd vq 10 (l20 (((vq 7) * (vq 3)) / (nI 100)))) 3)) / (nI 100)))) 9) * ((upd (upd vq 10 (l20 (((vq 7) * (vq 3)) / (nI 100)))) 11 (l20 ((((upd vq 10 (l20 (((vq 7) * (vq 3)) / (nI 100)))) 8) * ((upd vq 10 (l20 (((vq 7) * (vq 3)) / (nI 100)))) 3)) / (nI 100)))) 3)) / (nI 100) ≤ nI 20 then (((upd (upd vq 10 (l20 (((vq 7) * (vq 3)) / (nI 100)))) 11 (l20 ((((upd vq 10 (l20 (((vq 7) * (vq 3)) / (nI 100)))) 8) * ((upd vq 10 (l20 (((vq 7) * (vq 3)) / (nI 100)))) 3)) / (nI 100)))) 9) * ((upd (upd vq 10 (l20 (((vq 7) * (vq 3)) / (nI 100)))) 11 (l20 ((((upd vq 10 (l20 (((vq 7) * (vq 3)) / (nI 100)))) 8) * ((upd vq 10 (l20 (((vq 7) * (vq 3)) / (nI 100)))) 3)) / (nI 100)))) 3)) / (nI 100) else nI 20) = l20 ((((upd (upd vq 10 (l20 (((vq 7) * (vq 3)) / (nI 100)))) 11 (l20 ((((upd vq 10 (l20 (((vq 7) * (vq 3)) / (nI 100)))) 8) * ((upd vq 10 (l20 (((vq 7) * (vq 3)) / (nI 100)))) 3)) / (nI 100)))) 9) * ((upd (upd vq 10 (l20 (((vq 7) * (vq 3)) / (nI 100)))) 11 (l20 ((((upd vq 10 (l20 (((vq 7) * (vq 3)) / (nI 100)))) 8) * ((upd vq 10 (l20 (((vq 7) * (vq 3)) / (nI 100)))) 3)) / (nI 100)))) 3)) / (nI 100)) from rfl)) ?_
  refine rn_iast (i := 12) hx hb hK hP (hDa.to rfl) hS 0 0 rfl rfl (by omega) (by omega) dL_due_343 (fun H locs hP _ hS => ?_)
  have hP : va_P E.1 vwCl [(aq, .inl (E.2.1, 13, .inl (upd (upd (upd vq 10 (l20 (((vq 7) * (vq 3)) / (nI 100)))) 11 (l20 ((((upd vq 10 (l20 (((vq 7) * (vq 3)) / (nI 100)))) 8) * ((upd vq 10 (l20 (((vq 7) * (vq 3)) / (nI 100)))) 3)) / (nI 100)))) 12 (l20 ((((upd (upd vq 10 (l20 (((vq 7) * (vq 3)) / (nI 100)))) 11 (l20 ((((upd vq 10 (l20 (((vq 7) * (vq 3)) / (nI 100)))) 8) * ((upd vq 10 (l20 (((vq 7) * (vq 3)) / (nI 100)))) 3)) / (nI 100)))) 9) * ((upd (upd vq 10 (l20 (((vq 7) * (vq 3)) / (nI 100)))) 11 (l20 ((((upd vq 10 (l20 (((vq 7) * (vq 3)) / (nI 100)))) 8) * ((upd vq 10 (l20 (((vq 7) * (vq 3)) / (nI 100)))) 3)) / (nI 100)))) 3)) / (nI 100)))))), (af, .inl (E.2.1, 21, .inl vf)), (ad, .inl (E.2.1, 63, .inl vd)), (aw, .inl (E.2.1, 63, .inl vw)), (al, .inl (E.2.1, 63, .inl vl)), (ar, .inl (E.2.1, 63, .inl vr))] H := hP
  refine lv_iload hx hb dL_due_344 (lv_at hl 2 rfl) ?_
  refine lv_aload hx hb dL_due_346 (lv_at hl 7 rfl) ?_
  refine lv_bipush (v := nI 10) hx hb dL_due_348 (by decide) ?_
  refine lv_iload hx hb dL_due_350 (lv_at hl 1 rfl) ?_
  refine rn_add (a := 10) (b := 2) hx hb dL_due_352 ?_
  refine rn_iald (i := 12) hx hb hK hP 0 0 rfl rfl (by omega) (by omega) dL_due_353 ?_
  refine lv_iadd hx hb dL_due_354 ?_
  refine lv_istore (lv' := [(10, .int (nI 0 + ((upd vq 10 (l20 (((vq 7) * (vq 3)) / (nI 100)))) 10) + ((upd (upd vq 10 (l20 (((vq 7) * (vq 3)) / (nI 100)))) 11 (l20 ((((upd vq 10 (l20 (((vq 7) * (vq 3)) / (nI 100)))) 8) * ((upd vq 10 (l20 (((vq 7) * (vq 3)) / (nI 100)))) 3)) / (nI 100)))) 11) + ((upd (upd (upd vq 10 (l20 (((vq 7) * (vq 3)) / (nI 100)))) 11 (l20 ((((upd vq 10 (l20 (((vq 7) * (vq 3)) / (nI 100)))) 8) * ((upd vq 10 (l20 (((vq 7) * (vq 3)) / (nI 100)))) 3)) / (nI 100)))) 12 (l20 ((((upd (upd vq 10 (l20 (((vq 7) * (vq 3)) / (nI 100)))) 11 (l20 ((((upd vq 10 (l20 (((vq 7) * (vq 3)) / (nI 100)))) 8) * ((upd vq 10 (l20 (((vq 7) * (vq 3)) / (nI 100)))) 3)) / (nI 100)))) 9) * ((upd (upd vq 10 (l20 (((vq 7) * (vq 3)) / (nI 100)))) 11 (l20 ((((upd vq 10 (l20 (((vq 7) * (vq 3)) / (nI 100)))) 8) * ((upd vq 10 (l20 (((vq 7) * (vq 3)) / (nI 100)))) 3)) / (nI 100)))) 3)) / (nI 100)))) 12))), (12, .int ((((upd (upd vq 10 (l20 (((vq 7) * (vq 3)) / (nI 100)))) 11 (l20 ((((upd vq 10 (l20 (((vq 7) * (vq 3)) / (nI 100)))) 8) * ((upd vq 10 (l20 (((vq 7) * (vq 3)) / (nI 100)))) 3)) / (nI 100)))) 9) * ((upd (upd vq 10 (l20 (((vq 7) * (vq 3)) / (nI 100)))) 11 (l20 ((((upd vq 10 (l20 (((vq 7) * (vq 3)) / (nI 100)))) 8) * ((upd vq 10 (l20 (((vq 7) * (vq 3)) / (nI 100)))) 3)) / (nI 100)))) 3)) / (nI 100))), (11, .int (nI 2)), (0, .int (nI 9)), (1, .int (nI a)), (2, .int (nI b)), (3, .int x), (4, .ref aq), (5, .ref af), (6, .ref ad), (7, .ref aw), (8, .ref al), (9, .ref ar)]) hx hb dL_due_355 hl (by decide) rfl (fun ls hl => ?_)
  refine rn_inc (a := 2) (d := 1) (lv' := [(11, .int (nI 3)), (10, .int (nI 0 + ((upd vq 10 (l20 (((vq 7) * (vq 3)) / (nI 100)))) 10) + ((upd (upd vq 10 (l20 (((vq 7) * (vq 3)) / (nI 100)))) 11 (l20 ((((upd vq 10 (l20 (((vq 7) * (vq 3)) / (nI 100)))) 8) * ((upd vq 10 (l20 (((vq 7) * (vq 3)) / (nI 100)))) 3)) / (nI 100)))) 11) + ((upd (upd (upd vq 10 (l20 (((vq 7) * (vq 3)) / (nI 100)))) 11 (l20 ((((upd vq 10 (l20 (((vq 7) * (vq 3)) / (nI 100)))) 8) * ((upd vq 10 (l20 (((vq 7) * (vq 3)) / (nI 100)))) 3)) / (nI 100)))) 12 (l20 ((((upd (upd vq 10 (l20 (((vq 7) * (vq 3)) / (nI 100)))) 11 (l20 ((((upd vq 10 (l20 (((vq 7) * (vq 3)) / (nI 100)))) 8) * ((upd vq 10 (l20 (((vq 7) * (vq 3)) / (nI 100)))) 3)) / (nI 100)))) 9) * ((upd (upd vq 10 (l20 (((vq 7) * (vq 3)) / (nI 100)))) 11 (l20 ((((upd vq 10 (l20 (((vq 7) * (vq 3)) / (nI 100)))) 8) * ((upd vq 10 (l20 (((vq 7) * (vq 3)) / (nI 100)))) 3)) / (nI 100)))) 3)) / (nI 100)))) 12))), (12, .int ((((upd (upd vq 10 (l20 (((vq 7) * (vq 3)) / (nI 100)))) 11 (l20 ((((upd vq 10 (l20 (((vq 7) * (vq 3)) / (nI 100)))) 8) * ((upd vq 10 (l20 (((vq 7) * (vq 3)) / (nI 100)))) 3)) / (nI 100)))) 9) * ((upd (upd vq 10 (l20 (((vq 7) * (vq 3)) / (nI 100)))) 11 (l20 ((((upd vq 10 (l20 (((vq 7) * (vq 3)) / (nI 100)))) 8) * ((upd vq 10 (l20 (((vq 7) * (vq 3)) / (nI 100)))) 3)) / (nI 100)))) 3)) / (nI 100))), (0, .int (nI 9)), (1, .int (nI a)), (2, .int (nI b)), (3, .int x), (4, .ref aq), (5, .ref af), (6, .ref ad), (7, .ref aw), (8, .ref al), (9, .ref ar)]) hx hb dL_due_357 hl (k := 2) rfl (by decide) (by decide) rfl (fun ls hl => ?_)
  refine lv_goto (tgt := 298) hx hb dL_due_360 (by decide) ?_
  refine lv_iload hx hb dL_due_298 (lv_at hl 0 rfl) ?_
  refine lv_iconst (v := nI 3) hx hb dL_due_300 (by decide) ?_
  refine rn_icmp_ge (a := 3) (b := 3) (tgt := 363) hx hb (by omega) (by omega) dL_due_301 (by decide) (fun c_13 => ?_) (fun c_13 => absurd c_13 (by omega))
  refine lv_iload hx hb dL_due_363 (lv_at hl 1 rfl) ?_
  exact hret _ _ _ _ _ _ (by rw [u9V]) (by rw [show u9Q vq vf vd vw vl vr n a b x = upd (upd (upd vq 10 (l20 (((vq 7) * (vq 3)) / (nI 100)))) 11 (l20 ((((upd vq 10 (l20 (((vq 7) * (vq 3)) / (nI 100)))) 8) * ((upd vq 10 (l20 (((vq 7) * (vq 3)) / (nI 100)))) 3)) / (nI 100)))) 12 (l20 ((((upd (upd vq 10 (l20 (((vq 7) * (vq 3)) / (nI 100)))) 11 (l20 ((((upd vq 10 (l20 (((vq 7) * (vq 3)) / (nI 100)))) 8) * ((upd vq 10 (l20 (((vq 7) * (vq 3)) / (nI 100)))) 3)) / (nI 100)))) 9) * ((upd (upd vq 10 (l20 (((vq 7) * (vq 3)) / (nI 100)))) 11 (l20 ((((upd vq 10 (l20 (((vq 7) * (vq 3)) / (nI 100)))) 8) * ((upd vq 10 (l20 (((vq 7) * (vq 3)) / (nI 100)))) 3)) / (nI 100)))) 3)) / (nI 100))) from by rw [u9Q], show u9F vq vf vd vw vl vr n a b x = vf from by rw [u9F], show u9D vq vf vd vw vl vr n a b x = vd from by rw [u9D], show u9W vq vf vd vw vl vr n a b x = vw from by rw [u9W], show u9L vq vf vd vw vl vr n a b x = vl from by rw [u9L], show u9R vq vf vd vw vl vr n a b x = vr from by rw [u9R]]) rfl hP hS dL_due_365

def u10V (vq : Nat → Int32) (vf : Nat → Int32) (vd : Nat → Int32) (vw : Nat → Int32) (vl : Nat → Int32) (vr : Nat → Int32) (n : Nat) (a : Nat) (b : Nat) (x : Int32) : Int32 := vq (10 + b) + (nI 20)
def u10Q (vq : Nat → Int32) (vf : Nat → Int32) (vd : Nat → Int32) (vw : Nat → Int32) (vl : Nat → Int32) (vr : Nat → Int32) (n : Nat) (a : Nat) (b : Nat) (x : Int32) : Nat → Int32 := upd vq (10 + b) (nI (lowN x 41) - (nI 20))
def u10F (vq : Nat → Int32) (vf : Nat → Int32) (vd : Nat → Int32) (vw : Nat → Int32) (vl : Nat → Int32) (vr : Nat → Int32) (n : Nat) (a : Nat) (b : Nat) (x : Int32) : Nat → Int32 := vf
def u10D (vq : Nat → Int32) (vf : Nat → Int32) (vd : Nat → Int32) (vw : Nat → Int32) (vl : Nat → Int32) (vr : Nat → Int32) (n : Nat) (a : Nat) (b : Nat) (x : Int32) : Nat → Int32 := vd
def u10W (vq : Nat → Int32) (vf : Nat → Int32) (vd : Nat → Int32) (vw : Nat → Int32) (vl : Nat → Int32) (vr : Nat → Int32) (n : Nat) (a : Nat) (b : Nat) (x : Int32) : Nat → Int32 := vw
def u10L (vq : Nat → Int32) (vf : Nat → Int32) (vd : Nat → Int32) (vw : Nat → Int32) (vl : Nat → Int32) (vr : Nat → Int32) (n : Nat) (a : Nat) (b : Nat) (x : Int32) : Nat → Int32 := vl
def u10R (vq : Nat → Int32) (vf : Nat → Int32) (vd : Nat → Int32) (vw : Nat → Int32) (vl : Nat → Int32) (vr : Nat → Int32) (n : Nat) (a : Nat) (b : Nat) (x : Int32) : Nat → Int32 := vr
set_option maxHeartbeats 4000000 in
set_option maxRecDepth 100000 in
theorem c_L_due_10 (l : Launch) (E : EV) (a : Nat) (b : Nat) (x : Int32) (aq : Nat) (af : Nat) (ad : Nat) (aw : Nat) (al : Nat) (ar : Nat) (vq : Nat → Int32) (vf : Nat → Int32) (vd : Nat → Int32) (vw : Nat → Int32) (vl : Nat → Int32) (vr : Nat → Int32) (n : Nat) (hf : vq 4 = nI n) (hn : n ≤ 20) (hb3 : b < 3) : rcI l E yL_due cL_due 13 .int 4 [.int (nI 10), .int (nI a), .int (nI b), .int x, .ref aq, .ref af, .ref ad, .ref aw, .ref al, .ref ar] [(aq, .inl (E.2.1, 13, .inl vq)), (af, .inl (E.2.1, 21, .inl vf)), (ad, .inl (E.2.1, 63, .inl vd)), (aw, .inl (E.2.1, 63, .inl vw)), (al, .inl (E.2.1, 63, .inl vl)), (ar, .inl (E.2.1, 63, .inl vr))] (u10V vq vf vd vw vl vr n a b x) [(aq, .inl (E.2.1, 13, .inl (u10Q vq vf vd vw vl vr n a b x))), (af, .inl (E.2.1, 21, .inl (u10F vq vf vd vw vl vr n a b x))), (ad, .inl (E.2.1, 63, .inl (u10D vq vf vd vw vl vr n a b x))), (aw, .inl (E.2.1, 63, .inl (u10W vq vf vd vw vl vr n a b x))), (al, .inl (E.2.1, 63, .inl (u10L vq vf vd vw vl vr n a b x))), (ar, .inl (E.2.1, 63, .inl (u10R vq vf vd vw vl vr n a b x)))] := by
  refine rcI_of (by decide) (Nat.le_of_ble_eq_true rfl) ?_
  intro pg e s m below meth c Q A ls S hP hD0 hE hA hl hret
  have hx := S.1
  have hb := S.2.1
  have hown := S.2.2.2.1
  have hts := S.2.2.2.2
  have hK := hE.1
  have hS : va_S A s.heap s.heap [] := va_S.rf
  have hDa : va_Da A [aq, af, ad, aw, al, ar] := ⟨_, hD0, rfl⟩
  have hl : lv_has ls 13 [(0, .int (nI 10)), (1, .int (nI a)), (2, .int (nI b)), (3, .int x), (4, .ref aq), (5, .ref af), (6, .ref ad), (7, .ref aw), (8, .ref al), (9, .ref ar)] := hl
  refine lv_iload_n hx hb dL_due_0 rfl (lv_at hl 0 rfl) ?_
  refine lv_if_ne (tgt := 135) hx hb dL_due_1 (by decide) (fun _ => ?_) (fun c9 => by first | exact absurd (by decide) c9 | exact absurd c9 (by decide))
  refine lv_iload_n hx hb dL_due_135 rfl (lv_at hl 0 rfl) ?_
  refine lv_bipush (v := nI 6) hx hb dL_due_136 (by decide) ?_
  refine rn_icmp_lt (a := 10) (b := 6) (tgt := 153) hx hb (by omega) (by omega) dL_due_138 (by decide) (fun c_1 => absurd c_1 (by omega)) (fun c_1 => ?_)
  refine lv_iload_n hx hb dL_due_141 rfl (lv_at hl 0 rfl) ?_
  refine lv_bipush (v := nI 7) hx hb dL_due_142 (by decide) ?_
  refine rn_icmp_eq (a := 10) (b := 7) (tgt := 153) hx hb (by omega) (by omega) dL_due_144 (by decide) (fun c_2 => absurd c_2 (by omega)) (fun c_2 => ?_)
  refine lv_iload_n hx hb dL_due_147 rfl (lv_at hl 0 rfl) ?_
  refine lv_bipush (v := nI 12) hx hb dL_due_148 (by decide) ?_
  refine rn_icmp_ne (a := 10) (b := 12) (tgt := 185) hx hb (by omega) (by omega) dL_due_150 (by decide) (fun c_3 => ?_) (fun c_3 => absurd c_3 (by omega))
  refine lv_iconst (v := nI 0) hx hb dL_due_185 (by decide) ?_
  refine lv_istore (lv' := [(10, .int (nI 0)), (0, .int (nI 10)), (1, .int (nI a)), (2, .int (nI b)), (3, .int x), (4, .ref aq), (5, .ref af), (6, .ref ad), (7, .ref aw), (8, .ref al), (9, .ref ar)]) hx hb dL_due_186 hl (by decide) rfl (fun ls hl => ?_)
  refine lv_iload_n hx hb dL_due_188 rfl (lv_at hl 1 rfl) ?_
  refine lv_bipush (v := nI 6) hx hb dL_due_189 (by decide) ?_
  refine rn_icmp_ne (a := 10) (b := 6) (tgt := 222) hx hb (by omega) (by omega) dL_due_191 (by decide) (fun c_4 => ?_) (fun c_4 => absurd c_4 (by omega))
  refine lv_iload_n hx hb dL_due_222 rfl (lv_at hl 1 rfl) ?_
  refine lv_bipush (v := nI 8) hx hb dL_due_223 (by decide) ?_
  refine rn_icmp_ne (a := 10) (b := 8) (tgt := 289) hx hb (by omega) (by omega) dL_due_225 (by decide) (fun c_5 => ?_) (fun c_5 => absurd c_5 (by omega))
  refine lv_iload_n hx hb dL_due_289 rfl (lv_at hl 1 rfl) ?_
  refine lv_bipush (v := nI 9) hx hb dL_due_290 (by decide) ?_
  refine rn_icmp_ne (a := 10) (b := 9) (tgt := 366) hx hb (by omega) (by omega) dL_due_292 (by decide) (fun c_6 => ?_) (fun c_6 => absurd c_6 (by omega))
  refine lv_iload_n hx hb dL_due_366 rfl (lv_at hl 1 rfl) ?_
  refine lv_bipush (v := nI 10) hx hb dL_due_367 (by decide) ?_
  refine rn_icmp_ne (a := 10) (b := 10) (tgt := 379) hx hb (by omega) (by omega) dL_due_369 (by decide) (fun c_7 => absurd c_7 (by omega)) (fun c_7 => ?_)
  refine lv_bipush (v := nI 10) hx hb dL_due_372 (by decide) ?_
  refine lv_iload_n hx hb dL_due_374 rfl (lv_at hl 3 rfl) ?_
  refine rn_add (a := 10) (b := b) hx hb dL_due_375 ?_
  refine lv_goto (tgt := 397) hx hb dL_due_376 (by decide) ?_
  refine lv_istore (lv' := [(11, .int (nI (10 + b))), (10, .int (nI 0)), (0, .int (nI 10)), (1, .int (nI a)), (2, .int (nI b)), (3, .int x), (4, .ref aq), (5, .ref af), (6, .ref ad), (7, .ref aw), (8, .ref al), (9, .ref ar)]) hx hb dL_due_397 hl (by decide) rfl (fun ls hl => ?_)
  refine lv_aload hx hb dL_due_399 (lv_at hl 6 rfl) ?_
  refine lv_iload hx hb dL_due_401 (lv_at hl 0 rfl) ?_
  refine rn_iald (i := 10 + b) hx hb hK hP 0 0 rfl rfl (by omega) (by omega) dL_due_403 ?_
  refine lv_istore (lv' := [(12, .int (vq (10 + b))), (11, .int (nI (10 + b))), (10, .int (nI 0)), (0, .int (nI 10)), (1, .int (nI a)), (2, .int (nI b)), (3, .int x), (4, .ref aq), (5, .ref af), (6, .ref ad), (7, .ref aw), (8, .ref al), (9, .ref ar)]) hx hb dL_due_404 hl (by decide) rfl (fun ls hl => ?_)
  refine lv_aload hx hb dL_due_406 (lv_at hl 7 rfl) ?_
  refine lv_iload hx hb dL_due_408 (lv_at hl 1 rfl) ?_
  refine lv_iload_n hx hb dL_due_410 rfl (lv_at hl 3 rfl) ?_
  refine lv_bipush (v := nI 10) hx hb dL_due_411 (by decide) ?_
  refine rn_icmp_ne (a := 10) (b := 10) (tgt := 428) hx hb (by omega) (by omega) dL_due_413 (by decide) (fun c_8 => absurd c_8 (by omega)) (fun c_8 => ?_)
  refine lv_iload_n hx hb dL_due_416 rfl (lv_at hl 6 rfl) ?_
  refine lv_bipush (v := nI 41) hx hb dL_due_417 (by decide) ?_
  refine rwS2 (rest := [.int (nI (10 + b)), .ref aq]) S (c_L_low l E x 41 (by omega) (by omega)) cd_L_low bw_140 ⟨Nat.le_of_ble_eq_true rfl, Nat.le_of_ble_eq_true rfl⟩ ⟨Nat.zero_le _, Nat.zero_le _⟩ hP (hDa.to rfl) hE hA hS [] rfl rfl [] rfl rfl (Nat.le_of_ble_eq_true rfl) hl.1 dL_due_419 (fun H locs hP _ hS => ?_)
  have hP : va_P E.1 vwCl [(aq, .inl (E.2.1, 13, .inl vq)), (af, .inl (E.2.1, 21, .inl vf)), (ad, .inl (E.2.1, 63, .inl vd)), (aw, .inl (E.2.1, 63, .inl vw)), (al, .inl (E.2.1, 63, .inl vl)), (ar, .inl (E.2.1, 63, .inl vr))] H := hP
  refine lv_bipush (v := nI 20) hx hb dL_due_422 (by decide) ?_
  refine lv_isub hx hb dL_due_424 ?_
  refine lv_goto (tgt := 445) hx hb dL_due_425 (by decide) ?_
  refine rn_iast (i := 10 + b) hx hb hK hP (hDa.to rfl) hS 0 0 rfl rfl (by omega) (by omega) dL_due_445 (fun H locs hP _ hS => ?_)
  have hP : va_P E.1 vwCl [(aq, .inl (E.2.1, 13, .inl (upd vq (10 + b) (nI (lowN x 41) - (nI 20))))), (af, .inl (E.2.1, 21, .inl vf)), (ad, .inl (E.2.1, 63, .inl vd)), (aw, .inl (E.2.1, 63, .inl vw)), (al, .inl (E.2.1, 63, .inl vl)), (ar, .inl (E.2.1, 63, .inl vr))] H := hP
  refine lv_iload_n hx hb dL_due_446 rfl (lv_at hl 3 rfl) ?_
  refine lv_bipush (v := nI 10) hx hb dL_due_447 (by decide) ?_
  refine rn_icmp_ne (a := 10) (b := 10) (tgt := 460) hx hb (by omega) (by omega) dL_due_449 (by decide) (fun c_9 => absurd c_9 (by omega)) (fun c_9 => ?_)
  refine lv_iload hx hb dL_due_452 (lv_at hl 0 rfl) ?_
  refine lv_bipush (v := nI 20) hx hb dL_due_454 (by decide) ?_
  refine lv_iadd hx hb dL_due_456 ?_
  refine lv_goto (tgt := 462) hx hb dL_due_457 (by decide) ?_
  exact hret _ _ _ _ _ _ (by rw [u10V]) (by rw [show u10Q vq vf vd vw vl vr n a b x = upd vq (10 + b) (nI (lowN x 41) - (nI 20)) from by rw [u10Q], show u10F vq vf vd vw vl vr n a b x = vf from by rw [u10F], show u10D vq vf vd vw vl vr n a b x = vd from by rw [u10D], show u10W vq vf vd vw vl vr n a b x = vw from by rw [u10W], show u10L vq vf vd vw vl vr n a b x = vl from by rw [u10L], show u10R vq vf vd vw vl vr n a b x = vr from by rw [u10R]]) rfl hP hS dL_due_462

def u11V (vq : Nat → Int32) (vf : Nat → Int32) (vd : Nat → Int32) (vw : Nat → Int32) (vl : Nat → Int32) (vr : Nat → Int32) (n : Nat) (a : Nat) (b : Nat) (x : Int32) : Int32 := vq (7 + b)
def u11Q (vq : Nat → Int32) (vf : Nat → Int32) (vd : Nat → Int32) (vw : Nat → Int32) (vl : Nat → Int32) (vr : Nat → Int32) (n : Nat) (a : Nat) (b : Nat) (x : Int32) : Nat → Int32 := upd vq (7 + b) (nI 0)
def u11F (vq : Nat → Int32) (vf : Nat → Int32) (vd : Nat → Int32) (vw : Nat → Int32) (vl : Nat → Int32) (vr : Nat → Int32) (n : Nat) (a : Nat) (b : Nat) (x : Int32) : Nat → Int32 := vf
def u11D (vq : Nat → Int32) (vf : Nat → Int32) (vd : Nat → Int32) (vw : Nat → Int32) (vl : Nat → Int32) (vr : Nat → Int32) (n : Nat) (a : Nat) (b : Nat) (x : Int32) : Nat → Int32 := vd
def u11W (vq : Nat → Int32) (vf : Nat → Int32) (vd : Nat → Int32) (vw : Nat → Int32) (vl : Nat → Int32) (vr : Nat → Int32) (n : Nat) (a : Nat) (b : Nat) (x : Int32) : Nat → Int32 := vw
def u11L (vq : Nat → Int32) (vf : Nat → Int32) (vd : Nat → Int32) (vw : Nat → Int32) (vl : Nat → Int32) (vr : Nat → Int32) (n : Nat) (a : Nat) (b : Nat) (x : Int32) : Nat → Int32 := vl
def u11R (vq : Nat → Int32) (vf : Nat → Int32) (vd : Nat → Int32) (vw : Nat → Int32) (vl : Nat → Int32) (vr : Nat → Int32) (n : Nat) (a : Nat) (b : Nat) (x : Int32) : Nat → Int32 := vr
set_option maxHeartbeats 4000000 in
set_option maxRecDepth 100000 in
theorem c_L_due_11 (l : Launch) (E : EV) (a : Nat) (b : Nat) (x : Int32) (aq : Nat) (af : Nat) (ad : Nat) (aw : Nat) (al : Nat) (ar : Nat) (vq : Nat → Int32) (vf : Nat → Int32) (vd : Nat → Int32) (vw : Nat → Int32) (vl : Nat → Int32) (vr : Nat → Int32) (n : Nat) (hf : vq 4 = nI n) (hn : n ≤ 20) (hb3 : b < 3) : rcI l E yL_due cL_due 13 .int 4 [.int (nI 11), .int (nI a), .int (nI b), .int x, .ref aq, .ref af, .ref ad, .ref aw, .ref al, .ref ar] [(aq, .inl (E.2.1, 13, .inl vq)), (af, .inl (E.2.1, 21, .inl vf)), (ad, .inl (E.2.1, 63, .inl vd)), (aw, .inl (E.2.1, 63, .inl vw)), (al, .inl (E.2.1, 63, .inl vl)), (ar, .inl (E.2.1, 63, .inl vr))] (u11V vq vf vd vw vl vr n a b x) [(aq, .inl (E.2.1, 13, .inl (u11Q vq vf vd vw vl vr n a b x))), (af, .inl (E.2.1, 21, .inl (u11F vq vf vd vw vl vr n a b x))), (ad, .inl (E.2.1, 63, .inl (u11D vq vf vd vw vl vr n a b x))), (aw, .inl (E.2.1, 63, .inl (u11W vq vf vd vw vl vr n a b x))), (al, .inl (E.2.1, 63, .inl (u11L vq vf vd vw vl vr n a b x))), (ar, .inl (E.2.1, 63, .inl (u11R vq vf vd vw vl vr n a b x)))] := by
  refine rcI_of (by decide) (Nat.le_of_ble_eq_true rfl) ?_
  intro pg e s m below meth c Q A ls S hP hD0 hE hA hl hret
  have hx := S.1
  have hb := S.2.1
  have hown := S.2.2.2.1
  have hts := S.2.2.2.2
  have hK := hE.1
  have hS : va_S A s.heap s.heap [] := va_S.rf
  have hDa : va_Da A [aq, af, ad, aw, al, ar] := ⟨_, hD0, rfl⟩
  have hl : lv_has ls 13 [(0, .int (nI 11)), (1, .int (nI a)), (2, .int (nI b)), (3, .int x), (4, .ref aq), (5, .ref af), (6, .ref ad), (7, .ref aw), (8, .ref al), (9, .ref ar)] := hl
  refine lv_iload_n hx hb dL_due_0 rfl (lv_at hl 0 rfl) ?_
  refine lv_if_ne (tgt := 135) hx hb dL_due_1 (by decide) (fun _ => ?_) (fun c9 => by first | exact absurd (by decide) c9 | exact absurd c9 (by decide))
  refine lv_iload_n hx hb dL_due_135 rfl (lv_at hl 0 rfl) ?_
  refine lv_bipush (v := nI 6) hx hb dL_due_136 (by decide) ?_
  refine rn_icmp_lt (a := 11) (b := 6) (tgt := 153) hx hb (by omega) (by omega) dL_due_138 (by decide) (fun c_1 => absurd c_1 (by omega)) (fun c_1 => ?_)
  refine lv_iload_n hx hb dL_due_141 rfl (lv_at hl 0 rfl) ?_
  refine lv_bipush (v := nI 7) hx hb dL_due_142 (by decide) ?_
  refine rn_icmp_eq (a := 11) (b := 7) (tgt := 153) hx hb (by omega) (by omega) dL_due_144 (by decide) (fun c_2 => absurd c_2 (by omega)) (fun c_2 => ?_)
  refine lv_iload_n hx hb dL_due_147 rfl (lv_at hl 0 rfl) ?_
  refine lv_bipush (v := nI 12) hx hb dL_due_148 (by decide) ?_
  refine rn_icmp_ne (a := 11) (b := 12) (tgt := 185) hx hb (by omega) (by omega) dL_due_150 (by decide) (fun c_3 => ?_) (fun c_3 => absurd c_3 (by omega))
  refine lv_iconst (v := nI 0) hx hb dL_due_185 (by decide) ?_
  refine lv_istore (lv' := [(10, .int (nI 0)), (0, .int (nI 11)), (1, .int (nI a)), (2, .int (nI b)), (3, .int x), (4, .ref aq), (5, .ref af), (6, .ref ad), (7, .ref aw), (8, .ref al), (9, .ref ar)]) hx hb dL_due_186 hl (by decide) rfl (fun ls hl => ?_)
  refine lv_iload_n hx hb dL_due_188 rfl (lv_at hl 1 rfl) ?_
  refine lv_bipush (v := nI 6) hx hb dL_due_189 (by decide) ?_
  refine rn_icmp_ne (a := 11) (b := 6) (tgt := 222) hx hb (by omega) (by omega) dL_due_191 (by decide) (fun c_4 => ?_) (fun c_4 => absurd c_4 (by omega))
  refine lv_iload_n hx hb dL_due_222 rfl (lv_at hl 1 rfl) ?_
  refine lv_bipush (v := nI 8) hx hb dL_due_223 (by decide) ?_
  refine rn_icmp_ne (a := 11) (b := 8) (tgt := 289) hx hb (by omega) (by omega) dL_due_225 (by decide) (fun c_5 => ?_) (fun c_5 => absurd c_5 (by omega))
  refine lv_iload_n hx hb dL_due_289 rfl (lv_at hl 1 rfl) ?_
  refine lv_bipush (v := nI 9) hx hb dL_due_290 (by decide) ?_
  refine rn_icmp_ne (a := 11) (b := 9) (tgt := 366) hx hb (by omega) (by omega) dL_due_292 (by decide) (fun c_6 => ?_) (fun c_6 => absurd c_6 (by omega))
  refine lv_iload_n hx hb dL_due_366 rfl (lv_at hl 1 rfl) ?_
  refine lv_bipush (v := nI 10) hx hb dL_due_367 (by decide) ?_
  refine rn_icmp_ne (a := 11) (b := 10) (tgt := 379) hx hb (by omega) (by omega) dL_due_369 (by decide) (fun c_7 => ?_) (fun c_7 => absurd c_7 (by omega))
  refine lv_iload_n hx hb dL_due_379 rfl (lv_at hl 1 rfl) ?_
  refine lv_bipush (v := nI 11) hx hb dL_due_380 (by decide) ?_
  refine rn_icmp_ne (a := 11) (b := 11) (tgt := 392) hx hb (by omega) (by omega) dL_due_382 (by decide) (fun c_8 => absurd c_8 (by omega)) (fun c_8 => ?_)
  refine lv_bipush (v := nI 7) hx hb dL_due_385 (by decide) ?_
  refine lv_iload_n hx hb dL_due_387 rfl (lv_at hl 3 rfl) ?_
  refine rn_add (a := 7) (b := b) hx hb dL_due_388 ?_
  refine lv_goto (tgt := 397) hx hb dL_due_389 (by decide) ?_
  refine lv_istore (lv' := [(11, .int (nI (7 + b))), (10, .int (nI 0)), (0, .int (nI 11)), (1, .int (nI a)), (2, .int (nI b)), (3, .int x), (4, .ref aq), (5, .ref af), (6, .ref ad), (7, .ref aw), (8, .ref al), (9, .ref ar)]) hx hb dL_due_397 hl (by decide) rfl (fun ls hl => ?_)
  refine lv_aload hx hb dL_due_399 (lv_at hl 6 rfl) ?_
  refine lv_iload hx hb dL_due_401 (lv_at hl 0 rfl) ?_
  refine rn_iald (i := 7 + b) hx hb hK hP 0 0 rfl rfl (by omega) (by omega) dL_due_403 ?_
  refine lv_istore (lv' := [(12, .int (vq (7 + b))), (11, .int (nI (7 + b))), (10, .int (nI 0)), (0, .int (nI 11)), (1, .int (nI a)), (2, .int (nI b)), (3, .int x), (4, .ref aq), (5, .ref af), (6, .ref ad), (7, .ref aw), (8, .ref al), (9, .ref ar)]) hx hb dL_due_404 hl (by decide) rfl (fun ls hl => ?_)
  refine lv_aload hx hb dL_due_406 (lv_at hl 7 rfl) ?_
  refine lv_iload hx hb dL_due_408 (lv_at hl 1 rfl) ?_
  refine lv_iload_n hx hb dL_due_410 rfl (lv_at hl 3 rfl) ?_
  refine lv_bipush (v := nI 10) hx hb dL_due_411 (by decide) ?_
  refine rn_icmp_ne (a := 11) (b := 10) (tgt := 428) hx hb (by omega) (by omega) dL_due_413 (by decide) (fun c_9 => ?_) (fun c_9 => absurd c_9 (by omega))
  refine lv_iload_n hx hb dL_due_428 rfl (lv_at hl 3 rfl) ?_
  refine lv_bipush (v := nI 11) hx hb dL_due_429 (by decide) ?_
  refine rn_icmp_ne (a := 11) (b := 11) (tgt := 438) hx hb (by omega) (by omega) dL_due_431 (by decide) (fun c_10 => absurd c_10 (by omega)) (fun c_10 => ?_)
  refine lv_iconst (v := nI 0) hx hb dL_due_434 (by decide) ?_
  refine lv_goto (tgt := 445) hx hb dL_due_435 (by decide) ?_
  refine rn_iast (i := 7 + b) hx hb hK hP (hDa.to rfl) hS 0 0 rfl rfl (by omega) (by omega) dL_due_445 (fun H locs hP _ hS => ?_)
  have hP : va_P E.1 vwCl [(aq, .inl (E.2.1, 13, .inl (upd vq (7 + b) (nI 0)))), (af, .inl (E.2.1, 21, .inl vf)), (ad, .inl (E.2.1, 63, .inl vd)), (aw, .inl (E.2.1, 63, .inl vw)), (al, .inl (E.2.1, 63, .inl vl)), (ar, .inl (E.2.1, 63, .inl vr))] H := hP
  refine lv_iload_n hx hb dL_due_446 rfl (lv_at hl 3 rfl) ?_
  refine lv_bipush (v := nI 10) hx hb dL_due_447 (by decide) ?_
  refine rn_icmp_ne (a := 11) (b := 10) (tgt := 460) hx hb (by omega) (by omega) dL_due_449 (by decide) (fun c_11 => ?_) (fun c_11 => absurd c_11 (by omega))
  refine lv_iload hx hb dL_due_460 (lv_at hl 0 rfl) ?_
  exact hret _ _ _ _ _ _ (by rw [u11V]) (by rw [show u11Q vq vf vd vw vl vr n a b x = upd vq (7 + b) (nI 0) from by rw [u11Q], show u11F vq vf vd vw vl vr n a b x = vf from by rw [u11F], show u11D vq vf vd vw vl vr n a b x = vd from by rw [u11D], show u11W vq vf vd vw vl vr n a b x = vw from by rw [u11W], show u11L vq vf vd vw vl vr n a b x = vl from by rw [u11L], show u11R vq vf vd vw vl vr n a b x = vr from by rw [u11R]]) rfl hP hS dL_due_462

def u13V (vq : Nat → Int32) (vf : Nat → Int32) (vd : Nat → Int32) (vw : Nat → Int32) (vl : Nat → Int32) (vr : Nat → Int32) (n : Nat) (a : Nat) (b : Nat) (x : Int32) : Int32 := vq (lowN (nI a) 4)
def u13Q (vq : Nat → Int32) (vf : Nat → Int32) (vd : Nat → Int32) (vw : Nat → Int32) (vl : Nat → Int32) (vr : Nat → Int32) (n : Nat) (a : Nat) (b : Nat) (x : Int32) : Nat → Int32 := upd vq (lowN (nI a) 4) (nI (1 + lowN x 5))
def u13F (vq : Nat → Int32) (vf : Nat → Int32) (vd : Nat → Int32) (vw : Nat → Int32) (vl : Nat → Int32) (vr : Nat → Int32) (n : Nat) (a : Nat) (b : Nat) (x : Int32) : Nat → Int32 := vf
def u13D (vq : Nat → Int32) (vf : Nat → Int32) (vd : Nat → Int32) (vw : Nat → Int32) (vl : Nat → Int32) (vr : Nat → Int32) (n : Nat) (a : Nat) (b : Nat) (x : Int32) : Nat → Int32 := vd
def u13W (vq : Nat → Int32) (vf : Nat → Int32) (vd : Nat → Int32) (vw : Nat → Int32) (vl : Nat → Int32) (vr : Nat → Int32) (n : Nat) (a : Nat) (b : Nat) (x : Int32) : Nat → Int32 := vw
def u13L (vq : Nat → Int32) (vf : Nat → Int32) (vd : Nat → Int32) (vw : Nat → Int32) (vl : Nat → Int32) (vr : Nat → Int32) (n : Nat) (a : Nat) (b : Nat) (x : Int32) : Nat → Int32 := vl
def u13R (vq : Nat → Int32) (vf : Nat → Int32) (vd : Nat → Int32) (vw : Nat → Int32) (vl : Nat → Int32) (vr : Nat → Int32) (n : Nat) (a : Nat) (b : Nat) (x : Int32) : Nat → Int32 := vr
set_option maxHeartbeats 4000000 in
set_option maxRecDepth 100000 in
theorem c_L_due_13 (l : Launch) (E : EV) (a : Nat) (b : Nat) (x : Int32) (aq : Nat) (af : Nat) (ad : Nat) (aw : Nat) (al : Nat) (ar : Nat) (vq : Nat → Int32) (vf : Nat → Int32) (vd : Nat → Int32) (vw : Nat → Int32) (vl : Nat → Int32) (vr : Nat → Int32) (n : Nat) (hf : vq 4 = nI n) (hn : n ≤ 20) : rcI l E yL_due cL_due 13 .int 4 [.int (nI 13), .int (nI a), .int (nI b), .int x, .ref aq, .ref af, .ref ad, .ref aw, .ref al, .ref ar] [(aq, .inl (E.2.1, 13, .inl vq)), (af, .inl (E.2.1, 21, .inl vf)), (ad, .inl (E.2.1, 63, .inl vd)), (aw, .inl (E.2.1, 63, .inl vw)), (al, .inl (E.2.1, 63, .inl vl)), (ar, .inl (E.2.1, 63, .inl vr))] (u13V vq vf vd vw vl vr n a b x) [(aq, .inl (E.2.1, 13, .inl (u13Q vq vf vd vw vl vr n a b x))), (af, .inl (E.2.1, 21, .inl (u13F vq vf vd vw vl vr n a b x))), (ad, .inl (E.2.1, 63, .inl (u13D vq vf vd vw vl vr n a b x))), (aw, .inl (E.2.1, 63, .inl (u13W vq vf vd vw vl vr n a b x))), (al, .inl (E.2.1, 63, .inl (u13L vq vf vd vw vl vr n a b x))), (ar, .inl (E.2.1, 63, .inl (u13R vq vf vd vw vl vr n a b x)))] := by
  refine rcI_of (by decide) (Nat.le_of_ble_eq_true rfl) ?_
  intro pg e s m below meth c Q A ls S hP hD0 hE hA hl hret
  have hx := S.1
  have hb := S.2.1
  have hown := S.2.2.2.1
  have hts := S.2.2.2.2
  have hK := hE.1
  have hS : va_S A s.heap s.heap [] := va_S.rf
  have hDa : va_Da A [aq, af, ad, aw, al, ar] := ⟨_, hD0, rfl⟩
  have hl : lv_has ls 13 [(0, .int (nI 13)), (1, .int (nI a)), (2, .int (nI b)), (3, .int x), (4, .ref aq), (5, .ref af), (6, .ref ad), (7, .ref aw), (8, .ref al), (9, .ref ar)] := hl
  have hpl := lowN_lt (nI a) (m := 4) (by omega)
  refine lv_iload_n hx hb dL_due_0 rfl (lv_at hl 0 rfl) ?_
  refine lv_if_ne (tgt := 135) hx hb dL_due_1 (by decide) (fun _ => ?_) (fun c9 => by first | exact absurd (by decide) c9 | exact absurd c9 (by decide))
  refine lv_iload_n hx hb dL_due_135 rfl (lv_at hl 0 rfl) ?_
  refine lv_bipush (v := nI 6) hx hb dL_due_136 (by decide) ?_
  refine rn_icmp_lt (a := 13) (b := 6) (tgt := 153) hx hb (by omega) (by omega) dL_due_138 (by decide) (fun c_1 => absurd c_1 (by omega)) (fun c_1 => ?_)
  refine lv_iload_n hx hb dL_due_141 rfl (lv_at hl 0 rfl) ?_
  refine lv_bipush (v := nI 7) hx hb dL_due_142 (by decide) ?_
  refine rn_icmp_eq (a := 13) (b := 7) (tgt := 153) hx hb (by omega) (by omega) dL_due_144 (by decide) (fun c_2 => absurd c_2 (by omega)) (fun c_2 => ?_)
  refine lv_iload_n hx hb dL_due_147 rfl (lv_at hl 0 rfl) ?_
  refine lv_bipush (v := nI 12) hx hb dL_due_148 (by decide) ?_
  refine rn_icmp_ne (a := 13) (b := 12) (tgt := 185) hx hb (by omega) (by omega) dL_due_150 (by decide) (fun c_3 => ?_) (fun c_3 => absurd c_3 (by omega))
  refine lv_iconst (v := nI 0) hx hb dL_due_185 (by decide) ?_
  refine lv_istore (lv' := [(10, .int (nI 0)), (0, .int (nI 13)), (1, .int (nI a)), (2, .int (nI b)), (3, .int x), (4, .ref aq), (5, .ref af), (6, .ref ad), (7, .ref aw), (8, .ref al), (9, .ref ar)]) hx hb dL_due_186 hl (by decide) rfl (fun ls hl => ?_)
  refine lv_iload_n hx hb dL_due_188 rfl (lv_at hl 1 rfl) ?_
  refine lv_bipush (v := nI 6) hx hb dL_due_189 (by decide) ?_
  refine rn_icmp_ne (a := 13) (b := 6) (tgt := 222) hx hb (by omega) (by omega) dL_due_191 (by decide) (fun c_4 => ?_) (fun c_4 => absurd c_4 (by omega))
  refine lv_iload_n hx hb dL_due_222 rfl (lv_at hl 1 rfl) ?_
  refine lv_bipush (v := nI 8) hx hb dL_due_223 (by decide) ?_
  refine rn_icmp_ne (a := 13) (b := 8) (tgt := 289) hx hb (by omega) (by omega) dL_due_225 (by decide) (fun c_5 => ?_) (fun c_5 => absurd c_5 (by omega))
  refine lv_iload_n hx hb dL_due_289 rfl (lv_at hl 1 rfl) ?_
  refine lv_bipush (v := nI 9) hx hb dL_due_290 (by decide) ?_
  refine rn_icmp_ne (a := 13) (b := 9) (tgt := 366) hx hb (by omega) (by omega) dL_due_292 (by decide) (fun c_6 => ?_) (fun c_6 => absurd c_6 (by omega))
  refine lv_iload_n hx hb dL_due_366 rfl (lv_at hl 1 rfl) ?_
  refine lv_bipush (v := nI 10) hx hb dL_due_367 (by decide) ?_
  refine rn_icmp_ne (a := 13) (b := 10) (tgt := 379) hx hb (by omega) (by omega) dL_due_369 (by decide) (fun c_7 => ?_) (fun c_7 => absurd c_7 (by omega))
  refine lv_iload_n hx hb dL_due_379 rfl (lv_at hl 1 rfl) ?_
  refine lv_bipush (v := nI 11) hx hb dL_due_380 (by decide) ?_
  refine rn_icmp_ne (a := 13) (b := 11) (tgt := 392) hx hb (by omega) (by omega) dL_due_382 (by decide) (fun c_8 => ?_) (fun c_8 => absurd c_8 (by omega))
  refine lv_iload_n hx hb dL_due_392 rfl (lv_at hl 2 rfl) ?_
  refine lv_iconst (v := nI 4) hx hb dL_due_393 (by decide) ?_
  refine rwS2 (rest := []) S (c_L_low l E (nI a) 4 (by omega) (by omega)) cd_L_low bw_140 ⟨Nat.le_of_ble_eq_true rfl, Nat.le_of_ble_eq_true rfl⟩ ⟨Nat.zero_le _, Nat.zero_le _⟩ hP (hDa.to rfl) hE hA hS [] rfl rfl [] rfl rfl (Nat.le_of_ble_eq_true rfl) hl.1 dL_due_394 (fun H locs hP _ hS => ?_)
  have hP : va_P E.1 vwCl [(aq, .inl (E.2.1, 13, .inl vq)), (af, .inl (E.2.1, 21, .inl vf)), (ad, .inl (E.2.1, 63, .inl vd)), (aw, .inl (E.2.1, 63, .inl vw)), (al, .inl (E.2.1, 63, .inl vl)), (ar, .inl (E.2.1, 63, .inl vr))] H := hP
  refine lv_istore (lv' := [(11, .int (nI (lowN (nI a) 4))), (10, .int (nI 0)), (0, .int (nI 13)), (1, .int (nI a)), (2, .int (nI b)), (3, .int x), (4, .ref aq), (5, .ref af), (6, .ref ad), (7, .ref aw), (8, .ref al), (9, .ref ar)]) hx hb dL_due_397 hl (by decide) rfl (fun ls hl => ?_)
  refine lv_aload hx hb dL_due_399 (lv_at hl 6 rfl) ?_
  refine lv_iload hx hb dL_due_401 (lv_at hl 0 rfl) ?_
  refine rn_iald (i := lowN (nI a) 4) hx hb hK hP 0 0 rfl rfl (by omega) (by omega) dL_due_403 ?_
  refine lv_istore (lv' := [(12, .int (vq (lowN (nI a) 4))), (11, .int (nI (lowN (nI a) 4))), (10, .int (nI 0)), (0, .int (nI 13)), (1, .int (nI a)), (2, .int (nI b)), (3, .int x), (4, .ref aq), (5, .ref af), (6, .ref ad), (7, .ref aw), (8, .ref al), (9, .ref ar)]) hx hb dL_due_404 hl (by decide) rfl (fun ls hl => ?_)
  refine lv_aload hx hb dL_due_406 (lv_at hl 7 rfl) ?_
  refine lv_iload hx hb dL_due_408 (lv_at hl 1 rfl) ?_
  refine lv_iload_n hx hb dL_due_410 rfl (lv_at hl 3 rfl) ?_
  refine lv_bipush (v := nI 10) hx hb dL_due_411 (by decide) ?_
  refine rn_icmp_ne (a := 13) (b := 10) (tgt := 428) hx hb (by omega) (by omega) dL_due_413 (by decide) (fun c_9 => ?_) (fun c_9 => absurd c_9 (by omega))
  refine lv_iload_n hx hb dL_due_428 rfl (lv_at hl 3 rfl) ?_
  refine lv_bipush (v := nI 11) hx hb dL_due_429 (by decide) ?_
  refine rn_icmp_ne (a := 13) (b := 11) (tgt := 438) hx hb (by omega) (by omega) dL_due_431 (by decide) (fun c_10 => ?_) (fun c_10 => absurd c_10 (by omega))
  refine lv_iconst (v := nI 1) hx hb dL_due_438 (by decide) ?_
  refine lv_iload_n hx hb dL_due_439 rfl (lv_at hl 6 rfl) ?_
  refine lv_iconst (v := nI 5) hx hb dL_due_440 (by decide) ?_
  refine rwS2 (rest := [.int (nI 1), .int (nI (lowN (nI a) 4)), .ref aq]) S (c_L_low l E x 5 (by omega) (by omega)) cd_L_low bw_140 ⟨Nat.le_of_ble_eq_true rfl, Nat.le_of_ble_eq_true rfl⟩ ⟨Nat.zero_le _, Nat.zero_le _⟩ hP (hDa.to rfl) hE hA hS [] rfl rfl [] rfl rfl (Nat.le_of_ble_eq_true rfl) hl.1 dL_due_441 (fun H locs hP _ hS => ?_)
  have hP : va_P E.1 vwCl [(aq, .inl (E.2.1, 13, .inl vq)), (af, .inl (E.2.1, 21, .inl vf)), (ad, .inl (E.2.1, 63, .inl vd)), (aw, .inl (E.2.1, 63, .inl vw)), (al, .inl (E.2.1, 63, .inl vl)), (ar, .inl (E.2.1, 63, .inl vr))] H := hP
  refine rn_add (a := 1) (b := lowN x 5) hx hb dL_due_444 ?_
  refine rn_iast (i := lowN (nI a) 4) hx hb hK hP (hDa.to rfl) hS 0 0 rfl rfl (by omega) (by omega) dL_due_445 (fun H locs hP _ hS => ?_)
  have hP : va_P E.1 vwCl [(aq, .inl (E.2.1, 13, .inl (upd vq (lowN (nI a) 4) (nI (1 + lowN x 5))))), (af, .inl (E.2.1, 21, .inl vf)), (ad, .inl (E.2.1, 63, .inl vd)), (aw, .inl (E.2.1, 63, .inl vw)), (al, .inl (E.2.1, 63, .inl vl)), (ar, .inl (E.2.1, 63, .inl vr))] H := hP
  refine lv_iload_n hx hb dL_due_446 rfl (lv_at hl 3 rfl) ?_
  refine lv_bipush (v := nI 10) hx hb dL_due_447 (by decide) ?_
  refine rn_icmp_ne (a := 13) (b := 10) (tgt := 460) hx hb (by omega) (by omega) dL_due_449 (by decide) (fun c_11 => ?_) (fun c_11 => absurd c_11 (by omega))
  refine lv_iload hx hb dL_due_460 (lv_at hl 0 rfl) ?_
  exact hret _ _ _ _ _ _ (by rw [u13V]) (by rw [show u13Q vq vf vd vw vl vr n a b x = upd vq (lowN (nI a) 4) (nI (1 + lowN x 5)) from by rw [u13Q], show u13F vq vf vd vw vl vr n a b x = vf from by rw [u13F], show u13D vq vf vd vw vl vr n a b x = vd from by rw [u13D], show u13W vq vf vd vw vl vr n a b x = vw from by rw [u13W], show u13L vq vf vd vw vl vr n a b x = vl from by rw [u13L], show u13R vq vf vd vw vl vr n a b x = vr from by rw [u13R]]) rfl hP hS dL_due_462

