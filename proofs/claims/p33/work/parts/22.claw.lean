def s7V (vq : Nat → Int32) (vf : Nat → Int32) (vd : Nat → Int32) (vw : Nat → Int32) (vl : Nat → Int32) (vr : Nat → Int32) (n : Nat) (a : Nat) (b : Nat) (x : Int32) : Int32 := if vr (3 * a) = 0 then (-5) else lCv vq vl vr a
def s7Q (vq : Nat → Int32) (vf : Nat → Int32) (vd : Nat → Int32) (vw : Nat → Int32) (vl : Nat → Int32) (vr : Nat → Int32) (n : Nat) (a : Nat) (b : Nat) (x : Int32) : Nat → Int32 := if vr (3 * a) = 0 then vq else lCq vq vl vr a
def s7F (vq : Nat → Int32) (vf : Nat → Int32) (vd : Nat → Int32) (vw : Nat → Int32) (vl : Nat → Int32) (vr : Nat → Int32) (n : Nat) (a : Nat) (b : Nat) (x : Int32) : Nat → Int32 := vf
def s7D (vq : Nat → Int32) (vf : Nat → Int32) (vd : Nat → Int32) (vw : Nat → Int32) (vl : Nat → Int32) (vr : Nat → Int32) (n : Nat) (a : Nat) (b : Nat) (x : Int32) : Nat → Int32 := vd
def s7W (vq : Nat → Int32) (vf : Nat → Int32) (vd : Nat → Int32) (vw : Nat → Int32) (vl : Nat → Int32) (vr : Nat → Int32) (n : Nat) (a : Nat) (b : Nat) (x : Int32) : Nat → Int32 := vw
def s7L (vq : Nat → Int32) (vf : Nat → Int32) (vd : Nat → Int32) (vw : Nat → Int32) (vl : Nat → Int32) (vr : Nat → Int32) (n : Nat) (a : Nat) (b : Nat) (x : Int32) : Nat → Int32 := if vr (3 * a) = 0 then vl else lCl vq vl vr a
def s7R (vq : Nat → Int32) (vf : Nat → Int32) (vd : Nat → Int32) (vw : Nat → Int32) (vl : Nat → Int32) (vr : Nat → Int32) (n : Nat) (a : Nat) (b : Nat) (x : Int32) : Nat → Int32 := if vr (3 * a) = 0 then vr else lCr vq vl vr a
set_option maxHeartbeats 4000000 in
set_option maxRecDepth 100000 in
theorem c_L_ofShot_7 (l : Launch) (E : EV) (a : Nat) (b : Nat) (x : Int32) (aq : Nat) (af : Nat) (ad : Nat) (aw : Nat) (al : Nat) (ar : Nat) (vq : Nat → Int32) (vf : Nat → Int32) (vd : Nat → Int32) (vw : Nat → Int32) (vl : Nat → Int32) (vr : Nat → Int32) (n : Nat) (hf : vq 4 = nI n) (hn : n ≤ 20) (ha : a < n) (hst : ¬ vq 0 = 0) : rcI l E yL_ofShot cL_ofShot 13 .int 3 [.int (nI 7), .int (nI a), .int (nI b), .int x, .ref aq, .ref af, .ref ad, .ref aw, .ref al, .ref ar] [(aq, .inl (E.2.1, 13, .inl vq)), (af, .inl (E.2.1, 21, .inl vf)), (ad, .inl (E.2.1, 63, .inl vd)), (aw, .inl (E.2.1, 63, .inl vw)), (al, .inl (E.2.1, 63, .inl vl)), (ar, .inl (E.2.1, 63, .inl vr))] (s7V vq vf vd vw vl vr n a b x) [(aq, .inl (E.2.1, 13, .inl (s7Q vq vf vd vw vl vr n a b x))), (af, .inl (E.2.1, 21, .inl (s7F vq vf vd vw vl vr n a b x))), (ad, .inl (E.2.1, 63, .inl (s7D vq vf vd vw vl vr n a b x))), (aw, .inl (E.2.1, 63, .inl (s7W vq vf vd vw vl vr n a b x))), (al, .inl (E.2.1, 63, .inl (s7L vq vf vd vw vl vr n a b x))), (ar, .inl (E.2.1, 63, .inl (s7R vq vf vd vw vl vr n a b x)))] := by
  refine rcI_of (by decide) (Nat.le_of_ble_eq_true rfl) ?_
  intro pg e s m below meth c Q A ls S hP hD0 hE hA hl hret
  have hx := S.1
  have hb := S.2.1
  have hown := S.2.2.2.1
  have hts := S.2.2.2.2
  have hK := hE.1
  have hS : va_S A s.heap s.heap [] := va_S.rf
  have hDa : va_Da A [aq, af, ad, aw, al, ar] := ⟨_, hD0, rfl⟩
  have hl : lv_has ls 13 [(0, .int (nI 7)), (1, .int (nI a)), (2, .int (nI b)), (3, .int x), (4, .ref aq), (5, .ref af), (6, .ref ad), (7, .ref aw), (8, .ref al), (9, .ref ar)] := hl
  refine lv_iload_n hx hb dL_ofShot_0 rfl (lv_at hl 0 rfl) ?_
  refine lv_iconst (v := nI 1) hx hb dL_ofShot_1 (by decide) ?_
  refine rn_icmp_ne (a := 7) (b := 1) (tgt := 16) hx hb (by omega) (by omega) dL_ofShot_2 (by decide) (fun c_1 => ?_) (fun c_1 => absurd c_1 (by omega))
  refine lv_iload_n hx hb dL_ofShot_16 rfl (lv_at hl 0 rfl) ?_
  refine lv_iconst (v := nI 2) hx hb dL_ofShot_17 (by decide) ?_
  refine rn_icmp_ne (a := 7) (b := 2) (tgt := 35) hx hb (by omega) (by omega) dL_ofShot_18 (by decide) (fun c_2 => ?_) (fun c_2 => absurd c_2 (by omega))
  refine lv_iconst (v := nI 0) hx hb dL_ofShot_35 (by decide) ?_
  refine lv_istore (lv' := [(10, .int (nI 0)), (0, .int (nI 7)), (1, .int (nI a)), (2, .int (nI b)), (3, .int x), (4, .ref aq), (5, .ref af), (6, .ref ad), (7, .ref aw), (8, .ref al), (9, .ref ar)]) hx hb dL_ofShot_36 hl (by decide) rfl (fun ls hl => ?_)
  refine lv_iload_n hx hb dL_ofShot_38 rfl (lv_at hl 1 rfl) ?_
  refine lv_iconst (v := nI 1) hx hb dL_ofShot_39 (by decide) ?_
  refine rn_icmp_ne (a := 7) (b := 1) (tgt := 60) hx hb (by omega) (by omega) dL_ofShot_40 (by decide) (fun c_3 => ?_) (fun c_3 => absurd c_3 (by omega))
  refine lv_iload_n hx hb dL_ofShot_60 rfl (lv_at hl 1 rfl) ?_
  refine lv_iconst (v := nI 2) hx hb dL_ofShot_61 (by decide) ?_
  refine rn_icmp_ne (a := 7) (b := 2) (tgt := 85) hx hb (by omega) (by omega) dL_ofShot_62 (by decide) (fun c_4 => ?_) (fun c_4 => absurd c_4 (by omega))
  refine lv_iload_n hx hb dL_ofShot_85 rfl (lv_at hl 1 rfl) ?_
  refine lv_iconst (v := nI 3) hx hb dL_ofShot_86 (by decide) ?_
  refine rn_icmp_ne (a := 7) (b := 3) (tgt := 185) hx hb (by omega) (by omega) dL_ofShot_87 (by decide) (fun c_5 => ?_) (fun c_5 => absurd c_5 (by omega))
  refine lv_iload_n hx hb dL_ofShot_185 rfl (lv_at hl 1 rfl) ?_
  refine lv_iconst (v := nI 4) hx hb dL_ofShot_186 (by decide) ?_
  refine rn_icmp_ne (a := 7) (b := 4) (tgt := 279) hx hb (by omega) (by omega) dL_ofShot_187 (by decide) (fun c_6 => ?_) (fun c_6 => absurd c_6 (by omega))
  refine lv_iload_n hx hb dL_ofShot_279 rfl (lv_at hl 1 rfl) ?_
  refine lv_iconst (v := nI 5) hx hb dL_ofShot_280 (by decide) ?_
  refine rn_icmp_ne (a := 7) (b := 5) (tgt := 437) hx hb (by omega) (by omega) dL_ofShot_281 (by decide) (fun c_7 => ?_) (fun c_7 => absurd c_7 (by omega))
  refine lv_iload_n hx hb dL_ofShot_437 rfl (lv_at hl 1 rfl) ?_
  refine lv_bipush (v := nI 7) hx hb dL_ofShot_438 (by decide) ?_
  refine rn_icmp_ne (a := 7) (b := 7) (tgt := 468) hx hb (by omega) (by omega) dL_ofShot_440 (by decide) (fun c_8 => absurd c_8 (by omega)) (fun c_8 => ?_)
  refine lv_aload hx hb dL_ofShot_443 (lv_at hl 10 rfl) ?_
  refine lv_iconst (v := nI 3) hx hb dL_ofShot_445 (by decide) ?_
  refine lv_iload_n hx hb dL_ofShot_446 rfl (lv_at hl 2 rfl) ?_
  refine rn_mul (a := 3) (b := a) hx hb dL_ofShot_447 ?_
  refine rn_iald (i := 3 * a) hx hb hK hP 5 0 rfl rfl (by omega) (by omega) dL_ofShot_448 ?_
  refine lv_if_ne (tgt := 457) hx hb dL_ofShot_449 (by decide) (fun c_9 => ?_) (fun c_9 => ?_)
  · refine lv_iload_n hx hb dL_ofShot_457 rfl (lv_at hl 2 rfl) ?_
    refine lv_aload hx hb dL_ofShot_458 (lv_at hl 5 rfl) ?_
    refine lv_aload hx hb dL_ofShot_460 (lv_at hl 9 rfl) ?_
    refine lv_aload hx hb dL_ofShot_462 (lv_at hl 10 rfl) ?_
    refine rwS4 (rest := []) S (c_L_corrects l E a aq al ar vq vl vr (by omega) hst) cd_L_corrects bw_395 ⟨Nat.le_of_ble_eq_true rfl, Nat.le_of_ble_eq_true rfl⟩ ⟨Nat.zero_le _, Nat.zero_le _⟩ hP (hDa.to rfl) hE hA hS [0, 4, 5] rfl rfl [aq, al, ar] rfl rfl (Nat.le_of_ble_eq_true rfl) hl.1 dL_ofShot_464 (fun H locs hP _ hS => ?_)
    have hP : va_P E.1 vwCl [(aq, .inl (E.2.1, 13, .inl (lCq vq vl vr a))), (af, .inl (E.2.1, 21, .inl vf)), (ad, .inl (E.2.1, 63, .inl vd)), (aw, .inl (E.2.1, 63, .inl vw)), (al, .inl (E.2.1, 63, .inl (lCl vq vl vr a))), (ar, .inl (E.2.1, 63, .inl (lCr vq vl vr a)))] H := hP
    exact hret _ _ _ _ _ _ (by rw [s7V, if_neg c_9]) (by rw [show s7Q vq vf vd vw vl vr n a b x = lCq vq vl vr a from by rw [s7Q, if_neg c_9], show s7F vq vf vd vw vl vr n a b x = vf from by rw [s7F], show s7D vq vf vd vw vl vr n a b x = vd from by rw [s7D], show s7W vq vf vd vw vl vr n a b x = vw from by rw [s7W], show s7L vq vf vd vw vl vr n a b x = lCl vq vl vr a from by rw [s7L, if_neg c_9], show s7R vq vf vd vw vl vr n a b x = lCr vq vl vr a from by rw [s7R, if_neg c_9]]) rfl hP hS dL_ofShot_467
  · refine lv_bipush (v := (-5)) hx hb dL_ofShot_452 (by decide) ?_
    refine lv_goto (tgt := 467) hx hb dL_ofShot_454 (by decide) ?_
    exact hret _ _ _ _ _ _ (by rw [s7V, if_pos c_9]) (by rw [show s7Q vq vf vd vw vl vr n a b x = vq from by rw [s7Q, if_pos c_9], show s7F vq vf vd vw vl vr n a b x = vf from by rw [s7F], show s7D vq vf vd vw vl vr n a b x = vd from by rw [s7D], show s7W vq vf vd vw vl vr n a b x = vw from by rw [s7W], show s7L vq vf vd vw vl vr n a b x = vl from by rw [s7L, if_pos c_9], show s7R vq vf vd vw vl vr n a b x = vr from by rw [s7R, if_pos c_9]]) rfl hP hS dL_ofShot_467

def s12V (vq : Nat → Int32) (vf : Nat → Int32) (vd : Nat → Int32) (vw : Nat → Int32) (vl : Nat → Int32) (vr : Nat → Int32) (n : Nat) (a : Nat) (b : Nat) (x : Int32) : Int32 := nI (n - 1)
def s12Q (vq : Nat → Int32) (vf : Nat → Int32) (vd : Nat → Int32) (vw : Nat → Int32) (vl : Nat → Int32) (vr : Nat → Int32) (n : Nat) (a : Nat) (b : Nat) (x : Int32) : Nat → Int32 := upd vq 4 (nI (n - 1))
def s12F (vq : Nat → Int32) (vf : Nat → Int32) (vd : Nat → Int32) (vw : Nat → Int32) (vl : Nat → Int32) (vr : Nat → Int32) (n : Nat) (a : Nat) (b : Nat) (x : Int32) : Nat → Int32 := sd1 vf a (n - 1)
def s12D (vq : Nat → Int32) (vf : Nat → Int32) (vd : Nat → Int32) (vw : Nat → Int32) (vl : Nat → Int32) (vr : Nat → Int32) (n : Nat) (a : Nat) (b : Nat) (x : Int32) : Nat → Int32 := sd3 vd a (n - 1)
def s12W (vq : Nat → Int32) (vf : Nat → Int32) (vd : Nat → Int32) (vw : Nat → Int32) (vl : Nat → Int32) (vr : Nat → Int32) (n : Nat) (a : Nat) (b : Nat) (x : Int32) : Nat → Int32 := sd3 vw a (n - 1)
def s12L (vq : Nat → Int32) (vf : Nat → Int32) (vd : Nat → Int32) (vw : Nat → Int32) (vl : Nat → Int32) (vr : Nat → Int32) (n : Nat) (a : Nat) (b : Nat) (x : Int32) : Nat → Int32 := sd3 vl a (n - 1)
def s12R (vq : Nat → Int32) (vf : Nat → Int32) (vd : Nat → Int32) (vw : Nat → Int32) (vl : Nat → Int32) (vr : Nat → Int32) (n : Nat) (a : Nat) (b : Nat) (x : Int32) : Nat → Int32 := sd3 vr a (n - 1)
set_option maxHeartbeats 4000000 in
set_option maxRecDepth 100000 in
theorem c_L_ofShot_12 (l : Launch) (E : EV) (a : Nat) (b : Nat) (x : Int32) (aq : Nat) (af : Nat) (ad : Nat) (aw : Nat) (al : Nat) (ar : Nat) (vq : Nat → Int32) (vf : Nat → Int32) (vd : Nat → Int32) (vw : Nat → Int32) (vl : Nat → Int32) (vr : Nat → Int32) (n : Nat) (hf : vq 4 = nI n) (hn : n ≤ 20) (ha : a < n) : rcI l E yL_ofShot cL_ofShot 13 .int 3 [.int (nI 12), .int (nI a), .int (nI b), .int x, .ref aq, .ref af, .ref ad, .ref aw, .ref al, .ref ar] [(aq, .inl (E.2.1, 13, .inl vq)), (af, .inl (E.2.1, 21, .inl vf)), (ad, .inl (E.2.1, 63, .inl vd)), (aw, .inl (E.2.1, 63, .inl vw)), (al, .inl (E.2.1, 63, .inl vl)), (ar, .inl (E.2.1, 63, .inl vr))] (s12V vq vf vd vw vl vr n a b x) [(aq, .inl (E.2.1, 13, .inl (s12Q vq vf vd vw vl vr n a b x))), (af, .inl (E.2.1, 21, .inl (s12F vq vf vd vw vl vr n a b x))), (ad, .inl (E.2.1, 63, .inl (s12D vq vf vd vw vl vr n a b x))), (aw, .inl (E.2.1, 63, .inl (s12W vq vf vd vw vl vr n a b x))), (al, .inl (E.2.1, 63, .inl (s12L vq vf vd vw vl vr n a b x))), (ar, .inl (E.2.1, 63, .inl (s12R vq vf vd vw vl vr n a b x)))] := by
  refine rcI_of (by decide) (Nat.le_of_ble_eq_true rfl) ?_
  intro pg e s m below meth c Q A ls S hP hD0 hE hA hl hret
  have hx := S.1
  have hb := S.2.1
  have hown := S.2.2.2.1
  have hts := S.2.2.2.2
  have hK := hE.1
  have hS : va_S A s.heap s.heap [] := va_S.rf
  have hDa : va_Da A [aq, af, ad, aw, al, ar] := ⟨_, hD0, rfl⟩
  have hl : lv_has ls 13 [(0, .int (nI 12)), (1, .int (nI a)), (2, .int (nI b)), (3, .int x), (4, .ref aq), (5, .ref af), (6, .ref ad), (7, .ref aw), (8, .ref al), (9, .ref ar)] := hl
  refine lv_iload_n hx hb dL_ofShot_0 rfl (lv_at hl 0 rfl) ?_
  refine lv_iconst (v := nI 1) hx hb dL_ofShot_1 (by decide) ?_
  refine rn_icmp_ne (a := 12) (b := 1) (tgt := 16) hx hb (by omega) (by omega) dL_ofShot_2 (by decide) (fun c_1 => ?_) (fun c_1 => absurd c_1 (by omega))
  refine lv_iload_n hx hb dL_ofShot_16 rfl (lv_at hl 0 rfl) ?_
  refine lv_iconst (v := nI 2) hx hb dL_ofShot_17 (by decide) ?_
  refine rn_icmp_ne (a := 12) (b := 2) (tgt := 35) hx hb (by omega) (by omega) dL_ofShot_18 (by decide) (fun c_2 => ?_) (fun c_2 => absurd c_2 (by omega))
  refine lv_iconst (v := nI 0) hx hb dL_ofShot_35 (by decide) ?_
  refine lv_istore (lv' := [(10, .int (nI 0)), (0, .int (nI 12)), (1, .int (nI a)), (2, .int (nI b)), (3, .int x), (4, .ref aq), (5, .ref af), (6, .ref ad), (7, .ref aw), (8, .ref al), (9, .ref ar)]) hx hb dL_ofShot_36 hl (by decide) rfl (fun ls hl => ?_)
  refine lv_iload_n hx hb dL_ofShot_38 rfl (lv_at hl 1 rfl) ?_
  refine lv_iconst (v := nI 1) hx hb dL_ofShot_39 (by decide) ?_
  refine rn_icmp_ne (a := 12) (b := 1) (tgt := 60) hx hb (by omega) (by omega) dL_ofShot_40 (by decide) (fun c_3 => ?_) (fun c_3 => absurd c_3 (by omega))
  refine lv_iload_n hx hb dL_ofShot_60 rfl (lv_at hl 1 rfl) ?_
  refine lv_iconst (v := nI 2) hx hb dL_ofShot_61 (by decide) ?_
  refine rn_icmp_ne (a := 12) (b := 2) (tgt := 85) hx hb (by omega) (by omega) dL_ofShot_62 (by decide) (fun c_4 => ?_) (fun c_4 => absurd c_4 (by omega))
  refine lv_iload_n hx hb dL_ofShot_85 rfl (lv_at hl 1 rfl) ?_
  refine lv_iconst (v := nI 3) hx hb dL_ofShot_86 (by decide) ?_
  refine rn_icmp_ne (a := 12) (b := 3) (tgt := 185) hx hb (by omega) (by omega) dL_ofShot_87 (by decide) (fun c_5 => ?_) (fun c_5 => absurd c_5 (by omega))
  refine lv_iload_n hx hb dL_ofShot_185 rfl (lv_at hl 1 rfl) ?_
  refine lv_iconst (v := nI 4) hx hb dL_ofShot_186 (by decide) ?_
  refine rn_icmp_ne (a := 12) (b := 4) (tgt := 279) hx hb (by omega) (by omega) dL_ofShot_187 (by decide) (fun c_6 => ?_) (fun c_6 => absurd c_6 (by omega))
  refine lv_iload_n hx hb dL_ofShot_279 rfl (lv_at hl 1 rfl) ?_
  refine lv_iconst (v := nI 5) hx hb dL_ofShot_280 (by decide) ?_
  refine rn_icmp_ne (a := 12) (b := 5) (tgt := 437) hx hb (by omega) (by omega) dL_ofShot_281 (by decide) (fun c_7 => ?_) (fun c_7 => absurd c_7 (by omega))
  refine lv_iload_n hx hb dL_ofShot_437 rfl (lv_at hl 1 rfl) ?_
  refine lv_bipush (v := nI 7) hx hb dL_ofShot_438 (by decide) ?_
  refine rn_icmp_ne (a := 12) (b := 7) (tgt := 468) hx hb (by omega) (by omega) dL_ofShot_440 (by decide) (fun c_8 => ?_) (fun c_8 => absurd c_8 (by omega))
  refine lv_iload_n hx hb dL_ofShot_468 rfl (lv_at hl 2 rfl) ?_
  refine lv_iconst (v := (-1)) hx hb dL_ofShot_469 (by decide) ?_
  refine lv_aload hx hb dL_ofShot_470 (lv_at hl 5 rfl) ?_
  refine lv_aload hx hb dL_ofShot_472 (lv_at hl 6 rfl) ?_
  refine lv_aload hx hb dL_ofShot_474 (lv_at hl 7 rfl) ?_
  refine lv_aload hx hb dL_ofShot_476 (lv_at hl 8 rfl) ?_
  refine lv_aload hx hb dL_ofShot_478 (lv_at hl 9 rfl) ?_
  refine lv_aload hx hb dL_ofShot_480 (lv_at hl 10 rfl) ?_
  refine rwSv8 (rest := []) S (c_L_shift_d l E a aq af ad aw al ar vq vf vd vw vl vr n hf hn ha) cd_L_shift bw_380 ⟨Nat.le_of_ble_eq_true rfl, Nat.le_of_ble_eq_true rfl⟩ ⟨Nat.zero_le _, Nat.zero_le _⟩ hP (hDa.to rfl) hE hA hS [0, 1, 2, 3, 4, 5] rfl rfl [aq, af, ad, aw, al, ar] rfl rfl (Nat.le_of_ble_eq_true rfl) hl.1 dL_ofShot_482 (fun H locs hP _ hS => ?_)
  have hP : va_P E.1 vwCl [(aq, .inl (E.2.1, 13, .inl (upd vq 4 (nI (n - 1))))), (af, .inl (E.2.1, 21, .inl (sd1 vf a (n - 1)))), (ad, .inl (E.2.1, 63, .inl (sd3 vd a (n - 1)))), (aw, .inl (E.2.1, 63, .inl (sd3 vw a (n - 1)))), (al, .inl (E.2.1, 63, .inl (sd3 vl a (n - 1)))), (ar, .inl (E.2.1, 63, .inl (sd3 vr a (n - 1))))] H := hP
  refine lv_aload hx hb dL_ofShot_485 (lv_at hl 5 rfl) ?_
  refine lv_iconst (v := nI 4) hx hb dL_ofShot_487 (by decide) ?_
  refine rn_iald (i := 4) hx hb hK hP 0 0 rfl rfl (by omega) (by omega) dL_ofShot_488 ?_
  refine W.eq (congrArg (fun z9 => F0 m 489 ls (.int z9 :: [])) (show (upd vq 4 (nI (n - 1))) 4 = nI (n - 1) from pk_us)) ?_
  exact hret _ _ _ _ _ _ (by rw [s12V]) (by rw [show s12Q vq vf vd vw vl vr n a b x = upd vq 4 (nI (n - 1)) from by rw [s12Q], show s12F vq vf vd vw vl vr n a b x = sd1 vf a (n - 1) from by rw [s12F], show s12D vq vf vd vw vl vr n a b x = sd3 vd a (n - 1) from by rw [s12D], show s12W vq vf vd vw vl vr n a b x = sd3 vw a (n - 1) from by rw [s12W], show s12L vq vf vd vw vl vr n a b x = sd3 vl a (n - 1) from by rw [s12L], show s12R vq vf vd vw vl vr n a b x = sd3 vr a (n - 1) from by rw [s12R]]) rfl hP hS dL_ofShot_489

