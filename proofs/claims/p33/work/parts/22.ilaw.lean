def u10V (vq : Nat → Int32) (vf : Nat → Int32) (vd : Nat → Int32) (vw : Nat → Int32) (vl : Nat → Int32) (vr : Nat → Int32) (n : Nat) (a : Nat) (b : Nat) (x : Int32) : Int32 := vq (10 + b) + (nI 20)
def u10Q (vq : Nat → Int32) (vf : Nat → Int32) (vd : Nat → Int32) (vw : Nat → Int32) (vl : Nat → Int32) (vr : Nat → Int32) (n : Nat) (a : Nat) (b : Nat) (x : Int32) : Nat → Int32 := upd vq (10 + b) (nI (lowN x 41) - (nI 20))
def u10F (vq : Nat → Int32) (vf : Nat → Int32) (vd : Nat → Int32) (vw : Nat → Int32) (vl : Nat → Int32) (vr : Nat → Int32) (n : Nat) (a : Nat) (b : Nat) (x : Int32) : Nat → Int32 := vf
def u10D (vq : Nat → Int32) (vf : Nat → Int32) (vd : Nat → Int32) (vw : Nat → Int32) (vl : Nat → Int32) (vr : Nat → Int32) (n : Nat) (a : Nat) (b : Nat) (x : Int32) : Nat → Int32 := vd
def u10W (vq : Nat → Int32) (vf : Nat → Int32) (vd : Nat → Int32) (vw : Nat → Int32) (vl : Nat → Int32) (vr : Nat → Int32) (n : Nat) (a : Nat) (b : Nat) (x : Int32) : Nat → Int32 := vw
def u10L (vq : Nat → Int32) (vf : Nat → Int32) (vd : Nat → Int32) (vw : Nat → Int32) (vl : Nat → Int32) (vr : Nat → Int32) (n : Nat) (a : Nat) (b : Nat) (x : Int32) : Nat → Int32 := vl
def u10R (vq : Nat → Int32) (vf : Nat → Int32) (vd : Nat → Int32) (vw : Nat → Int32) (vl : Nat → Int32) (vr : Nat → Int32) (n : Nat) (a : Nat) (b : Nat) (x : Int32) : Nat → Int32 := vr
set_option maxHeartbeats 4000000 in
set_option maxRecDepth 100000 in
theorem c_L_due_10 (l : Launch) (E : EV) (a : Nat) (b : Nat) (x : Int32) (aq : Nat) (af : Nat) (ad : Nat) (aw : Nat) (al : Nat) (ar : Nat) (vq : Nat → Int32) (vf : Nat → Int32) (vd : Nat → Int32) (vw : Nat → Int32) (vl : Nat → Int32) (vr : Nat → Int32) (n : Nat) (hf : vq 4 = nI n) (hn : n ≤ 20) (ha9 : a < 21) (hb3 : b < 3) : rcI l E yL_due cL_due 13 .int 4 [.int (nI 10), .int (nI a), .int (nI b), .int x, .ref aq, .ref af, .ref ad, .ref aw, .ref al, .ref ar] [(aq, .inl (E.2.1, 13, .inl vq)), (af, .inl (E.2.1, 21, .inl vf)), (ad, .inl (E.2.1, 63, .inl vd)), (aw, .inl (E.2.1, 63, .inl vw)), (al, .inl (E.2.1, 63, .inl vl)), (ar, .inl (E.2.1, 63, .inl vr))] (u10V vq vf vd vw vl vr n a b x) [(aq, .inl (E.2.1, 13, .inl (u10Q vq vf vd vw vl vr n a b x))), (af, .inl (E.2.1, 21, .inl (u10F vq vf vd vw vl vr n a b x))), (ad, .inl (E.2.1, 63, .inl (u10D vq vf vd vw vl vr n a b x))), (aw, .inl (E.2.1, 63, .inl (u10W vq vf vd vw vl vr n a b x))), (al, .inl (E.2.1, 63, .inl (u10L vq vf vd vw vl vr n a b x))), (ar, .inl (E.2.1, 63, .inl (u10R vq vf vd vw vl vr n a b x)))] := by
  refine rcI_of (by decide) (Nat.le_of_ble_eq_true rfl) ?_
  intro pg e s m below meth c Q A ls S hP hD0 hE hA hl hret
  have hx := S.1
  have hb := S.2.1
  have hown := S.2.2.2.1
  have hts := S.2.2.2.2
  have hK := hE.1
  have hS : va_S A s.heap s.heap [] := va_S.rf
  have hDa : va_Da A [aq, af, ad, aw, al, ar] := ⟨_, hD0, rfl⟩
  have hl : lv_has ls 13 [(0, .int (nI 10)), (1, .int (nI a)), (2, .int (nI b)), (3, .int x), (4, .ref aq), (5, .ref af), (6, .ref ad), (7, .ref aw), (8, .ref al), (9, .ref ar)] := hl
  refine lv_iload_n hx hb dL_due_0 rfl (lv_at hl 0 rfl) ?_
  refine lv_if_ne (tgt := 135) hx hb dL_due_1 (by decide) (fun _ => ?_) (fun c9 => by first | exact absurd (by decide) c9 | exact absurd c9 (by decide))
  refine lv_iload_n hx hb dL_due_135 rfl (lv_at hl 0 rfl) ?_
  refine lv_bipush (v := nI 6) hx hb dL_due_136 (by decide) ?_
  refine rn_icmp_lt (a := 10) (b := 6) (tgt := 153) hx hb (by omega) (by omega) dL_due_138 (by decide) (fun c_1 => absurd c_1 (by omega)) (fun c_1 => ?_)
  refine lv_iload_n hx hb dL_due_141 rfl (lv_at hl 0 rfl) ?_
  refine lv_bipush (v := nI 7) hx hb dL_due_142 (by decide) ?_
  refine rn_icmp_eq (a := 10) (b := 7) (tgt := 153) hx hb (by omega) (by omega) dL_due_144 (by decide) (fun c_2 => absurd c_2 (by omega)) (fun c_2 => ?_)
  refine lv_iload_n hx hb dL_due_147 rfl (lv_at hl 0 rfl) ?_
  refine lv_bipush (v := nI 12) hx hb dL_due_148 (by decide) ?_
  refine rn_icmp_ne (a := 10) (b := 12) (tgt := 185) hx hb (by omega) (by omega) dL_due_150 (by decide) (fun c_3 => ?_) (fun c_3 => absurd c_3 (by omega))
  refine lv_iconst (v := nI 0) hx hb dL_due_185 (by decide) ?_
  refine lv_istore (lv' := [(10, .int (nI 0)), (0, .int (nI 10)), (1, .int (nI a)), (2, .int (nI b)), (3, .int x), (4, .ref aq), (5, .ref af), (6, .ref ad), (7, .ref aw), (8, .ref al), (9, .ref ar)]) hx hb dL_due_186 hl (by decide) rfl (fun ls hl => ?_)
  refine lv_iload_n hx hb dL_due_188 rfl (lv_at hl 1 rfl) ?_
  refine lv_bipush (v := nI 6) hx hb dL_due_189 (by decide) ?_
  refine rn_icmp_ne (a := 10) (b := 6) (tgt := 222) hx hb (by omega) (by omega) dL_due_191 (by decide) (fun c_4 => ?_) (fun c_4 => absurd c_4 (by omega))
  refine lv_iload_n hx hb dL_due_222 rfl (lv_at hl 1 rfl) ?_
  refine lv_bipush (v := nI 8) hx hb dL_due_223 (by decide) ?_
  refine rn_icmp_ne (a := 10) (b := 8) (tgt := 289) hx hb (by omega) (by omega) dL_due_225 (by decide) (fun c_5 => ?_) (fun c_5 => absurd c_5 (by omega))
  refine lv_iload_n hx hb dL_due_289 rfl (lv_at hl 1 rfl) ?_
  refine lv_bipush (v := nI 9) hx hb dL_due_290 (by decide) ?_
  refine rn_icmp_ne (a := 10) (b := 9) (tgt := 366) hx hb (by omega) (by omega) dL_due_292 (by decide) (fun c_6 => ?_) (fun c_6 => absurd c_6 (by omega))
  refine lv_iload_n hx hb dL_due_366 rfl (lv_at hl 1 rfl) ?_
  refine lv_bipush (v := nI 10) hx hb dL_due_367 (by decide) ?_
  refine rn_icmp_ne (a := 10) (b := 10) (tgt := 379) hx hb (by omega) (by omega) dL_due_369 (by decide) (fun c_7 => absurd c_7 (by omega)) (fun c_7 => ?_)
  refine lv_bipush (v := nI 10) hx hb dL_due_372 (by decide) ?_
  refine lv_iload_n hx hb dL_due_374 rfl (lv_at hl 3 rfl) ?_
  refine rn_add (a := 10) (b := b) hx hb dL_due_375 ?_
  refine lv_goto (tgt := 397) hx hb dL_due_376 (by decide) ?_
  refine lv_istore (lv' := [(11, .int (nI (10 + b))), (10, .int (nI 0)), (0, .int (nI 10)), (1, .int (nI a)), (2, .int (nI b)), (3, .int x), (4, .ref aq), (5, .ref af), (6, .ref ad), (7, .ref aw), (8, .ref al), (9, .ref ar)]) hx hb dL_due_397 hl (by decide) rfl (fun ls hl => ?_)
  refine lv_aload hx hb dL_due_399 (lv_at hl 6 rfl) ?_
  refine lv_iload hx hb dL_due_401 (lv_at hl 0 rfl) ?_
  refine rn_iald (i := 10 + b) hx hb hK hP 0 0 rfl rfl (by omega) (by omega) dL_due_403 ?_
  refine lv_istore (lv' := [(12, .int (vq (10 + b))), (11, .int (nI (10 + b))), (10, .int (nI 0)), (0, .int (nI 10)), (1, .int (nI a)), (2, .int (nI b)), (3, .int x), (4, .ref aq), (5, .ref af), (6, .ref ad), (7, .ref aw), (8, .ref al), (9, .ref ar)]) hx hb dL_due_404 hl (by decide) rfl (fun ls hl => ?_)
  refine lv_aload hx hb dL_due_406 (lv_at hl 7 rfl) ?_
  refine lv_iload hx hb dL_due_408 (lv_at hl 1 rfl) ?_
  refine lv_iload_n hx hb dL_due_410 rfl (lv_at hl 3 rfl) ?_
  refine lv_bipush (v := nI 10) hx hb dL_due_411 (by decide) ?_
  refine rn_icmp_ne (a := 10) (b := 10) (tgt := 428) hx hb (by omega) (by omega) dL_due_413 (by decide) (fun c_8 => absurd c_8 (by omega)) (fun c_8 => ?_)
  refine lv_iload_n hx hb dL_due_416 rfl (lv_at hl 6 rfl) ?_
  refine lv_bipush (v := nI 41) hx hb dL_due_417 (by decide) ?_
  refine rwS2 (rest := [.int (nI (10 + b)), .ref aq]) S (c_L_low l E x 41 (by omega) (by omega)) cd_L_low bw_140 ⟨Nat.le_of_ble_eq_true rfl, Nat.le_of_ble_eq_true rfl⟩ ⟨Nat.zero_le _, Nat.zero_le _⟩ hP (hDa.to rfl) hE hA hS [] rfl rfl [] rfl rfl (Nat.le_of_ble_eq_true rfl) hl.1 dL_due_419 (fun H locs hP _ hS => ?_)
  have hP : va_P E.1 vwCl [(aq, .inl (E.2.1, 13, .inl vq)), (af, .inl (E.2.1, 21, .inl vf)), (ad, .inl (E.2.1, 63, .inl vd)), (aw, .inl (E.2.1, 63, .inl vw)), (al, .inl (E.2.1, 63, .inl vl)), (ar, .inl (E.2.1, 63, .inl vr))] H := hP
  refine lv_bipush (v := nI 20) hx hb dL_due_422 (by decide) ?_
  refine lv_isub hx hb dL_due_424 ?_
  refine lv_goto (tgt := 445) hx hb dL_due_425 (by decide) ?_
  refine rn_iast (i := 10 + b) hx hb hK hP (hDa.to rfl) hS 0 0 rfl rfl (by omega) (by omega) dL_due_445 (fun H locs hP _ hS => ?_)
  have hP : va_P E.1 vwCl [(aq, .inl (E.2.1, 13, .inl (upd vq (10 + b) (nI (lowN x 41) - (nI 20))))), (af, .inl (E.2.1, 21, .inl vf)), (ad, .inl (E.2.1, 63, .inl vd)), (aw, .inl (E.2.1, 63, .inl vw)), (al, .inl (E.2.1, 63, .inl vl)), (ar, .inl (E.2.1, 63, .inl vr))] H := hP
  refine lv_iload_n hx hb dL_due_446 rfl (lv_at hl 3 rfl) ?_
  refine lv_bipush (v := nI 10) hx hb dL_due_447 (by decide) ?_
  refine rn_icmp_ne (a := 10) (b := 10) (tgt := 460) hx hb (by omega) (by omega) dL_due_449 (by decide) (fun c_9 => absurd c_9 (by omega)) (fun c_9 => ?_)
  refine lv_iload hx hb dL_due_452 (lv_at hl 0 rfl) ?_
  refine lv_bipush (v := nI 20) hx hb dL_due_454 (by decide) ?_
  refine lv_iadd hx hb dL_due_456 ?_
  refine lv_goto (tgt := 462) hx hb dL_due_457 (by decide) ?_
  exact hret _ _ _ _ _ _ (by rw [u10V]) (by rw [show u10Q vq vf vd vw vl vr n a b x = upd vq (10 + b) (nI (lowN x 41) - (nI 20)) from by rw [u10Q], show u10F vq vf vd vw vl vr n a b x = vf from by rw [u10F], show u10D vq vf vd vw vl vr n a b x = vd from by rw [u10D], show u10W vq vf vd vw vl vr n a b x = vw from by rw [u10W], show u10L vq vf vd vw vl vr n a b x = vl from by rw [u10L], show u10R vq vf vd vw vl vr n a b x = vr from by rw [u10R]]) rfl hP hS dL_due_462

def u11V (vq : Nat → Int32) (vf : Nat → Int32) (vd : Nat → Int32) (vw : Nat → Int32) (vl : Nat → Int32) (vr : Nat → Int32) (n : Nat) (a : Nat) (b : Nat) (x : Int32) : Int32 := vq (7 + b)
def u11Q (vq : Nat → Int32) (vf : Nat → Int32) (vd : Nat → Int32) (vw : Nat → Int32) (vl : Nat → Int32) (vr : Nat → Int32) (n : Nat) (a : Nat) (b : Nat) (x : Int32) : Nat → Int32 := upd vq (7 + b) (nI 0)
def u11F (vq : Nat → Int32) (vf : Nat → Int32) (vd : Nat → Int32) (vw : Nat → Int32) (vl : Nat → Int32) (vr : Nat → Int32) (n : Nat) (a : Nat) (b : Nat) (x : Int32) : Nat → Int32 := vf
def u11D (vq : Nat → Int32) (vf : Nat → Int32) (vd : Nat → Int32) (vw : Nat → Int32) (vl : Nat → Int32) (vr : Nat → Int32) (n : Nat) (a : Nat) (b : Nat) (x : Int32) : Nat → Int32 := vd
def u11W (vq : Nat → Int32) (vf : Nat → Int32) (vd : Nat → Int32) (vw : Nat → Int32) (vl : Nat → Int32) (vr : Nat → Int32) (n : Nat) (a : Nat) (b : Nat) (x : Int32) : Nat → Int32 := vw
def u11L (vq : Nat → Int32) (vf : Nat → Int32) (vd : Nat → Int32) (vw : Nat → Int32) (vl : Nat → Int32) (vr : Nat → Int32) (n : Nat) (a : Nat) (b : Nat) (x : Int32) : Nat → Int32 := vl
def u11R (vq : Nat → Int32) (vf : Nat → Int32) (vd : Nat → Int32) (vw : Nat → Int32) (vl : Nat → Int32) (vr : Nat → Int32) (n : Nat) (a : Nat) (b : Nat) (x : Int32) : Nat → Int32 := vr
set_option maxHeartbeats 4000000 in
set_option maxRecDepth 100000 in
theorem c_L_due_11 (l : Launch) (E : EV) (a : Nat) (b : Nat) (x : Int32) (aq : Nat) (af : Nat) (ad : Nat) (aw : Nat) (al : Nat) (ar : Nat) (vq : Nat → Int32) (vf : Nat → Int32) (vd : Nat → Int32) (vw : Nat → Int32) (vl : Nat → Int32) (vr : Nat → Int32) (n : Nat) (hf : vq 4 = nI n) (hn : n ≤ 20) (ha9 : a < 21) (hb3 : b < 3) : rcI l E yL_due cL_due 13 .int 4 [.int (nI 11), .int (nI a), .int (nI b), .int x, .ref aq, .ref af, .ref ad, .ref aw, .ref al, .ref ar] [(aq, .inl (E.2.1, 13, .inl vq)), (af, .inl (E.2.1, 21, .inl vf)), (ad, .inl (E.2.1, 63, .inl vd)), (aw, .inl (E.2.1, 63, .inl vw)), (al, .inl (E.2.1, 63, .inl vl)), (ar, .inl (E.2.1, 63, .inl vr))] (u11V vq vf vd vw vl vr n a b x) [(aq, .inl (E.2.1, 13, .inl (u11Q vq vf vd vw vl vr n a b x))), (af, .inl (E.2.1, 21, .inl (u11F vq vf vd vw vl vr n a b x))), (ad, .inl (E.2.1, 63, .inl (u11D vq vf vd vw vl vr n a b x))), (aw, .inl (E.2.1, 63, .inl (u11W vq vf vd vw vl vr n a b x))), (al, .inl (E.2.1, 63, .inl (u11L vq vf vd vw vl vr n a b x))), (ar, .inl (E.2.1, 63, .inl (u11R vq vf vd vw vl vr n a b x)))] := by
  refine rcI_of (by decide) (Nat.le_of_ble_eq_true rfl) ?_
  intro pg e s m below meth c Q A ls S hP hD0 hE hA hl hret
  have hx := S.1
  have hb := S.2.1
  have hown := S.2.2.2.1
  have hts := S.2.2.2.2
  have hK := hE.1
  have hS : va_S A s.heap s.heap [] := va_S.rf
  have hDa : va_Da A [aq, af, ad, aw, al, ar] := ⟨_, hD0, rfl⟩
  have hl : lv_has ls 13 [(0, .int (nI 11)), (1, .int (nI a)), (2, .int (nI b)), (3, .int x), (4, .ref aq), (5, .ref af), (6, .ref ad), (7, .ref aw), (8, .ref al), (9, .ref ar)] := hl
  refine lv_iload_n hx hb dL_due_0 rfl (lv_at hl 0 rfl) ?_
  refine lv_if_ne (tgt := 135) hx hb dL_due_1 (by decide) (fun _ => ?_) (fun c9 => by first | exact absurd (by decide) c9 | exact absurd c9 (by decide))
  refine lv_iload_n hx hb dL_due_135 rfl (lv_at hl 0 rfl) ?_
  refine lv_bipush (v := nI 6) hx hb dL_due_136 (by decide) ?_
  refine rn_icmp_lt (a := 11) (b := 6) (tgt := 153) hx hb (by omega) (by omega) dL_due_138 (by decide) (fun c_1 => absurd c_1 (by omega)) (fun c_1 => ?_)
  refine lv_iload_n hx hb dL_due_141 rfl (lv_at hl 0 rfl) ?_
  refine lv_bipush (v := nI 7) hx hb dL_due_142 (by decide) ?_
  refine rn_icmp_eq (a := 11) (b := 7) (tgt := 153) hx hb (by omega) (by omega) dL_due_144 (by decide) (fun c_2 => absurd c_2 (by omega)) (fun c_2 => ?_)
  refine lv_iload_n hx hb dL_due_147 rfl (lv_at hl 0 rfl) ?_
  refine lv_bipush (v := nI 12) hx hb dL_due_148 (by decide) ?_
  refine rn_icmp_ne (a := 11) (b := 12) (tgt := 185) hx hb (by omega) (by omega) dL_due_150 (by decide) (fun c_3 => ?_) (fun c_3 => absurd c_3 (by omega))
  refine lv_iconst (v := nI 0) hx hb dL_due_185 (by decide) ?_
  refine lv_istore (lv' := [(10, .int (nI 0)), (0, .int (nI 11)), (1, .int (nI a)), (2, .int (nI b)), (3, .int x), (4, .ref aq), (5, .ref af), (6, .ref ad), (7, .ref aw), (8, .ref al), (9, .ref ar)]) hx hb dL_due_186 hl (by decide) rfl (fun ls hl => ?_)
  refine lv_iload_n hx hb dL_due_188 rfl (lv_at hl 1 rfl) ?_
  refine lv_bipush (v := nI 6) hx hb dL_due_189 (by decide) ?_
  refine rn_icmp_ne (a := 11) (b := 6) (tgt := 222) hx hb (by omega) (by omega) dL_due_191 (by decide) (fun c_4 => ?_) (fun c_4 => absurd c_4 (by omega))
  refine lv_iload_n hx hb dL_due_222 rfl (lv_at hl 1 rfl) ?_
  refine lv_bipush (v := nI 8) hx hb dL_due_223 (by decide) ?_
  refine rn_icmp_ne (a := 11) (b := 8) (tgt := 289) hx hb (by omega) (by omega) dL_due_225 (by decide) (fun c_5 => ?_) (fun c_5 => absurd c_5 (by omega))
  refine lv_iload_n hx hb dL_due_289 rfl (lv_at hl 1 rfl) ?_
  refine lv_bipush (v := nI 9) hx hb dL_due_290 (by decide) ?_
  refine rn_icmp_ne (a := 11) (b := 9) (tgt := 366) hx hb (by omega) (by omega) dL_due_292 (by decide) (fun c_6 => ?_) (fun c_6 => absurd c_6 (by omega))
  refine lv_iload_n hx hb dL_due_366 rfl (lv_at hl 1 rfl) ?_
  refine lv_bipush (v := nI 10) hx hb dL_due_367 (by decide) ?_
  refine rn_icmp_ne (a := 11) (b := 10) (tgt := 379) hx hb (by omega) (by omega) dL_due_369 (by decide) (fun c_7 => ?_) (fun c_7 => absurd c_7 (by omega))
  refine lv_iload_n hx hb dL_due_379 rfl (lv_at hl 1 rfl) ?_
  refine lv_bipush (v := nI 11) hx hb dL_due_380 (by decide) ?_
  refine rn_icmp_ne (a := 11) (b := 11) (tgt := 392) hx hb (by omega) (by omega) dL_due_382 (by decide) (fun c_8 => absurd c_8 (by omega)) (fun c_8 => ?_)
  refine lv_bipush (v := nI 7) hx hb dL_due_385 (by decide) ?_
  refine lv_iload_n hx hb dL_due_387 rfl (lv_at hl 3 rfl) ?_
  refine rn_add (a := 7) (b := b) hx hb dL_due_388 ?_
  refine lv_goto (tgt := 397) hx hb dL_due_389 (by decide) ?_
  refine lv_istore (lv' := [(11, .int (nI (7 + b))), (10, .int (nI 0)), (0, .int (nI 11)), (1, .int (nI a)), (2, .int (nI b)), (3, .int x), (4, .ref aq), (5, .ref af), (6, .ref ad), (7, .ref aw), (8, .ref al), (9, .ref ar)]) hx hb dL_due_397 hl (by decide) rfl (fun ls hl => ?_)
  refine lv_aload hx hb dL_due_399 (lv_at hl 6 rfl) ?_
  refine lv_iload hx hb dL_due_401 (lv_at hl 0 rfl) ?_
  refine rn_iald (i := 7 + b) hx hb hK hP 0 0 rfl rfl (by omega) (by omega) dL_due_403 ?_
  refine lv_istore (lv' := [(12, .int (vq (7 + b))), (11, .int (nI (7 + b))), (10, .int (nI 0)), (0, .int (nI 11)), (1, .int (nI a)), (2, .int (nI b)), (3, .int x), (4, .ref aq), (5, .ref af), (6, .ref ad), (7, .ref aw), (8, .ref al), (9, .ref ar)]) hx hb dL_due_404 hl (by decide) rfl (fun ls hl => ?_)
  refine lv_aload hx hb dL_due_406 (lv_at hl 7 rfl) ?_
  refine lv_iload hx hb dL_due_408 (lv_at hl 1 rfl) ?_
  refine lv_iload_n hx hb dL_due_410 rfl (lv_at hl 3 rfl) ?_
  refine lv_bipush (v := nI 10) hx hb dL_due_411 (by decide) ?_
  refine rn_icmp_ne (a := 11) (b := 10) (tgt := 428) hx hb (by omega) (by omega) dL_due_413 (by decide) (fun c_9 => ?_) (fun c_9 => absurd c_9 (by omega))
  refine lv_iload_n hx hb dL_due_428 rfl (lv_at hl 3 rfl) ?_
  refine lv_bipush (v := nI 11) hx hb dL_due_429 (by decide) ?_
  refine rn_icmp_ne (a := 11) (b := 11) (tgt := 438) hx hb (by omega) (by omega) dL_due_431 (by decide) (fun c_10 => absurd c_10 (by omega)) (fun c_10 => ?_)
  refine lv_iconst (v := nI 0) hx hb dL_due_434 (by decide) ?_
  refine lv_goto (tgt := 445) hx hb dL_due_435 (by decide) ?_
  refine rn_iast (i := 7 + b) hx hb hK hP (hDa.to rfl) hS 0 0 rfl rfl (by omega) (by omega) dL_due_445 (fun H locs hP _ hS => ?_)
  have hP : va_P E.1 vwCl [(aq, .inl (E.2.1, 13, .inl (upd vq (7 + b) (nI 0)))), (af, .inl (E.2.1, 21, .inl vf)), (ad, .inl (E.2.1, 63, .inl vd)), (aw, .inl (E.2.1, 63, .inl vw)), (al, .inl (E.2.1, 63, .inl vl)), (ar, .inl (E.2.1, 63, .inl vr))] H := hP
  refine lv_iload_n hx hb dL_due_446 rfl (lv_at hl 3 rfl) ?_
  refine lv_bipush (v := nI 10) hx hb dL_due_447 (by decide) ?_
  refine rn_icmp_ne (a := 11) (b := 10) (tgt := 460) hx hb (by omega) (by omega) dL_due_449 (by decide) (fun c_11 => ?_) (fun c_11 => absurd c_11 (by omega))
  refine lv_iload hx hb dL_due_460 (lv_at hl 0 rfl) ?_
  exact hret _ _ _ _ _ _ (by rw [u11V]) (by rw [show u11Q vq vf vd vw vl vr n a b x = upd vq (7 + b) (nI 0) from by rw [u11Q], show u11F vq vf vd vw vl vr n a b x = vf from by rw [u11F], show u11D vq vf vd vw vl vr n a b x = vd from by rw [u11D], show u11W vq vf vd vw vl vr n a b x = vw from by rw [u11W], show u11L vq vf vd vw vl vr n a b x = vl from by rw [u11L], show u11R vq vf vd vw vl vr n a b x = vr from by rw [u11R]]) rfl hP hS dL_due_462

def u13V (vq : Nat → Int32) (vf : Nat → Int32) (vd : Nat → Int32) (vw : Nat → Int32) (vl : Nat → Int32) (vr : Nat → Int32) (n : Nat) (a : Nat) (b : Nat) (x : Int32) : Int32 := vq (lowN (nI a) 4)
def u13Q (vq : Nat → Int32) (vf : Nat → Int32) (vd : Nat → Int32) (vw : Nat → Int32) (vl : Nat → Int32) (vr : Nat → Int32) (n : Nat) (a : Nat) (b : Nat) (x : Int32) : Nat → Int32 := upd vq (lowN (nI a) 4) (nI (1 + lowN x 5))
def u13F (vq : Nat → Int32) (vf : Nat → Int32) (vd : Nat → Int32) (vw : Nat → Int32) (vl : Nat → Int32) (vr : Nat → Int32) (n : Nat) (a : Nat) (b : Nat) (x : Int32) : Nat → Int32 := vf
def u13D (vq : Nat → Int32) (vf : Nat → Int32) (vd : Nat → Int32) (vw : Nat → Int32) (vl : Nat → Int32) (vr : Nat → Int32) (n : Nat) (a : Nat) (b : Nat) (x : Int32) : Nat → Int32 := vd
def u13W (vq : Nat → Int32) (vf : Nat → Int32) (vd : Nat → Int32) (vw : Nat → Int32) (vl : Nat → Int32) (vr : Nat → Int32) (n : Nat) (a : Nat) (b : Nat) (x : Int32) : Nat → Int32 := vw
def u13L (vq : Nat → Int32) (vf : Nat → Int32) (vd : Nat → Int32) (vw : Nat → Int32) (vl : Nat → Int32) (vr : Nat → Int32) (n : Nat) (a : Nat) (b : Nat) (x : Int32) : Nat → Int32 := vl
def u13R (vq : Nat → Int32) (vf : Nat → Int32) (vd : Nat → Int32) (vw : Nat → Int32) (vl : Nat → Int32) (vr : Nat → Int32) (n : Nat) (a : Nat) (b : Nat) (x : Int32) : Nat → Int32 := vr
set_option maxHeartbeats 4000000 in
set_option maxRecDepth 100000 in
theorem c_L_due_13 (l : Launch) (E : EV) (a : Nat) (b : Nat) (x : Int32) (aq : Nat) (af : Nat) (ad : Nat) (aw : Nat) (al : Nat) (ar : Nat) (vq : Nat → Int32) (vf : Nat → Int32) (vd : Nat → Int32) (vw : Nat → Int32) (vl : Nat → Int32) (vr : Nat → Int32) (n : Nat) (hf : vq 4 = nI n) (hn : n ≤ 20) (ha9 : a < 21) : rcI l E yL_due cL_due 13 .int 4 [.int (nI 13), .int (nI a), .int (nI b), .int x, .ref aq, .ref af, .ref ad, .ref aw, .ref al, .ref ar] [(aq, .inl (E.2.1, 13, .inl vq)), (af, .inl (E.2.1, 21, .inl vf)), (ad, .inl (E.2.1, 63, .inl vd)), (aw, .inl (E.2.1, 63, .inl vw)), (al, .inl (E.2.1, 63, .inl vl)), (ar, .inl (E.2.1, 63, .inl vr))] (u13V vq vf vd vw vl vr n a b x) [(aq, .inl (E.2.1, 13, .inl (u13Q vq vf vd vw vl vr n a b x))), (af, .inl (E.2.1, 21, .inl (u13F vq vf vd vw vl vr n a b x))), (ad, .inl (E.2.1, 63, .inl (u13D vq vf vd vw vl vr n a b x))), (aw, .inl (E.2.1, 63, .inl (u13W vq vf vd vw vl vr n a b x))), (al, .inl (E.2.1, 63, .inl (u13L vq vf vd vw vl vr n a b x))), (ar, .inl (E.2.1, 63, .inl (u13R vq vf vd vw vl vr n a b x)))] := by
  refine rcI_of (by decide) (Nat.le_of_ble_eq_true rfl) ?_
  intro pg e s m below meth c Q A ls S hP hD0 hE hA hl hret
  have hx := S.1
  have hb := S.2.1
  have hown := S.2.2.2.1
  have hts := S.2.2.2.2
  have hK := hE.1
  have hS : va_S A s.heap s.heap [] := va_S.rf
  have hDa : va_Da A [aq, af, ad, aw, al, ar] := ⟨_, hD0, rfl⟩
  have hl : lv_has ls 13 [(0, .int (nI 13)), (1, .int (nI a)), (2, .int (nI b)), (3, .int x), (4, .ref aq), (5, .ref af), (6, .ref ad), (7, .ref aw), (8, .ref al), (9, .ref ar)] := hl
  have hpl := lowN_lt (nI a) (m := 4) (by omega)
  refine lv_iload_n hx hb dL_due_0 rfl (lv_at hl 0 rfl) ?_
  refine lv_if_ne (tgt := 135) hx hb dL_due_1 (by decide) (fun _ => ?_) (fun c9 => by first | exact absurd (by decide) c9 | exact absurd c9 (by decide))
  refine lv_iload_n hx hb dL_due_135 rfl (lv_at hl 0 rfl) ?_
  refine lv_bipush (v := nI 6) hx hb dL_due_136 (by decide) ?_
  refine rn_icmp_lt (a := 13) (b := 6) (tgt := 153) hx hb (by omega) (by omega) dL_due_138 (by decide) (fun c_1 => absurd c_1 (by omega)) (fun c_1 => ?_)
  refine lv_iload_n hx hb dL_due_141 rfl (lv_at hl 0 rfl) ?_
  refine lv_bipush (v := nI 7) hx hb dL_due_142 (by decide) ?_
  refine rn_icmp_eq (a := 13) (b := 7) (tgt := 153) hx hb (by omega) (by omega) dL_due_144 (by decide) (fun c_2 => absurd c_2 (by omega)) (fun c_2 => ?_)
  refine lv_iload_n hx hb dL_due_147 rfl (lv_at hl 0 rfl) ?_
  refine lv_bipush (v := nI 12) hx hb dL_due_148 (by decide) ?_
  refine rn_icmp_ne (a := 13) (b := 12) (tgt := 185) hx hb (by omega) (by omega) dL_due_150 (by decide) (fun c_3 => ?_) (fun c_3 => absurd c_3 (by omega))
  refine lv_iconst (v := nI 0) hx hb dL_due_185 (by decide) ?_
  refine lv_istore (lv' := [(10, .int (nI 0)), (0, .int (nI 13)), (1, .int (nI a)), (2, .int (nI b)), (3, .int x), (4, .ref aq), (5, .ref af), (6, .ref ad), (7, .ref aw), (8, .ref al), (9, .ref ar)]) hx hb dL_due_186 hl (by decide) rfl (fun ls hl => ?_)
  refine lv_iload_n hx hb dL_due_188 rfl (lv_at hl 1 rfl) ?_
  refine lv_bipush (v := nI 6) hx hb dL_due_189 (by decide) ?_
  refine rn_icmp_ne (a := 13) (b := 6) (tgt := 222) hx hb (by omega) (by omega) dL_due_191 (by decide) (fun c_4 => ?_) (fun c_4 => absurd c_4 (by omega))
  refine lv_iload_n hx hb dL_due_222 rfl (lv_at hl 1 rfl) ?_
  refine lv_bipush (v := nI 8) hx hb dL_due_223 (by decide) ?_
  refine rn_icmp_ne (a := 13) (b := 8) (tgt := 289) hx hb (by omega) (by omega) dL_due_225 (by decide) (fun c_5 => ?_) (fun c_5 => absurd c_5 (by omega))
  refine lv_iload_n hx hb dL_due_289 rfl (lv_at hl 1 rfl) ?_
  refine lv_bipush (v := nI 9) hx hb dL_due_290 (by decide) ?_
  refine rn_icmp_ne (a := 13) (b := 9) (tgt := 366) hx hb (by omega) (by omega) dL_due_292 (by decide) (fun c_6 => ?_) (fun c_6 => absurd c_6 (by omega))
  refine lv_iload_n hx hb dL_due_366 rfl (lv_at hl 1 rfl) ?_
  refine lv_bipush (v := nI 10) hx hb dL_due_367 (by decide) ?_
  refine rn_icmp_ne (a := 13) (b := 10) (tgt := 379) hx hb (by omega) (by omega) dL_due_369 (by decide) (fun c_7 => ?_) (fun c_7 => absurd c_7 (by omega))
  refine lv_iload_n hx hb dL_due_379 rfl (lv_at hl 1 rfl) ?_
  refine lv_bipush (v := nI 11) hx hb dL_due_380 (by decide) ?_
  refine rn_icmp_ne (a := 13) (b := 11) (tgt := 392) hx hb (by omega) (by omega) dL_due_382 (by decide) (fun c_8 => ?_) (fun c_8 => absurd c_8 (by omega))
  refine lv_iload_n hx hb dL_due_392 rfl (lv_at hl 2 rfl) ?_
  refine lv_iconst (v := nI 4) hx hb dL_due_393 (by decide) ?_
  refine rwS2 (rest := []) S (c_L_low l E (nI a) 4 (by omega) (by omega)) cd_L_low bw_140 ⟨Nat.le_of_ble_eq_true rfl, Nat.le_of_ble_eq_true rfl⟩ ⟨Nat.zero_le _, Nat.zero_le _⟩ hP (hDa.to rfl) hE hA hS [] rfl rfl [] rfl rfl (Nat.le_of_ble_eq_true rfl) hl.1 dL_due_394 (fun H locs hP _ hS => ?_)
  have hP : va_P E.1 vwCl [(aq, .inl (E.2.1, 13, .inl vq)), (af, .inl (E.2.1, 21, .inl vf)), (ad, .inl (E.2.1, 63, .inl vd)), (aw, .inl (E.2.1, 63, .inl vw)), (al, .inl (E.2.1, 63, .inl vl)), (ar, .inl (E.2.1, 63, .inl vr))] H := hP
  refine lv_istore (lv' := [(11, .int (nI (lowN (nI a) 4))), (10, .int (nI 0)), (0, .int (nI 13)), (1, .int (nI a)), (2, .int (nI b)), (3, .int x), (4, .ref aq), (5, .ref af), (6, .ref ad), (7, .ref aw), (8, .ref al), (9, .ref ar)]) hx hb dL_due_397 hl (by decide) rfl (fun ls hl => ?_)
  refine lv_aload hx hb dL_due_399 (lv_at hl 6 rfl) ?_
  refine lv_iload hx hb dL_due_401 (lv_at hl 0 rfl) ?_
  refine rn_iald (i := lowN (nI a) 4) hx hb hK hP 0 0 rfl rfl (by omega) (by omega) dL_due_403 ?_
  refine lv_istore (lv' := [(12, .int (vq (lowN (nI a) 4))), (11, .int (nI (lowN (nI a) 4))), (10, .int (nI 0)), (0, .int (nI 13)), (1, .int (nI a)), (2, .int (nI b)), (3, .int x), (4, .ref aq), (5, .ref af), (6, .ref ad), (7, .ref aw), (8, .ref al), (9, .ref ar)]) hx hb dL_due_404 hl (by decide) rfl (fun ls hl => ?_)
  refine lv_aload hx hb dL_due_406 (lv_at hl 7 rfl) ?_
  refine lv_iload hx hb dL_due_408 (lv_at hl 1 rfl) ?_
  refine lv_iload_n hx hb dL_due_410 rfl (lv_at hl 3 rfl) ?_
  refine lv_bipush (v := nI 10) hx hb dL_due_411 (by decide) ?_
  refine rn_icmp_ne (a := 13) (b := 10) (tgt := 428) hx hb (by omega) (by omega) dL_due_413 (by decide) (fun c_9 => ?_) (fun c_9 => absurd c_9 (by omega))
  refine lv_iload_n hx hb dL_due_428 rfl (lv_at hl 3 rfl) ?_
  refine lv_bipush (v := nI 11) hx hb dL_due_429 (by decide) ?_
  refine rn_icmp_ne (a := 13) (b := 11) (tgt := 438) hx hb (by omega) (by omega) dL_due_431 (by decide) (fun c_10 => ?_) (fun c_10 => absurd c_10 (by omega))
  refine lv_iconst (v := nI 1) hx hb dL_due_438 (by decide) ?_
  refine lv_iload_n hx hb dL_due_439 rfl (lv_at hl 6 rfl) ?_
  refine lv_iconst (v := nI 5) hx hb dL_due_440 (by decide) ?_
  refine rwS2 (rest := [.int (nI 1), .int (nI (lowN (nI a) 4)), .ref aq]) S (c_L_low l E x 5 (by omega) (by omega)) cd_L_low bw_140 ⟨Nat.le_of_ble_eq_true rfl, Nat.le_of_ble_eq_true rfl⟩ ⟨Nat.zero_le _, Nat.zero_le _⟩ hP (hDa.to rfl) hE hA hS [] rfl rfl [] rfl rfl (Nat.le_of_ble_eq_true rfl) hl.1 dL_due_441 (fun H locs hP _ hS => ?_)
  have hP : va_P E.1 vwCl [(aq, .inl (E.2.1, 13, .inl vq)), (af, .inl (E.2.1, 21, .inl vf)), (ad, .inl (E.2.1, 63, .inl vd)), (aw, .inl (E.2.1, 63, .inl vw)), (al, .inl (E.2.1, 63, .inl vl)), (ar, .inl (E.2.1, 63, .inl vr))] H := hP
  refine rn_add (a := 1) (b := lowN x 5) hx hb dL_due_444 ?_
  refine rn_iast (i := lowN (nI a) 4) hx hb hK hP (hDa.to rfl) hS 0 0 rfl rfl (by omega) (by omega) dL_due_445 (fun H locs hP _ hS => ?_)
  have hP : va_P E.1 vwCl [(aq, .inl (E.2.1, 13, .inl (upd vq (lowN (nI a) 4) (nI (1 + lowN x 5))))), (af, .inl (E.2.1, 21, .inl vf)), (ad, .inl (E.2.1, 63, .inl vd)), (aw, .inl (E.2.1, 63, .inl vw)), (al, .inl (E.2.1, 63, .inl vl)), (ar, .inl (E.2.1, 63, .inl vr))] H := hP
  refine lv_iload_n hx hb dL_due_446 rfl (lv_at hl 3 rfl) ?_
  refine lv_bipush (v := nI 10) hx hb dL_due_447 (by decide) ?_
  refine rn_icmp_ne (a := 13) (b := 10) (tgt := 460) hx hb (by omega) (by omega) dL_due_449 (by decide) (fun c_11 => ?_) (fun c_11 => absurd c_11 (by omega))
  refine lv_iload hx hb dL_due_460 (lv_at hl 0 rfl) ?_
  exact hret _ _ _ _ _ _ (by rw [u13V]) (by rw [show u13Q vq vf vd vw vl vr n a b x = upd vq (lowN (nI a) 4) (nI (1 + lowN x 5)) from by rw [u13Q], show u13F vq vf vd vw vl vr n a b x = vf from by rw [u13F], show u13D vq vf vd vw vl vr n a b x = vd from by rw [u13D], show u13W vq vf vd vw vl vr n a b x = vw from by rw [u13W], show u13L vq vf vd vw vl vr n a b x = vl from by rw [u13L], show u13R vq vf vd vw vl vr n a b x = vr from by rw [u13R]]) rfl hP hS dL_due_462

