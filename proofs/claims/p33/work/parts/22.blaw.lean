def s5V (vq : Nat → Int32) (vf : Nat → Int32) (vd : Nat → Int32) (vw : Nat → Int32) (vl : Nat → Int32) (vr : Nat → Int32) (n : Nat) (a : Nat) (b : Nat) (x : Int32) : Int32 := if n ≤ a + 1 then (-1) else if (if (if (if vd (3 * a + 0) = vd (3 * a + 3 + 0) then nI 1 else nI 0) = 0 then nI 0 else if vd (3 * a + 1) = vd (3 * a + 3 + 1) then nI 1 else nI 0) = 0 then nI 0 else if vd (3 * a + 2) = vd (3 * a + 3 + 2) then nI 1 else nI 0) = 0 then (-5) else if vf a + (vf (a + 1)) ≤ nI 99 then (upd vf (a + 1) (vf (a + 1) + (vf a))) (a + 1) else (-5)
def s5Q (vq : Nat → Int32) (vf : Nat → Int32) (vd : Nat → Int32) (vw : Nat → Int32) (vl : Nat → Int32) (vr : Nat → Int32) (n : Nat) (a : Nat) (b : Nat) (x : Int32) : Nat → Int32 := if n ≤ a + 1 then vq else if (if (if (if vd (3 * a + 0) = vd (3 * a + 3 + 0) then nI 1 else nI 0) = 0 then nI 0 else if vd (3 * a + 1) = vd (3 * a + 3 + 1) then nI 1 else nI 0) = 0 then nI 0 else if vd (3 * a + 2) = vd (3 * a + 3 + 2) then nI 1 else nI 0) = 0 then vq else if vf a + (vf (a + 1)) ≤ nI 99 then upd vq 4 (nI (n - 1)) else vq
def s5F (vq : Nat → Int32) (vf : Nat → Int32) (vd : Nat → Int32) (vw : Nat → Int32) (vl : Nat → Int32) (vr : Nat → Int32) (n : Nat) (a : Nat) (b : Nat) (x : Int32) : Nat → Int32 := if n ≤ a + 1 then vf else if (if (if (if vd (3 * a + 0) = vd (3 * a + 3 + 0) then nI 1 else nI 0) = 0 then nI 0 else if vd (3 * a + 1) = vd (3 * a + 3 + 1) then nI 1 else nI 0) = 0 then nI 0 else if vd (3 * a + 2) = vd (3 * a + 3 + 2) then nI 1 else nI 0) = 0 then vf else if vf a + (vf (a + 1)) ≤ nI 99 then upd (sd1 (upd vf (a + 1) (vf (a + 1) + (vf a))) (a + 1) (n - 1)) a ((upd vf (a + 1) (vf (a + 1) + (vf a))) (a + 1)) else vf
def s5D (vq : Nat → Int32) (vf : Nat → Int32) (vd : Nat → Int32) (vw : Nat → Int32) (vl : Nat → Int32) (vr : Nat → Int32) (n : Nat) (a : Nat) (b : Nat) (x : Int32) : Nat → Int32 := if n ≤ a + 1 then vd else if (if (if (if vd (3 * a + 0) = vd (3 * a + 3 + 0) then nI 1 else nI 0) = 0 then nI 0 else if vd (3 * a + 1) = vd (3 * a + 3 + 1) then nI 1 else nI 0) = 0 then nI 0 else if vd (3 * a + 2) = vd (3 * a + 3 + 2) then nI 1 else nI 0) = 0 then vd else if vf a + (vf (a + 1)) ≤ nI 99 then sd3 vd (a + 1) (n - 1) else vd
def s5W (vq : Nat → Int32) (vf : Nat → Int32) (vd : Nat → Int32) (vw : Nat → Int32) (vl : Nat → Int32) (vr : Nat → Int32) (n : Nat) (a : Nat) (b : Nat) (x : Int32) : Nat → Int32 := if n ≤ a + 1 then vw else if (if (if (if vd (3 * a + 0) = vd (3 * a + 3 + 0) then nI 1 else nI 0) = 0 then nI 0 else if vd (3 * a + 1) = vd (3 * a + 3 + 1) then nI 1 else nI 0) = 0 then nI 0 else if vd (3 * a + 2) = vd (3 * a + 3 + 2) then nI 1 else nI 0) = 0 then vw else if vf a + (vf (a + 1)) ≤ nI 99 then sd3 vw (a + 1) (n - 1) else vw
def s5L (vq : Nat → Int32) (vf : Nat → Int32) (vd : Nat → Int32) (vw : Nat → Int32) (vl : Nat → Int32) (vr : Nat → Int32) (n : Nat) (a : Nat) (b : Nat) (x : Int32) : Nat → Int32 := if n ≤ a + 1 then vl else if (if (if (if vd (3 * a + 0) = vd (3 * a + 3 + 0) then nI 1 else nI 0) = 0 then nI 0 else if vd (3 * a + 1) = vd (3 * a + 3 + 1) then nI 1 else nI 0) = 0 then nI 0 else if vd (3 * a + 2) = vd (3 * a + 3 + 2) then nI 1 else nI 0) = 0 then vl else if vf a + (vf (a + 1)) ≤ nI 99 then sd3 vl (a + 1) (n - 1) else vl
def s5R (vq : Nat → Int32) (vf : Nat → Int32) (vd : Nat → Int32) (vw : Nat → Int32) (vl : Nat → Int32) (vr : Nat → Int32) (n : Nat) (a : Nat) (b : Nat) (x : Int32) : Nat → Int32 := if n ≤ a + 1 then vr else if (if (if (if vd (3 * a + 0) = vd (3 * a + 3 + 0) then nI 1 else nI 0) = 0 then nI 0 else if vd (3 * a + 1) = vd (3 * a + 3 + 1) then nI 1 else nI 0) = 0 then nI 0 else if vd (3 * a + 2) = vd (3 * a + 3 + 2) then nI 1 else nI 0) = 0 then vr else if vf a + (vf (a + 1)) ≤ nI 99 then fo3 (sd3 vr (a + 1) (n - 1)) a else vr
set_option maxHeartbeats 4000000 in
set_option maxRecDepth 100000 in
theorem c_L_ofShot_5 (l : Launch) (E : EV) (a : Nat) (b : Nat) (x : Int32) (aq : Nat) (af : Nat) (ad : Nat) (aw : Nat) (al : Nat) (ar : Nat) (vq : Nat → Int32) (vf : Nat → Int32) (vd : Nat → Int32) (vw : Nat → Int32) (vl : Nat → Int32) (vr : Nat → Int32) (n : Nat) (hf : vq 4 = nI n) (hn : n ≤ 20) (ha : a < n) : rcI l E yL_ofShot cL_ofShot 13 .int 3 [.int (nI 5), .int (nI a), .int (nI b), .int x, .ref aq, .ref af, .ref ad, .ref aw, .ref al, .ref ar] [(aq, .inl (E.2.1, 13, .inl vq)), (af, .inl (E.2.1, 21, .inl vf)), (ad, .inl (E.2.1, 63, .inl vd)), (aw, .inl (E.2.1, 63, .inl vw)), (al, .inl (E.2.1, 63, .inl vl)), (ar, .inl (E.2.1, 63, .inl vr))] (s5V vq vf vd vw vl vr n a b x) [(aq, .inl (E.2.1, 13, .inl (s5Q vq vf vd vw vl vr n a b x))), (af, .inl (E.2.1, 21, .inl (s5F vq vf vd vw vl vr n a b x))), (ad, .inl (E.2.1, 63, .inl (s5D vq vf vd vw vl vr n a b x))), (aw, .inl (E.2.1, 63, .inl (s5W vq vf vd vw vl vr n a b x))), (al, .inl (E.2.1, 63, .inl (s5L vq vf vd vw vl vr n a b x))), (ar, .inl (E.2.1, 63, .inl (s5R vq vf vd vw vl vr n a b x)))] := by
  refine rcI_of (by decide) (Nat.le_of_ble_eq_true rfl) ?_
  intro pg e s m below meth c Q A ls S hP hD0 hE hA hl hret
  have hx := S.1
  have hb := S.2.1
  have hown := S.2.2.2.1
  have hts := S.2.2.2.2
  have hK := hE.1
  have hS : va_S A s.heap s.heap [] := va_S.rf
  have hDa : va_Da A [aq, af, ad, aw, al, ar] := ⟨_, hD0, rfl⟩
  have hl : lv_has ls 13 [(0, .int (nI 5)), (1, .int (nI a)), (2, .int (nI b)), (3, .int x), (4, .ref aq), (5, .ref af), (6, .ref ad), (7, .ref aw), (8, .ref al), (9, .ref ar)] := hl
  refine lv_iload_n hx hb dL_ofShot_0 rfl (lv_at hl 0 rfl) ?_
  refine lv_iconst (v := nI 1) hx hb dL_ofShot_1 (by decide) ?_
  refine rn_icmp_ne (a := 5) (b := 1) (tgt := 16) hx hb (by omega) (by omega) dL_ofShot_2 (by decide) (fun c_1 => ?_) (fun c_1 => absurd c_1 (by omega))
  refine lv_iload_n hx hb dL_ofShot_16 rfl (lv_at hl 0 rfl) ?_
  refine lv_iconst (v := nI 2) hx hb dL_ofShot_17 (by decide) ?_
  refine rn_icmp_ne (a := 5) (b := 2) (tgt := 35) hx hb (by omega) (by omega) dL_ofShot_18 (by decide) (fun c_2 => ?_) (fun c_2 => absurd c_2 (by omega))
  refine lv_iconst (v := nI 0) hx hb dL_ofShot_35 (by decide) ?_
  refine lv_istore (lv' := [(10, .int (nI 0)), (0, .int (nI 5)), (1, .int (nI a)), (2, .int (nI b)), (3, .int x), (4, .ref aq), (5, .ref af), (6, .ref ad), (7, .ref aw), (8, .ref al), (9, .ref ar)]) hx hb dL_ofShot_36 hl (by decide) rfl (fun ls hl => ?_)
  refine lv_iload_n hx hb dL_ofShot_38 rfl (lv_at hl 1 rfl) ?_
  refine lv_iconst (v := nI 1) hx hb dL_ofShot_39 (by decide) ?_
  refine rn_icmp_ne (a := 5) (b := 1) (tgt := 60) hx hb (by omega) (by omega) dL_ofShot_40 (by decide) (fun c_3 => ?_) (fun c_3 => absurd c_3 (by omega))
  refine lv_iload_n hx hb dL_ofShot_60 rfl (lv_at hl 1 rfl) ?_
  refine lv_iconst (v := nI 2) hx hb dL_ofShot_61 (by decide) ?_
  refine rn_icmp_ne (a := 5) (b := 2) (tgt := 85) hx hb (by omega) (by omega) dL_ofShot_62 (by decide) (fun c_4 => ?_) (fun c_4 => absurd c_4 (by omega))
  refine lv_iload_n hx hb dL_ofShot_85 rfl (lv_at hl 1 rfl) ?_
  refine lv_iconst (v := nI 3) hx hb dL_ofShot_86 (by decide) ?_
  refine rn_icmp_ne (a := 5) (b := 3) (tgt := 185) hx hb (by omega) (by omega) dL_ofShot_87 (by decide) (fun c_5 => ?_) (fun c_5 => absurd c_5 (by omega))
  refine lv_iload_n hx hb dL_ofShot_185 rfl (lv_at hl 1 rfl) ?_
  refine lv_iconst (v := nI 4) hx hb dL_ofShot_186 (by decide) ?_
  refine rn_icmp_ne (a := 5) (b := 4) (tgt := 279) hx hb (by omega) (by omega) dL_ofShot_187 (by decide) (fun c_6 => ?_) (fun c_6 => absurd c_6 (by omega))
  refine lv_iload_n hx hb dL_ofShot_279 rfl (lv_at hl 1 rfl) ?_
  refine lv_iconst (v := nI 5) hx hb dL_ofShot_280 (by decide) ?_
  refine rn_icmp_ne (a := 5) (b := 5) (tgt := 437) hx hb (by omega) (by omega) dL_ofShot_281 (by decide) (fun c_7 => absurd c_7 (by omega)) (fun c_7 => ?_)
  refine lv_iload_n hx hb dL_ofShot_284 rfl (lv_at hl 2 rfl) ?_
  refine lv_iconst (v := nI 1) hx hb dL_ofShot_285 (by decide) ?_
  refine rn_add (a := a) (b := 1) hx hb dL_ofShot_286 ?_
  refine lv_aload hx hb dL_ofShot_287 (lv_at hl 5 rfl) ?_
  refine lv_iconst (v := nI 4) hx hb dL_ofShot_289 (by decide) ?_
  refine rn_iald (i := 4) hx hb hK hP 0 0 rfl rfl (by omega) (by omega) dL_ofShot_290 ?_
  refine W.eq (congrArg (fun z9 => F0 m 291 ls (.int z9 :: [.int (nI (a + 1))])) (show vq 4 = nI n from hf)) ?_
  refine rn_icmp_ge (a := a + 1) (b := n) (tgt := 298) hx hb (by omega) (by omega) dL_ofShot_291 (by decide) (fun c_8 => ?_) (fun c_8 => ?_)
  · refine lv_iconst (v := nI 0) hx hb dL_ofShot_298 (by decide) ?_
    refine lv_istore (lv' := [(11, .int (nI 0)), (10, .int (nI 0)), (0, .int (nI 5)), (1, .int (nI a)), (2, .int (nI b)), (3, .int x), (4, .ref aq), (5, .ref af), (6, .ref ad), (7, .ref aw), (8, .ref al), (9, .ref ar)]) hx hb dL_ofShot_299 hl (by decide) rfl (fun ls hl => ?_)
    refine lv_iload hx hb dL_ofShot_301 (lv_at hl 0 rfl) ?_
    refine lv_if_ne (tgt := 308) hx hb dL_ofShot_303 (by decide) (fun c9 => by first | exact absurd c9 (by decide) | exact absurd (by decide) c9) (fun _ => ?_)
    refine lv_iconst (v := (-1)) hx hb dL_ofShot_306 (by decide) ?_
    exact hret _ _ _ _ _ _ (by rw [s5V, if_pos c_8]) (by rw [show s5Q vq vf vd vw vl vr n a b x = vq from by rw [s5Q, if_pos c_8], show s5F vq vf vd vw vl vr n a b x = vf from by rw [s5F, if_pos c_8], show s5D vq vf vd vw vl vr n a b x = vd from by rw [s5D, if_pos c_8], show s5W vq vf vd vw vl vr n a b x = vw from by rw [s5W, if_pos c_8], show s5L vq vf vd vw vl vr n a b x = vl from by rw [s5L, if_pos c_8], show s5R vq vf vd vw vl vr n a b x = vr from by rw [s5R, if_pos c_8]]) rfl hP hS dL_ofShot_307
  · refine lv_iconst (v := nI 1) hx hb dL_ofShot_294 (by decide) ?_
    refine lv_goto (tgt := 299) hx hb dL_ofShot_295 (by decide) ?_
    refine lv_istore (lv' := [(11, .int (nI 1)), (10, .int (nI 0)), (0, .int (nI 5)), (1, .int (nI a)), (2, .int (nI b)), (3, .int x), (4, .ref aq), (5, .ref af), (6, .ref ad), (7, .ref aw), (8, .ref al), (9, .ref ar)]) hx hb dL_ofShot_299 hl (by decide) rfl (fun ls hl => ?_)
    refine lv_iload hx hb dL_ofShot_301 (lv_at hl 0 rfl) ?_
    refine lv_if_ne (tgt := 308) hx hb dL_ofShot_303 (by decide) (fun _ => ?_) (fun c9 => by first | exact absurd (by decide) c9 | exact absurd c9 (by decide))
    refine lv_iconst (v := nI 0) hx hb dL_ofShot_308 (by decide) ?_
    refine lv_istore (lv' := [(12, .int (nI 0)), (11, .int (nI 1)), (10, .int (nI 0)), (0, .int (nI 5)), (1, .int (nI a)), (2, .int (nI b)), (3, .int x), (4, .ref aq), (5, .ref af), (6, .ref ad), (7, .ref aw), (8, .ref al), (9, .ref ar)]) hx hb dL_ofShot_309 hl (by decide) rfl (fun ls hl => ?_)
    refine lv_iload hx hb dL_ofShot_311 (lv_at hl 0 rfl) ?_
    refine lv_iconst (v := nI 3) hx hb dL_ofShot_313 (by decide) ?_
    refine rn_icmp_ge (a := 0) (b := 3) (tgt := 358) hx hb (by omega) (by omega) dL_ofShot_314 (by decide) (fun c_9 => absurd c_9 (by omega)) (fun c_9 => ?_)
    refine lv_iload hx hb dL_ofShot_317 (lv_at hl 1 rfl) ?_
    refine (fun (hj : ∀ (H : Heap) (locs : List Loc), va_P E.1 vwCl [(aq, .inl (E.2.1, 13, .inl vq)), (af, .inl (E.2.1, 21, .inl vf)), (ad, .inl (E.2.1, 63, .inl vd)), (aw, .inl (E.2.1, 63, .inl vw)), (al, .inl (E.2.1, 63, .inl vl)), (ar, .inl (E.2.1, 63, .inl vr))] H → va_S A s.heap H locs → W pg l e (rq 3) s m ([.int (nI 5), .int (nI a), .int (nI b), .int x, .ref aq, .ref af, .ref ad, .ref aw, .ref al, .ref ar] : List Value).toArray below meth c H locs 0 0 Q (F0 m 350 ls [.int (if vd (3 * a + 0) = vd (3 * a + 3 + 0) then nI 1 else nI 0)])) => ?_) ?_
    · refine lv_if_eq (tgt := 349) hx hb dL_ofShot_319 (by decide) (fun c9 => by first | exact absurd c9 (by decide) | exact absurd (by decide) c9) (fun _ => ?_)
      refine lv_aload hx hb dL_ofShot_322 (lv_at hl 9 rfl) ?_
      refine lv_iconst (v := nI 3) hx hb dL_ofShot_324 (by decide) ?_
      refine lv_iload_n hx hb dL_ofShot_325 rfl (lv_at hl 4 rfl) ?_
      refine rn_mul (a := 3) (b := a) hx hb dL_ofShot_326 ?_
      refine lv_iload hx hb dL_ofShot_327 (lv_at hl 0 rfl) ?_
      refine rn_add (a := 3 * a) (b := 0) hx hb dL_ofShot_329 ?_
      refine rn_iald (i := 3 * a + 0) hx hb hK hP 2 0 rfl rfl (by omega) (by omega) dL_ofShot_330 ?_
      refine lv_aload hx hb dL_ofShot_331 (lv_at hl 9 rfl) ?_
      refine lv_iconst (v := nI 3) hx hb dL_ofShot_333 (by decide) ?_
      refine lv_iload_n hx hb dL_ofShot_334 rfl (lv_at hl 4 rfl) ?_
      refine rn_mul (a := 3) (b := a) hx hb dL_ofShot_335 ?_
      refine lv_iconst (v := nI 3) hx hb dL_ofShot_336 (by decide) ?_
      refine rn_add (a := 3 * a) (b := 3) hx hb dL_ofShot_337 ?_
      refine lv_iload hx hb dL_ofShot_338 (lv_at hl 0 rfl) ?_
      refine rn_add (a := 3 * a + 3) (b := 0) hx hb dL_ofShot_340 ?_
      refine rn_iald (i := 3 * a + 3 + 0) hx hb hK hP 2 0 rfl rfl (by omega) (by omega) dL_ofShot_341 ?_
      refine lv_icmp_ne (tgt := 349) hx hb dL_ofShot_342 (by decide) (fun c_10 => ?_) (fun c_10 => ?_)
      · refine lv_iconst (v := nI 0) hx hb dL_ofShot_349 (by decide) ?_
        have hj9 := hj _ _ hP hS
        rw [if_neg c_10] at hj9
        exact hj9
      · refine lv_iconst (v := nI 1) hx hb dL_ofShot_345 (by decide) ?_
        refine lv_goto (tgt := 350) hx hb dL_ofShot_346 (by decide) ?_
        have hj9 := hj _ _ hP hS
        rw [if_pos c_10] at hj9
        exact hj9
    intro H locs hP hS
    refine lv_istore (lv' := [(11, .int (if vd (3 * a + 0) = vd (3 * a + 3 + 0) then nI 1 else nI 0)), (12, .int (nI 0)), (10, .int (nI 0)), (0, .int (nI 5)), (1, .int (nI a)), (2, .int (nI b)), (3, .int x), (4, .ref aq), (5, .ref af), (6, .ref ad), (7, .ref aw), (8, .ref al), (9, .ref ar)]) hx hb dL_ofShot_350 hl (by decide) rfl (fun ls hl => ?_)
    refine rn_inc (a := 0) (d := 1) (lv' := [(12, .int (nI 1)), (11, .int (if vd (3 * a + 0) = vd (3 * a + 3 + 0) then nI 1 else nI 0)), (10, .int (nI 0)), (0, .int (nI 5)), (1, .int (nI a)), (2, .int (nI b)), (3, .int x), (4, .ref aq), (5, .ref af), (6, .ref ad), (7, .ref aw), (8, .ref al), (9, .ref ar)]) hx hb dL_ofShot_352 hl (k := 1) rfl (by decide) (by decide) rfl (fun ls hl => ?_)
    refine lv_goto (tgt := 311) hx hb dL_ofShot_355 (by decide) ?_
    refine lv_iload hx hb dL_ofShot_311 (lv_at hl 0 rfl) ?_
    refine lv_iconst (v := nI 3) hx hb dL_ofShot_313 (by decide) ?_
    refine rn_icmp_ge (a := 1) (b := 3) (tgt := 358) hx hb (by omega) (by omega) dL_ofShot_314 (by decide) (fun c_11 => absurd c_11 (by omega)) (fun c_11 => ?_)
    refine lv_iload hx hb dL_ofShot_317 (lv_at hl 1 rfl) ?_
    refine (fun (hj : ∀ (H : Heap) (locs : List Loc), va_P E.1 vwCl [(aq, .inl (E.2.1, 13, .inl vq)), (af, .inl (E.2.1, 21, .inl vf)), (ad, .inl (E.2.1, 63, .inl vd)), (aw, .inl (E.2.1, 63, .inl vw)), (al, .inl (E.2.1, 63, .inl vl)), (ar, .inl (E.2.1, 63, .inl vr))] H → va_S A s.heap H locs → W pg l e (rq 3) s m ([.int (nI 5), .int (nI a), .int (nI b), .int x, .ref aq, .ref af, .ref ad, .ref aw, .ref al, .ref ar] : List Value).toArray below meth c H locs 0 0 Q (F0 m 350 ls [.int (if (if vd (3 * a + 0) = vd (3 * a + 3 + 0) then nI 1 else nI 0) = 0 then nI 0 else if vd (3 * a + 1) = vd (3 * a + 3 + 1) then nI 1 else nI 0)])) => ?_) ?_
    · refine lv_if_eq (tgt := 349) hx hb dL_ofShot_319 (by decide) (fun c_12 => ?_) (fun c_12 => ?_)
      · refine lv_iconst (v := nI 0) hx hb dL_ofShot_349 (by decide) ?_
        have hj9 := hj _ _ hP hS
        rw [if_pos c_12] at hj9
        exact hj9
      · refine lv_aload hx hb dL_ofShot_322 (lv_at hl 9 rfl) ?_
        refine lv_iconst (v := nI 3) hx hb dL_ofShot_324 (by decide) ?_
        refine lv_iload_n hx hb dL_ofShot_325 rfl (lv_at hl 4 rfl) ?_
        refine rn_mul (a := 3) (b := a) hx hb dL_ofShot_326 ?_
        refine lv_iload hx hb dL_ofShot_327 (lv_at hl 0 rfl) ?_
        refine rn_add (a := 3 * a) (b := 1) hx hb dL_ofShot_329 ?_
        refine rn_iald (i := 3 * a + 1) hx hb hK hP 2 0 rfl rfl (by omega) (by omega) dL_ofShot_330 ?_
        refine lv_aload hx hb dL_ofShot_331 (lv_at hl 9 rfl) ?_
        refine lv_iconst (v := nI 3) hx hb dL_ofShot_333 (by decide) ?_
        refine lv_iload_n hx hb dL_ofShot_334 rfl (lv_at hl 4 rfl) ?_
        refine rn_mul (a := 3) (b := a) hx hb dL_ofShot_335 ?_
        refine lv_iconst (v := nI 3) hx hb dL_ofShot_336 (by decide) ?_
        refine rn_add (a := 3 * a) (b := 3) hx hb dL_ofShot_337 ?_
        refine lv_iload hx hb dL_ofShot_338 (lv_at hl 0 rfl) ?_
        refine rn_add (a := 3 * a + 3) (b := 1) hx hb dL_ofShot_340 ?_
        refine rn_iald (i := 3 * a + 3 + 1) hx hb hK hP 2 0 rfl rfl (by omega) (by omega) dL_ofShot_341 ?_
        refine lv_icmp_ne (tgt := 349) hx hb dL_ofShot_342 (by decide) (fun c_13 => ?_) (fun c_13 => ?_)
        · refine lv_iconst (v := nI 0) hx hb dL_ofShot_349 (by decide) ?_
          have hj9 := hj _ _ hP hS
          rw [if_neg c_12, if_neg c_13] at hj9
          exact hj9
        · refine lv_iconst (v := nI 1) hx hb dL_ofShot_345 (by decide) ?_
          refine lv_goto (tgt := 350) hx hb dL_ofShot_346 (by decide) ?_
          have hj9 := hj _ _ hP hS
          rw [if_neg c_12, if_pos c_13] at hj9
          exact hj9
    intro H locs hP hS
    refine lv_istore (lv' := [(11, .int (if (if vd (3 * a + 0) = vd (3 * a + 3 + 0) then nI 1 else nI 0) = 0 then nI 0 else if vd (3 * a + 1) = vd (3 * a + 3 + 1) then nI 1 else nI 0)), (12, .int (nI 1)), (10, .int (nI 0)), (0, .int (nI 5)), (1, .int (nI a)), (2, .int (nI b)), (3, .int x), (4, .ref aq), (5, .ref af), (6, .ref ad), (7, .ref aw), (8, .ref al), (9, .ref ar)]) hx hb dL_ofShot_350 hl (by decide) rfl (fun ls hl => ?_)
    refine rn_inc (a := 1) (d := 1) (lv' := [(12, .int (nI 2)), (11, .int (if (if vd (3 * a + 0) = vd (3 * a + 3 + 0) then nI 1 else nI 0) = 0 then nI 0 else if vd (3 * a + 1) = vd (3 * a + 3 + 1) then nI 1 else nI 0)), (10, .int (nI 0)), (0, .int (nI 5)), (1, .int (nI a)), (2, .int (nI b)), (3, .int x), (4, .ref aq), (5, .ref af), (6, .ref ad), (7, .ref aw), (8, .ref al), (9, .ref ar)]) hx hb dL_ofShot_352 hl (k := 1) rfl (by decide) (by decide) rfl (fun ls hl => ?_)
    refine lv_goto (tgt := 311) hx hb dL_ofShot_355 (by decide) ?_
    refine lv_iload hx hb dL_ofShot_311 (lv_at hl 0 rfl) ?_
    refine lv_iconst (v := nI 3) hx hb dL_ofShot_313 (by decide) ?_
    refine rn_icmp_ge (a := 2) (b := 3) (tgt := 358) hx hb (by omega) (by omega) dL_ofShot_314 (by decide) (fun c_14 => absurd c_14 (by omega)) (fun c_14 => ?_)
    refine lv_iload hx hb dL_ofShot_317 (lv_at hl 1 rfl) ?_
    refine (fun (hj : ∀ (H : Heap) (locs : List Loc), va_P E.1 vwCl [(aq, .inl (E.2.1, 13, .inl vq)), (af, .inl (E.2.1, 21, .inl vf)), (ad, .inl (E.2.1, 63, .inl vd)), (aw, .inl (E.2.1, 63, .inl vw)), (al, .inl (E.2.1, 63, .inl vl)), (ar, .inl (E.2.1, 63, .inl vr))] H → va_S A s.heap H locs → W pg l e (rq 3) s m ([.int (nI 5), .int (nI a), .int (nI b), .int x, .ref aq, .ref af, .ref ad, .ref aw, .ref al, .ref ar] : List Value).toArray below meth c H locs 0 0 Q (F0 m 350 ls [.int (if (if (if vd (3 * a + 0) = vd (3 * a + 3 + 0) then nI 1 else nI 0) = 0 then nI 0 else if vd (3 * a + 1) = vd (3 * a + 3 + 1) then nI 1 else nI 0) = 0 then nI 0 else if vd (3 * a + 2) = vd (3 * a + 3 + 2) then nI 1 else nI 0)])) => ?_) ?_
    · refine lv_if_eq (tgt := 349) hx hb dL_ofShot_319 (by decide) (fun c_15 => ?_) (fun c_15 => ?_)
      · refine lv_iconst (v := nI 0) hx hb dL_ofShot_349 (by decide) ?_
        have hj9 := hj _ _ hP hS
        rw [if_pos c_15] at hj9
        exact hj9
      · refine lv_aload hx hb dL_ofShot_322 (lv_at hl 9 rfl) ?_
        refine lv_iconst (v := nI 3) hx hb dL_ofShot_324 (by decide) ?_
        refine lv_iload_n hx hb dL_ofShot_325 rfl (lv_at hl 4 rfl) ?_
        refine rn_mul (a := 3) (b := a) hx hb dL_ofShot_326 ?_
        refine lv_iload hx hb dL_ofShot_327 (lv_at hl 0 rfl) ?_
        refine rn_add (a := 3 * a) (b := 2) hx hb dL_ofShot_329 ?_
        refine rn_iald (i := 3 * a + 2) hx hb hK hP 2 0 rfl rfl (by omega) (by omega) dL_ofShot_330 ?_
        refine lv_aload hx hb dL_ofShot_331 (lv_at hl 9 rfl) ?_
        refine lv_iconst (v := nI 3) hx hb dL_ofShot_333 (by decide) ?_
        refine lv_iload_n hx hb dL_ofShot_334 rfl (lv_at hl 4 rfl) ?_
        refine rn_mul (a := 3) (b := a) hx hb dL_ofShot_335 ?_
        refine lv_iconst (v := nI 3) hx hb dL_ofShot_336 (by decide) ?_
        refine rn_add (a := 3 * a) (b := 3) hx hb dL_ofShot_337 ?_
        refine lv_iload hx hb dL_ofShot_338 (lv_at hl 0 rfl) ?_
        refine rn_add (a := 3 * a + 3) (b := 2) hx hb dL_ofShot_340 ?_
        refine rn_iald (i := 3 * a + 3 + 2) hx hb hK hP 2 0 rfl rfl (by omega) (by omega) dL_ofShot_341 ?_
        refine lv_icmp_ne (tgt := 349) hx hb dL_ofShot_342 (by decide) (fun c_16 => ?_) (fun c_16 => ?_)
        · refine lv_iconst (v := nI 0) hx hb dL_ofShot_349 (by decide) ?_
          have hj9 := hj _ _ hP hS
          rw [if_neg c_15, if_neg c_16] at hj9
          exact hj9
        · refine lv_iconst (v := nI 1) hx hb dL_ofShot_345 (by decide) ?_
          refine lv_goto (tgt := 350) hx hb dL_ofShot_346 (by decide) ?_
          have hj9 := hj _ _ hP hS
          rw [if_neg c_15, if_pos c_16] at hj9
          exact hj9
    intro H locs hP hS
    refine lv_istore (lv' := [(11, .int (if (if (if vd (3 * a + 0) = vd (3 * a + 3 + 0) then nI 1 else nI 0) = 0 then nI 0 else if vd (3 * a + 1) = vd (3 * a + 3 + 1) then nI 1 else nI 0) = 0 then nI 0 else if vd (3 * a + 2) = vd (3 * a + 3 + 2) then nI 1 else nI 0)), (12, .int (nI 2)), (10, .int (nI 0)), (0, .int (nI 5)), (1, .int (nI a)), (2, .int (nI b)), (3, .int x), (4, .ref aq), (5, .ref af), (6, .ref ad), (7, .ref aw), (8, .ref al), (9, .ref ar)]) hx hb dL_ofShot_350 hl (by decide) rfl (fun ls hl => ?_)
    refine rn_inc (a := 2) (d := 1) (lv' := [(12, .int (nI 3)), (11, .int (if (if (if vd (3 * a + 0) = vd (3 * a + 3 + 0) then nI 1 else nI 0) = 0 then nI 0 else if vd (3 * a + 1) = vd (3 * a + 3 + 1) then nI 1 else nI 0) = 0 then nI 0 else if vd (3 * a + 2) = vd (3 * a + 3 + 2) then nI 1 else nI 0)), (10, .int (nI 0)), (0, .int (nI 5)), (1, .int (nI a)), (2, .int (nI b)), (3, .int x), (4, .ref aq), (5, .ref af), (6, .ref ad), (7, .ref aw), (8, .ref al), (9, .ref ar)]) hx hb dL_ofShot_352 hl (k := 1) rfl (by decide) (by decide) rfl (fun ls hl => ?_)
    refine lv_goto (tgt := 311) hx hb dL_ofShot_355 (by decide) ?_
    refine lv_iload hx hb dL_ofShot_311 (lv_at hl 0 rfl) ?_
    refine lv_iconst (v := nI 3) hx hb dL_ofShot_313 (by decide) ?_
    refine rn_icmp_ge (a := 3) (b := 3) (tgt := 358) hx hb (by omega) (by omega) dL_ofShot_314 (by decide) (fun c_17 => ?_) (fun c_17 => absurd c_17 (by omega))
    refine lv_iload hx hb dL_ofShot_358 (lv_at hl 1 rfl) ?_
    refine lv_if_eq (tgt := 379) hx hb dL_ofShot_360 (by decide) (fun c_18 => ?_) (fun c_18 => ?_)
    · refine lv_bipush (v := (-5)) hx hb dL_ofShot_379 (by decide) ?_
      exact hret _ _ _ _ _ _ (by rw [s5V, if_neg c_8, if_pos c_18]) (by rw [show s5Q vq vf vd vw vl vr n a b x = vq from by rw [s5Q, if_neg c_8, if_pos c_18], show s5F vq vf vd vw vl vr n a b x = vf from by rw [s5F, if_neg c_8, if_pos c_18], show s5D vq vf vd vw vl vr n a b x = vd from by rw [s5D, if_neg c_8, if_pos c_18], show s5W vq vf vd vw vl vr n a b x = vw from by rw [s5W, if_neg c_8, if_pos c_18], show s5L vq vf vd vw vl vr n a b x = vl from by rw [s5L, if_neg c_8, if_pos c_18], show s5R vq vf vd vw vl vr n a b x = vr from by rw [s5R, if_neg c_8, if_pos c_18]]) rfl hP hS dL_ofShot_381
    · refine lv_aload hx hb dL_ofShot_363 (lv_at hl 8 rfl) ?_
      refine lv_iload_n hx hb dL_ofShot_365 rfl (lv_at hl 4 rfl) ?_
      refine rn_iald (i := a) hx hb hK hP 1 0 rfl rfl (by omega) (by omega) dL_ofShot_366 ?_
      refine lv_aload hx hb dL_ofShot_367 (lv_at hl 8 rfl) ?_
      refine lv_iload_n hx hb dL_ofShot_369 rfl (lv_at hl 4 rfl) ?_
      refine lv_iconst (v := nI 1) hx hb dL_ofShot_370 (by decide) ?_
      refine rn_add (a := a) (b := 1) hx hb dL_ofShot_371 ?_
      refine rn_iald (i := a + 1) hx hb hK hP 1 0 rfl rfl (by omega) (by omega) dL_ofShot_372 ?_
      refine lv_iadd hx hb dL_ofShot_373 ?_
      refine lv_bipush (v := nI 99) hx hb dL_ofShot_374 (by decide) ?_
      refine lv_icmp_le (tgt := 382) hx hb dL_ofShot_376 (by decide) (fun c_19 => ?_) (fun c_19 => ?_)
      · refine lv_aload hx hb dL_ofShot_382 (lv_at hl 8 rfl) ?_
        refine lv_iload_n hx hb dL_ofShot_384 rfl (lv_at hl 4 rfl) ?_
        refine lv_iconst (v := nI 1) hx hb dL_ofShot_385 (by decide) ?_
        refine rn_add (a := a) (b := 1) hx hb dL_ofShot_386 ?_
        refine lv_dup2_11 hx hb dL_ofShot_387 rfl rfl ?_
        refine rn_iald (i := a + 1) hx hb hK hP 1 0 rfl rfl (by omega) (by omega) dL_ofShot_388 ?_
        refine lv_aload hx hb dL_ofShot_389 (lv_at hl 8 rfl) ?_
        refine lv_iload_n hx hb dL_ofShot_391 rfl (lv_at hl 4 rfl) ?_
        refine rn_iald (i := a) hx hb hK hP 1 0 rfl rfl (by omega) (by omega) dL_ofShot_392 ?_
        refine lv_iadd hx hb dL_ofShot_393 ?_
        refine rn_iast (i := a + 1) hx hb hK hP (hDa.to rfl) hS 1 0 rfl rfl (by omega) (by omega) dL_ofShot_394 (fun H locs hP _ hS => ?_)
        have hP : va_P E.1 vwCl [(aq, .inl (E.2.1, 13, .inl vq)), (af, .inl (E.2.1, 21, .inl (upd vf (a + 1) (vf (a + 1) + (vf a))))), (ad, .inl (E.2.1, 63, .inl vd)), (aw, .inl (E.2.1, 63, .inl vw)), (al, .inl (E.2.1, 63, .inl vl)), (ar, .inl (E.2.1, 63, .inl vr))] H := hP
        refine lv_aload hx hb dL_ofShot_395 (lv_at hl 8 rfl) ?_
        refine lv_iload_n hx hb dL_ofShot_397 rfl (lv_at hl 4 rfl) ?_
        refine lv_iconst (v := nI 1) hx hb dL_ofShot_398 (by decide) ?_
        refine rn_add (a := a) (b := 1) hx hb dL_ofShot_399 ?_
        refine rn_iald (i := a + 1) hx hb hK hP 1 0 rfl rfl (by omega) (by omega) dL_ofShot_400 ?_
        refine lv_istore (lv' := [(12, .int ((upd vf (a + 1) (vf (a + 1) + (vf a))) (a + 1))), (11, .int (if (if (if vd (3 * a + 0) = vd (3 * a + 3 + 0) then nI 1 else nI 0) = 0 then nI 0 else if vd (3 * a + 1) = vd (3 * a + 3 + 1) then nI 1 else nI 0) = 0 then nI 0 else if vd (3 * a + 2) = vd (3 * a + 3 + 2) then nI 1 else nI 0)), (10, .int (nI 0)), (0, .int (nI 5)), (1, .int (nI a)), (2, .int (nI b)), (3, .int x), (4, .ref aq), (5, .ref af), (6, .ref ad), (7, .ref aw), (8, .ref al), (9, .ref ar)]) hx hb dL_ofShot_401 hl (by decide) rfl (fun ls hl => ?_)
        refine lv_iload_n hx hb dL_ofShot_403 rfl (lv_at hl 4 rfl) ?_
        refine lv_iconst (v := nI 1) hx hb dL_ofShot_404 (by decide) ?_
        refine rn_add (a := a) (b := 1) hx hb dL_ofShot_405 ?_
        refine lv_iconst (v := (-1)) hx hb dL_ofShot_406 (by decide) ?_
        refine lv_aload hx hb dL_ofShot_407 (lv_at hl 7 rfl) ?_
        refine lv_aload hx hb dL_ofShot_409 (lv_at hl 8 rfl) ?_
        refine lv_aload hx hb dL_ofShot_411 (lv_at hl 9 rfl) ?_
        refine lv_aload hx hb dL_ofShot_413 (lv_at hl 10 rfl) ?_
        refine lv_aload hx hb dL_ofShot_415 (lv_at hl 11 rfl) ?_
        refine lv_aload hx hb dL_ofShot_417 (lv_at hl 12 rfl) ?_
        refine rwSv8 (rest := []) S (c_L_shift_d l E (a + 1) aq af ad aw al ar vq (upd vf (a + 1) (vf (a + 1) + (vf a))) vd vw vl vr n hf hn (by omega)) cd_L_shift bw_380 ⟨Nat.le_of_ble_eq_true rfl, Nat.le_of_ble_eq_true rfl⟩ ⟨Nat.zero_le _, Nat.zero_le _⟩ hP (hDa.to rfl) hE hA hS [0, 1, 2, 3, 4, 5] rfl rfl [aq, af, ad, aw, al, ar] rfl rfl (Nat.le_of_ble_eq_true rfl) hl.1 dL_ofShot_419 (fun H locs hP _ hS => ?_)
        have hP : va_P E.1 vwCl [(aq, .inl (E.2.1, 13, .inl (upd vq 4 (nI (n - 1))))), (af, .inl (E.2.1, 21, .inl (sd1 (upd vf (a + 1) (vf (a + 1) + (vf a))) (a + 1) (n - 1)))), (ad, .inl (E.2.1, 63, .inl (sd3 vd (a + 1) (n - 1)))), (aw, .inl (E.2.1, 63, .inl (sd3 vw (a + 1) (n - 1)))), (al, .inl (E.2.1, 63, .inl (sd3 vl (a + 1) (n - 1)))), (ar, .inl (E.2.1, 63, .inl (sd3 vr (a + 1) (n - 1))))] H := hP
        refine lv_aload hx hb dL_ofShot_422 (lv_at hl 8 rfl) ?_
        refine lv_iload_n hx hb dL_ofShot_424 rfl (lv_at hl 4 rfl) ?_
        refine lv_iload hx hb dL_ofShot_425 (lv_at hl 0 rfl) ?_
        refine rn_iast (i := a) hx hb hK hP (hDa.to rfl) hS 1 0 rfl rfl (by omega) (by omega) dL_ofShot_427 (fun H locs hP _ hS => ?_)
        have hP : va_P E.1 vwCl [(aq, .inl (E.2.1, 13, .inl (upd vq 4 (nI (n - 1))))), (af, .inl (E.2.1, 21, .inl (upd (sd1 (upd vf (a + 1) (vf (a + 1) + (vf a))) (a + 1) (n - 1)) a ((upd vf (a + 1) (vf (a + 1) + (vf a))) (a + 1))))), (ad, .inl (E.2.1, 63, .inl (sd3 vd (a + 1) (n - 1)))), (aw, .inl (E.2.1, 63, .inl (sd3 vw (a + 1) (n - 1)))), (al, .inl (E.2.1, 63, .inl (sd3 vl (a + 1) (n - 1)))), (ar, .inl (E.2.1, 63, .inl (sd3 vr (a + 1) (n - 1))))] H := hP
        refine lv_iload_n hx hb dL_ofShot_428 rfl (lv_at hl 4 rfl) ?_
        refine lv_aload hx hb dL_ofShot_429 (lv_at hl 12 rfl) ?_
        refine rwSv2 (rest := []) S (c_L_forget l E a ar (sd3 vr (a + 1) (n - 1)) (by omega)) cd_L_forget bw_386 ⟨Nat.le_of_ble_eq_true rfl, Nat.le_of_ble_eq_true rfl⟩ ⟨Nat.zero_le _, Nat.zero_le _⟩ hP (hDa.to rfl) hE hA hS [5] rfl rfl [ar] rfl rfl (Nat.le_of_ble_eq_true rfl) hl.1 dL_ofShot_431 (fun H locs hP _ hS => ?_)
        have hP : va_P E.1 vwCl [(aq, .inl (E.2.1, 13, .inl (upd vq 4 (nI (n - 1))))), (af, .inl (E.2.1, 21, .inl (upd (sd1 (upd vf (a + 1) (vf (a + 1) + (vf a))) (a + 1) (n - 1)) a ((upd vf (a + 1) (vf (a + 1) + (vf a))) (a + 1))))), (ad, .inl (E.2.1, 63, .inl (sd3 vd (a + 1) (n - 1)))), (aw, .inl (E.2.1, 63, .inl (sd3 vw (a + 1) (n - 1)))), (al, .inl (E.2.1, 63, .inl (sd3 vl (a + 1) (n - 1)))), (ar, .inl (E.2.1, 63, .inl (fo3 (sd3 vr (a + 1) (n - 1)) a)))] H := hP
        refine lv_iload hx hb dL_ofShot_434 (lv_at hl 0 rfl) ?_
        exact hret _ _ _ _ _ _ (by rw [s5V, if_neg c_8, if_neg c_18, if_pos c_19]) (by rw [show s5Q vq vf vd vw vl vr n a b x = upd vq 4 (nI (n - 1)) from by rw [s5Q, if_neg c_8, if_neg c_18, if_pos c_19], show s5F vq vf vd vw vl vr n a b x = upd (sd1 (upd vf (a + 1) (vf (a + 1) + (vf a))) (a + 1) (n - 1)) a ((upd vf (a + 1) (vf (a + 1) + (vf a))) (a + 1)) from by rw [s5F, if_neg c_8, if_neg c_18, if_pos c_19], show s5D vq vf vd vw vl vr n a b x = sd3 vd (a + 1) (n - 1) from by rw [s5D, if_neg c_8, if_neg c_18, if_pos c_19], show s5W vq vf vd vw vl vr n a b x = sd3 vw (a + 1) (n - 1) from by rw [s5W, if_neg c_8, if_neg c_18, if_pos c_19], show s5L vq vf vd vw vl vr n a b x = sd3 vl (a + 1) (n - 1) from by rw [s5L, if_neg c_8, if_neg c_18, if_pos c_19], show s5R vq vf vd vw vl vr n a b x = fo3 (sd3 vr (a + 1) (n - 1)) a from by rw [s5R, if_neg c_8, if_neg c_18, if_pos c_19]]) rfl hP hS dL_ofShot_436
      · refine lv_bipush (v := (-5)) hx hb dL_ofShot_379 (by decide) ?_
        exact hret _ _ _ _ _ _ (by rw [s5V, if_neg c_8, if_neg c_18, if_neg c_19]) (by rw [show s5Q vq vf vd vw vl vr n a b x = vq from by rw [s5Q, if_neg c_8, if_neg c_18, if_neg c_19], show s5F vq vf vd vw vl vr n a b x = vf from by rw [s5F, if_neg c_8, if_neg c_18, if_neg c_19], show s5D vq vf vd vw vl vr n a b x = vd from by rw [s5D, if_neg c_8, if_neg c_18, if_neg c_19], show s5W vq vf vd vw vl vr n a b x = vw from by rw [s5W, if_neg c_8, if_neg c_18, if_neg c_19], show s5L vq vf vd vw vl vr n a b x = vl from by rw [s5L, if_neg c_8, if_neg c_18, if_neg c_19], show s5R vq vf vd vw vl vr n a b x = vr from by rw [s5R, if_neg c_8, if_neg c_18, if_neg c_19]]) rfl hP hS dL_ofShot_381

