def u9V (vq : Nat → Int32) (vf : Nat → Int32) (vd : Nat → Int32) (vw : Nat → Int32) (vl : Nat → Int32) (vr : Nat → Int32) (n : Nat) (a : Nat) (b : Nat) (x : Int32) : Int32 := nI 0 + ((upd vq 10 (l20 (((vq 7) * (vq 3)) / (nI 100)))) 10) + ((upd (upd vq 10 (l20 (((vq 7) * (vq 3)) / (nI 100)))) 11 (l20 ((((upd vq 10 (l20 (((vq 7) * (vq 3)) / (nI 100)))) 8) * ((upd vq 10 (l20 (((vq 7) * (vq 3)) / (nI 100)))) 3)) / (nI 100)))) 11) + ((upd (upd (upd vq 10 (l20 (((vq 7) * (vq 3)) / (nI 100)))) 11 (l20 ((((upd vq 10 (l20 (((vq 7) * (vq 3)) / (nI 100)))) 8) * ((upd vq 10 (l20 (((vq 7) * (vq 3)) / (nI 100)))) 3)) / (nI 100)))) 12 (l20 ((((upd (upd vq 10 (l20 (((vq 7) * (vq 3)) / (nI 100)))) 11 (l20 ((((upd vq 10 (l20 (((vq 7) * (vq 3)) / (nI 100)))) 8) * ((upd vq 10 (l20 (((vq 7) * (vq 3)) / (nI 100)))) 3)) / (nI 100)))) 9) * ((upd (upd vq 10 (l20 (((vq 7) * (vq 3)) / (nI 100)))) 11 (l20 ((((upd vq 10 (l20 (((vq 7) * (vq 3)) / (nI 100)))) 8) * ((upd vq 10 (l20 (((vq 7) * (vq 3)) / (nI 100)))) 3)) / (nI 100)))) 3)) / (nI 100)))) 12)
def u9Q (vq : Nat → Int32) (vf : Nat → Int32) (vd : Nat → Int32) (vw : Nat → Int32) (vl : Nat → Int32) (vr : Nat → Int32) (n : Nat) (a : Nat) (b : Nat) (x : Int32) : Nat → Int32 := upd (upd (upd vq 10 (l20 (((vq 7) * (vq 3)) / (nI 100)))) 11 (l20 ((((upd vq 10 (l20 (((vq 7) * (vq 3)) / (nI 100)))) 8) * ((upd vq 10 (l20 (((vq 7) * (vq 3)) / (nI 100)))) 3)) / (nI 100)))) 12 (l20 ((((upd (upd vq 10 (l20 (((vq 7) * (vq 3)) / (nI 100)))) 11 (l20 ((((upd vq 10 (l20 (((vq 7) * (vq 3)) / (nI 100)))) 8) * ((upd vq 10 (l20 (((vq 7) * (vq 3)) / (nI 100)))) 3)) / (nI 100)))) 9) * ((upd (upd vq 10 (l20 (((vq 7) * (vq 3)) / (nI 100)))) 11 (l20 ((((upd vq 10 (l20 (((vq 7) * (vq 3)) / (nI 100)))) 8) * ((upd vq 10 (l20 (((vq 7) * (vq 3)) / (nI 100)))) 3)) / (nI 100)))) 3)) / (nI 100)))
def u9F (vq : Nat → Int32) (vf : Nat → Int32) (vd : Nat → Int32) (vw : Nat → Int32) (vl : Nat → Int32) (vr : Nat → Int32) (n : Nat) (a : Nat) (b : Nat) (x : Int32) : Nat → Int32 := vf
def u9D (vq : Nat → Int32) (vf : Nat → Int32) (vd : Nat → Int32) (vw : Nat → Int32) (vl : Nat → Int32) (vr : Nat → Int32) (n : Nat) (a : Nat) (b : Nat) (x : Int32) : Nat → Int32 := vd
def u9W (vq : Nat → Int32) (vf : Nat → Int32) (vd : Nat → Int32) (vw : Nat → Int32) (vl : Nat → Int32) (vr : Nat → Int32) (n : Nat) (a : Nat) (b : Nat) (x : Int32) : Nat → Int32 := vw
def u9L (vq : Nat → Int32) (vf : Nat → Int32) (vd : Nat → Int32) (vw : Nat → Int32) (vl : Nat → Int32) (vr : Nat → Int32) (n : Nat) (a : Nat) (b : Nat) (x : Int32) : Nat → Int32 := vl
def u9R (vq : Nat → Int32) (vf : Nat → Int32) (vd : Nat → Int32) (vw : Nat → Int32) (vl : Nat → Int32) (vr : Nat → Int32) (n : Nat) (a : Nat) (b : Nat) (x : Int32) : Nat → Int32 := vr
set_option maxHeartbeats 4000000 in
set_option maxRecDepth 100000 in
theorem c_L_due_9 (l : Launch) (E : EV) (a : Nat) (b : Nat) (x : Int32) (aq : Nat) (af : Nat) (ad : Nat) (aw : Nat) (al : Nat) (ar : Nat) (vq : Nat → Int32) (vf : Nat → Int32) (vd : Nat → Int32) (vw : Nat → Int32) (vl : Nat → Int32) (vr : Nat → Int32) (n : Nat) (hf : vq 4 = nI n) (hn : n ≤ 20) (ha9 : a < 21) : rcI l E yL_due cL_due 13 .int 4 [.int (nI 9), .int (nI a), .int (nI b), .int x, .ref aq, .ref af, .ref ad, .ref aw, .ref al, .ref ar] [(aq, .inl (E.2.1, 13, .inl vq)), (af, .inl (E.2.1, 21, .inl vf)), (ad, .inl (E.2.1, 63, .inl vd)), (aw, .inl (E.2.1, 63, .inl vw)), (al, .inl (E.2.1, 63, .inl vl)), (ar, .inl (E.2.1, 63, .inl vr))] (u9V vq vf vd vw vl vr n a b x) [(aq, .inl (E.2.1, 13, .inl (u9Q vq vf vd vw vl vr n a b x))), (af, .inl (E.2.1, 21, .inl (u9F vq vf vd vw vl vr n a b x))), (ad, .inl (E.2.1, 63, .inl (u9D vq vf vd vw vl vr n a b x))), (aw, .inl (E.2.1, 63, .inl (u9W vq vf vd vw vl vr n a b x))), (al, .inl (E.2.1, 63, .inl (u9L vq vf vd vw vl vr n a b x))), (ar, .inl (E.2.1, 63, .inl (u9R vq vf vd vw vl vr n a b x)))] := by
  refine rcI_of (by decide) (Nat.le_of_ble_eq_true rfl) ?_
  intro pg e s m below meth c Q A ls S hP hD0 hE hA hl hret
  have hx := S.1
  have hb := S.2.1
  have hown := S.2.2.2.1
  have hts := S.2.2.2.2
  have hK := hE.1
  have hS : va_S A s.heap s.heap [] := va_S.rf
  have hDa : va_Da A [aq, af, ad, aw, al, ar] := ⟨_, hD0, rfl⟩
  have hl : lv_has ls 13 [(0, .int (nI 9)), (1, .int (nI a)), (2, .int (nI b)), (3, .int x), (4, .ref aq), (5, .ref af), (6, .ref ad), (7, .ref aw), (8, .ref al), (9, .ref ar)] := hl
  refine lv_iload_n hx hb dL_due_0 rfl (lv_at hl 0 rfl) ?_
  refine lv_if_ne (tgt := 135) hx hb dL_due_1 (by decide) (fun _ => ?_) (fun c9 => by first | exact absurd (by decide) c9 | exact absurd c9 (by decide))
  refine lv_iload_n hx hb dL_due_135 rfl (lv_at hl 0 rfl) ?_
  refine lv_bipush (v := nI 6) hx hb dL_due_136 (by decide) ?_
  refine rn_icmp_lt (a := 9) (b := 6) (tgt := 153) hx hb (by omega) (by omega) dL_due_138 (by decide) (fun c_1 => absurd c_1 (by omega)) (fun c_1 => ?_)
  refine lv_iload_n hx hb dL_due_141 rfl (lv_at hl 0 rfl) ?_
  refine lv_bipush (v := nI 7) hx hb dL_due_142 (by decide) ?_
  refine rn_icmp_eq (a := 9) (b := 7) (tgt := 153) hx hb (by omega) (by omega) dL_due_144 (by decide) (fun c_2 => absurd c_2 (by omega)) (fun c_2 => ?_)
  refine lv_iload_n hx hb dL_due_147 rfl (lv_at hl 0 rfl) ?_
  refine lv_bipush (v := nI 12) hx hb dL_due_148 (by decide) ?_
  refine rn_icmp_ne (a := 9) (b := 12) (tgt := 185) hx hb (by omega) (by omega) dL_due_150 (by decide) (fun c_3 => ?_) (fun c_3 => absurd c_3 (by omega))
  refine lv_iconst (v := nI 0) hx hb dL_due_185 (by decide) ?_
  refine lv_istore (lv' := [(10, .int (nI 0)), (0, .int (nI 9)), (1, .int (nI a)), (2, .int (nI b)), (3, .int x), (4, .ref aq), (5, .ref af), (6, .ref ad), (7, .ref aw), (8, .ref al), (9, .ref ar)]) hx hb dL_due_186 hl (by decide) rfl (fun ls hl => ?_)
  refine lv_iload_n hx hb dL_due_188 rfl (lv_at hl 1 rfl) ?_
  refine lv_bipush (v := nI 6) hx hb dL_due_189 (by decide) ?_
  refine rn_icmp_ne (a := 9) (b := 6) (tgt := 222) hx hb (by omega) (by omega) dL_due_191 (by decide) (fun c_4 => ?_) (fun c_4 => absurd c_4 (by omega))
  refine lv_iload_n hx hb dL_due_222 rfl (lv_at hl 1 rfl) ?_
  refine lv_bipush (v := nI 8) hx hb dL_due_223 (by decide) ?_
  refine rn_icmp_ne (a := 9) (b := 8) (tgt := 289) hx hb (by omega) (by omega) dL_due_225 (by decide) (fun c_5 => ?_) (fun c_5 => absurd c_5 (by omega))
  refine lv_iload_n hx hb dL_due_289 rfl (lv_at hl 1 rfl) ?_
  refine lv_bipush (v := nI 9) hx hb dL_due_290 (by decide) ?_
  refine rn_icmp_ne (a := 9) (b := 9) (tgt := 366) hx hb (by omega) (by omega) dL_due_292 (by decide) (fun c_6 => absurd c_6 (by omega)) (fun c_6 => ?_)
  refine lv_iconst (v := nI 0) hx hb dL_due_295 (by decide) ?_
  refine lv_istore (lv' := [(11, .int (nI 0)), (10, .int (nI 0)), (0, .int (nI 9)), (1, .int (nI a)), (2, .int (nI b)), (3, .int x), (4, .ref aq), (5, .ref af), (6, .ref ad), (7, .ref aw), (8, .ref al), (9, .ref ar)]) hx hb dL_due_296 hl (by decide) rfl (fun ls hl => ?_)
  refine lv_iload hx hb dL_due_298 (lv_at hl 0 rfl) ?_
  refine lv_iconst (v := nI 3) hx hb dL_due_300 (by decide) ?_
  refine rn_icmp_ge (a := 0) (b := 3) (tgt := 363) hx hb (by omega) (by omega) dL_due_301 (by decide) (fun c_7 => absurd c_7 (by omega)) (fun c_7 => ?_)
  refine lv_aload hx hb dL_due_304 (lv_at hl 6 rfl) ?_
  refine lv_bipush (v := nI 7) hx hb dL_due_306 (by decide) ?_
  refine lv_iload hx hb dL_due_308 (lv_at hl 0 rfl) ?_
  refine rn_add (a := 7) (b := 0) hx hb dL_due_310 ?_
  refine rn_iald (i := 7) hx hb hK hP 0 0 rfl rfl (by omega) (by omega) dL_due_311 ?_
  refine lv_aload hx hb dL_due_312 (lv_at hl 6 rfl) ?_
  refine lv_iconst (v := nI 3) hx hb dL_due_314 (by decide) ?_
  refine rn_iald (i := 3) hx hb hK hP 0 0 rfl rfl (by omega) (by omega) dL_due_315 ?_
  refine lv_imul hx hb dL_due_316 ?_
  refine lv_bipush (v := nI 100) hx hb dL_due_317 (by decide) ?_
  refine lv_idiv hx hb dL_due_319 (by decide) ?_
  refine lv_istore (lv' := [(12, .int (((vq 7) * (vq 3)) / (nI 100))), (11, .int (nI 0)), (10, .int (nI 0)), (0, .int (nI 9)), (1, .int (nI a)), (2, .int (nI b)), (3, .int x), (4, .ref aq), (5, .ref af), (6, .ref ad), (7, .ref aw), (8, .ref al), (9, .ref ar)]) hx hb dL_due_320 hl (by decide) rfl (fun ls hl => ?_)
  refine lv_aload hx hb dL_due_322 (lv_at hl 7 rfl) ?_
  refine lv_bipush (v := nI 10) hx hb dL_due_324 (by decide) ?_
  refine lv_iload hx hb dL_due_326 (lv_at hl 1 rfl) ?_
  refine rn_add (a := 10) (b := 0) hx hb dL_due_328 ?_
  refine lv_iload hx hb dL_due_329 (lv_at hl 0 rfl) ?_
  refine lv_bipush (v := nI 20) hx hb dL_due_331 (by decide) ?_
  refine (fun (hj : ∀ (H : Heap) (locs : List Loc), va_P E.1 vwCl [(aq, .inl (E.2.1, 13, .inl vq)), (af, .inl (E.2.1, 21, .inl vf)), (ad, .inl (E.2.1, 63, .inl vd)), (aw, .inl (E.2.1, 63, .inl vw)), (al, .inl (E.2.1, 63, .inl vl)), (ar, .inl (E.2.1, 63, .inl vr))] H → va_S A s.heap H locs → W pg l e (rq 4) s m ([.int (nI 9), .int (nI a), .int (nI b), .int x, .ref aq, .ref af, .ref ad, .ref aw, .ref al, .ref ar] : List Value).toArray below meth c H locs 0 0 Q (F0 m 343 ls [.int (if ((vq 7) * (vq 3)) / (nI 100) ≤ nI 20 then ((vq 7) * (vq 3)) / (nI 100) else nI 20), .int (nI 10), .ref aq])) => ?_) ?_
  · refine lv_icmp_le (tgt := 341) hx hb dL_due_333 (by decide) (fun c_8 => ?_) (fun c_8 => ?_)
    · refine lv_iload hx hb dL_due_341 (lv_at hl 0 rfl) ?_
      have hj9 := hj _ _ hP hS
      rw [if_pos c_8] at hj9
      exact hj9
    · refine lv_bipush (v := nI 20) hx hb dL_due_336 (by decide) ?_
      refine lv_goto (tgt := 343) hx hb dL_due_338 (by decide) ?_
      have hj9 := hj _ _ hP hS
      rw [if_neg c_8] at hj9
      exact hj9
  intro H locs hP hS
  refine W.eq (congrArg (fun z9 => F0 m 343 ls (.int z9 :: [.int (nI 10), .ref aq])) (show (if ((vq 7) * (vq 3)) / (nI 100) ≤ nI 20 then ((vq 7) * (vq 3)) / (nI 100) else nI 20) = l20 (((vq 7) * (vq 3)) / (nI 100)) from rfl)) ?_
  refine rn_iast (i := 10) hx hb hK hP (hDa.to rfl) hS 0 0 rfl rfl (by omega) (by omega) dL_due_343 (fun H locs hP _ hS => ?_)
  have hP : va_P E.1 vwCl [(aq, .inl (E.2.1, 13, .inl (upd vq 10 (l20 (((vq 7) * (vq 3)) / (nI 100)))))), (af, .inl (E.2.1, 21, .inl vf)), (ad, .inl (E.2.1, 63, .inl vd)), (aw, .inl (E.2.1, 63, .inl vw)), (al, .inl (E.2.1, 63, .inl vl)), (ar, .inl (E.2.1, 63, .inl vr))] H := hP
  refine lv_iload hx hb dL_due_344 (lv_at hl 2 rfl) ?_
  refine lv_aload hx hb dL_due_346 (lv_at hl 7 rfl) ?_
  refine lv_bipush (v := nI 10) hx hb dL_due_348 (by decide) ?_
  refine lv_iload hx hb dL_due_350 (lv_at hl 1 rfl) ?_
  refine rn_add (a := 10) (b := 0) hx hb dL_due_352 ?_
  refine rn_iald (i := 10) hx hb hK hP 0 0 rfl rfl (by omega) (by omega) dL_due_353 ?_
  refine lv_iadd hx hb dL_due_354 ?_
  refine lv_istore (lv' := [(10, .int (nI 0 + ((upd vq 10 (l20 (((vq 7) * (vq 3)) / (nI 100)))) 10))), (12, .int (((vq 7) * (vq 3)) / (nI 100))), (11, .int (nI 0)), (0, .int (nI 9)), (1, .int (nI a)), (2, .int (nI b)), (3, .int x), (4, .ref aq), (5, .ref af), (6, .ref ad), (7, .ref aw), (8, .ref al), (9, .ref ar)]) hx hb dL_due_355 hl (by decide) rfl (fun ls hl => ?_)
  refine rn_inc (a := 0) (d := 1) (lv' := [(11, .int (nI 1)), (10, .int (nI 0 + ((upd vq 10 (l20 (((vq 7) * (vq 3)) / (nI 100)))) 10))), (12, .int (((vq 7) * (vq 3)) / (nI 100))), (0, .int (nI 9)), (1, .int (nI a)), (2, .int (nI b)), (3, .int x), (4, .ref aq), (5, .ref af), (6, .ref ad), (7, .ref aw), (8, .ref al), (9, .ref ar)]) hx hb dL_due_357 hl (k := 2) rfl (by decide) (by decide) rfl (fun ls hl => ?_)
  refine lv_goto (tgt := 298) hx hb dL_due_360 (by decide) ?_
  refine lv_iload hx hb dL_due_298 (lv_at hl 0 rfl) ?_
  refine lv_iconst (v := nI 3) hx hb dL_due_300 (by decide) ?_
  refine rn_icmp_ge (a := 1) (b := 3) (tgt := 363) hx hb (by omega) (by omega) dL_due_301 (by decide) (fun c_9 => absurd c_9 (by omega)) (fun c_9 => ?_)
  refine lv_aload hx hb dL_due_304 (lv_at hl 7 rfl) ?_
  refine lv_bipush (v := nI 7) hx hb dL_due_306 (by decide) ?_
  refine lv_iload hx hb dL_due_308 (lv_at hl 0 rfl) ?_
  refine rn_add (a := 7) (b := 1) hx hb dL_due_310 ?_
  refine rn_iald (i := 8) hx hb hK hP 0 0 rfl rfl (by omega) (by omega) dL_due_311 ?_
  refine lv_aload hx hb dL_due_312 (lv_at hl 7 rfl) ?_
  refine lv_iconst (v := nI 3) hx hb dL_due_314 (by decide) ?_
  refine rn_iald (i := 3) hx hb hK hP 0 0 rfl rfl (by omega) (by omega) dL_due_315 ?_
  refine lv_imul hx hb dL_due_316 ?_
  refine lv_bipush (v := nI 100) hx hb dL_due_317 (by decide) ?_
  refine lv_idiv hx hb dL_due_319 (by decide) ?_
  refine lv_istore (lv' := [(12, .int ((((upd vq 10 (l20 (((vq 7) * (vq 3)) / (nI 100)))) 8) * ((upd vq 10 (l20 (((vq 7) * (vq 3)) / (nI 100)))) 3)) / (nI 100))), (11, .int (nI 1)), (10, .int (nI 0 + ((upd vq 10 (l20 (((vq 7) * (vq 3)) / (nI 100)))) 10))), (0, .int (nI 9)), (1, .int (nI a)), (2, .int (nI b)), (3, .int x), (4, .ref aq), (5, .ref af), (6, .ref ad), (7, .ref aw), (8, .ref al), (9, .ref ar)]) hx hb dL_due_320 hl (by decide) rfl (fun ls hl => ?_)
  refine lv_aload hx hb dL_due_322 (lv_at hl 7 rfl) ?_
  refine lv_bipush (v := nI 10) hx hb dL_due_324 (by decide) ?_
  refine lv_iload hx hb dL_due_326 (lv_at hl 1 rfl) ?_
  refine rn_add (a := 10) (b := 1) hx hb dL_due_328 ?_
  refine lv_iload hx hb dL_due_329 (lv_at hl 0 rfl) ?_
  refine lv_bipush (v := nI 20) hx hb dL_due_331 (by decide) ?_
  refine (fun (hj : ∀ (H : Heap) (locs : List Loc), va_P E.1 vwCl [(aq, .inl (E.2.1, 13, .inl (upd vq 10 (l20 (((vq 7) * (vq 3)) / (nI 100)))))), (af, .inl (E.2.1, 21, .inl vf)), (ad, .inl (E.2.1, 63, .inl vd)), (aw, .inl (E.2.1, 63, .inl vw)), (al, .inl (E.2.1, 63, .inl vl)), (ar, .inl (E.2.1, 63, .inl vr))] H → va_S A s.heap H locs → W pg l e (rq 4) s m ([.int (nI 9), .int (nI a), .int (nI b), .int x, .ref aq, .ref af, .ref ad, .ref aw, .ref al, .ref ar] : List Value).toArray below meth c H locs 0 0 Q (F0 m 343 ls [.int (if (((upd vq 10 (l20 (((vq 7) * (vq 3)) / (nI 100)))) 8) * ((upd vq 10 (l20 (((vq 7) * (vq 3)) / (nI 100)))) 3)) / (nI 100) ≤ nI 20 then (((upd vq 10 (l20 (((vq 7) * (vq 3)) / (nI 100)))) 8) * ((upd vq 10 (l20 (((vq 7) * (vq 3)) / (nI 100)))) 3)) / (nI 100) else nI 20), .int (nI 11), .ref aq])) => ?_) ?_
  · refine lv_icmp_le (tgt := 341) hx hb dL_due_333 (by decide) (fun c_10 => ?_) (fun c_10 => ?_)
    · refine lv_iload hx hb dL_due_341 (lv_at hl 0 rfl) ?_
      have hj9 := hj _ _ hP hS
      rw [if_pos c_10] at hj9
      exact hj9
    · refine lv_bipush (v := nI 20) hx hb dL_due_336 (by decide) ?_
      refine lv_goto (tgt := 343) hx hb dL_due_338 (by decide) ?_
      have hj9 := hj _ _ hP hS
      rw [if_neg c_10] at hj9
      exact hj9
  intro H locs hP hS
  refine W.eq (congrArg (fun z9 => F0 m 343 ls (.int z9 :: [.int (nI 11), .ref aq])) (show (if (((upd vq 10 (l20 (((vq 7) * (vq 3)) / (nI 100)))) 8) * ((upd vq 10 (l20 (((vq 7) * (vq 3)) / (nI 100)))) 3)) / (nI 100) ≤ nI 20 then (((upd vq 10 (l20 (((vq 7) * (vq 3)) / (nI 100)))) 8) * ((upd vq 10 (l20 (((vq 7) * (vq 3)) / (nI 100)))) 3)) / (nI 100) else nI 20) = l20 ((((upd vq 10 (l20 (((vq 7) * (vq 3)) / (nI 100)))) 8) * ((upd vq 10 (l20 (((vq 7) * (vq 3)) / (nI 100)))) 3)) / (nI 100)) from rfl)) ?_
  refine rn_iast (i := 11) hx hb hK hP (hDa.to rfl) hS 0 0 rfl rfl (by omega) (by omega) dL_due_343 (fun H locs hP _ hS => ?_)
  have hP : va_P E.1 vwCl [(aq, .inl (E.2.1, 13, .inl (upd (upd vq 10 (l20 (((vq 7) * (vq 3)) / (nI 100)))) 11 (l20 ((((upd vq 10 (l20 (((vq 7) * (vq 3)) / (nI 100)))) 8) * ((upd vq 10 (l20 (((vq 7) * (vq 3)) / (nI 100)))) 3)) / (nI 100)))))), (af, .inl (E.2.1, 21, .inl vf)), (ad, .inl (E.2.1, 63, .inl vd)), (aw, .inl (E.2.1, 63, .inl vw)), (al, .inl (E.2.1, 63, .inl vl)), (ar, .inl (E.2.1, 63, .inl vr))] H := hP
  refine lv_iload hx hb dL_due_344 (lv_at hl 2 rfl) ?_
  refine lv_aload hx hb dL_due_346 (lv_at hl 7 rfl) ?_
  refine lv_bipush (v := nI 10) hx hb dL_due_348 (by decide) ?_
  refine lv_iload hx hb dL_due_350 (lv_at hl 1 rfl) ?_
  refine rn_add (a := 10) (b := 1) hx hb dL_due_352 ?_
  refine rn_iald (i := 11) hx hb hK hP 0 0 rfl rfl (by omega) (by omega) dL_due_353 ?_
  refine lv_iadd hx hb dL_due_354 ?_
  refine lv_istore (lv' := [(10, .int (nI 0 + ((upd vq 10 (l20 (((vq 7) * (vq 3)) / (nI 100)))) 10) + ((upd (upd vq 10 (l20 (((vq 7) * (vq 3)) / (nI 100)))) 11 (l20 ((((upd vq 10 (l20 (((vq 7) * (vq 3)) / (nI 100)))) 8) * ((upd vq 10 (l20 (((vq 7) * (vq 3)) / (nI 100)))) 3)) / (nI 100)))) 11))), (12, .int ((((upd vq 10 (l20 (((vq 7) * (vq 3)) / (nI 100)))) 8) * ((upd vq 10 (l20 (((vq 7) * (vq 3)) / (nI 100)))) 3)) / (nI 100))), (11, .int (nI 1)), (0, .int (nI 9)), (1, .int (nI a)), (2, .int (nI b)), (3, .int x), (4, .ref aq), (5, .ref af), (6, .ref ad), (7, .ref aw), (8, .ref al), (9, .ref ar)]) hx hb dL_due_355 hl (by decide) rfl (fun ls hl => ?_)
  refine rn_inc (a := 1) (d := 1) (lv' := [(11, .int (nI 2)), (10, .int (nI 0 + ((upd vq 10 (l20 (((vq 7) * (vq 3)) / (nI 100)))) 10) + ((upd (upd vq 10 (l20 (((vq 7) * (vq 3)) / (nI 100)))) 11 (l20 ((((upd vq 10 (l20 (((vq 7) * (vq 3)) / (nI 100)))) 8) * ((upd vq 10 (l20 (((vq 7) * (vq 3)) / (nI 100)))) 3)) / (nI 100)))) 11))), (12, .int ((((upd vq 10 (l20 (((vq 7) * (vq 3)) / (nI 100)))) 8) * ((upd vq 10 (l20 (((vq 7) * (vq 3)) / (nI 100)))) 3)) / (nI 100))), (0, .int (nI 9)), (1, .int (nI a)), (2, .int (nI b)), (3, .int x), (4, .ref aq), (5, .ref af), (6, .ref ad), (7, .ref aw), (8, .ref al), (9, .ref ar)]) hx hb dL_due_357 hl (k := 2) rfl (by decide) (by decide) rfl (fun ls hl => ?_)
  refine lv_goto (tgt := 298) hx hb dL_due_360 (by decide) ?_
  refine lv_iload hx hb dL_due_298 (lv_at hl 0 rfl) ?_
  refine lv_iconst (v := nI 3) hx hb dL_due_300 (by decide) ?_
  refine rn_icmp_ge (a := 2) (b := 3) (tgt := 363) hx hb (by omega) (by omega) dL_due_301 (by decide) (fun c_11 => absurd c_11 (by omega)) (fun c_11 => ?_)
  refine lv_aload hx hb dL_due_304 (lv_at hl 7 rfl) ?_
  refine lv_bipush (v := nI 7) hx hb dL_due_306 (by decide) ?_
  refine lv_iload hx hb dL_due_308 (lv_at hl 0 rfl) ?_
  refine rn_add (a := 7) (b := 2) hx hb dL_due_310 ?_
  refine rn_iald (i := 9) hx hb hK hP 0 0 rfl rfl (by omega) (by omega) dL_due_311 ?_
  refine lv_aload hx hb dL_due_312 (lv_at hl 7 rfl) ?_
  refine lv_iconst (v := nI 3) hx hb dL_due_314 (by decide) ?_
  refine rn_iald (i := 3) hx hb hK hP 0 0 rfl rfl (by omega) (by omega) dL_due_315 ?_
  refine lv_imul hx hb dL_due_316 ?_
  refine lv_bipush (v := nI 100) hx hb dL_due_317 (by decide) ?_
  refine lv_idiv hx hb dL_due_319 (by decide) ?_
  refine lv_istore (lv' := [(12, .int ((((upd (upd vq 10 (l20 (((vq 7) * (vq 3)) / (nI 100)))) 11 (l20 ((((upd vq 10 (l20 (((vq 7) * (vq 3)) / (nI 100)))) 8) * ((upd vq 10 (l20 (((vq 7) * (vq 3)) / (nI 100)))) 3)) / (nI 100)))) 9) * ((upd (upd vq 10 (l20 (((vq 7) * (vq 3)) / (nI 100)))) 11 (l20 ((((upd vq 10 (l20 (((vq 7) * (vq 3)) / (nI 100)))) 8) * ((upd vq 10 (l20 (((vq 7) * (vq 3)) / (nI 100)))) 3)) / (nI 100)))) 3)) / (nI 100))), (11, .int (nI 2)), (10, .int (nI 0 + ((upd vq 10 (l20 (((vq 7) * (vq 3)) / (nI 100)))) 10) + ((upd (upd vq 10 (l20 (((vq 7) * (vq 3)) / (nI 100)))) 11 (l20 ((((upd vq 10 (l20 (((vq 7) * (vq 3)) / (nI 100)))) 8) * ((upd vq 10 (l20 (((vq 7) * (vq 3)) / (nI 100)))) 3)) / (nI 100)))) 11))), (0, .int (nI 9)), (1, .int (nI a)), (2, .int (nI b)), (3, .int x), (4, .ref aq), (5, .ref af), (6, .ref ad), (7, .ref aw), (8, .ref al), (9, .ref ar)]) hx hb dL_due_320 hl (by decide) rfl (fun ls hl => ?_)
  refine lv_aload hx hb dL_due_322 (lv_at hl 7 rfl) ?_
  refine lv_bipush (v := nI 10) hx hb dL_due_324 (by decide) ?_
  refine lv_iload hx hb dL_due_326 (lv_at hl 1 rfl) ?_
  refine rn_add (a := 10) (b := 2) hx hb dL_due_328 ?_
  refine lv_iload hx hb dL_due_329 (lv_at hl 0 rfl) ?_
  refine lv_bipush (v := nI 20) hx hb dL_due_331 (by decide) ?_
  refine (fun (hj : ∀ (H : Heap) (locs : List Loc), va_P E.1 vwCl [(aq, .inl (E.2.1, 13, .inl (upd (upd vq 10 (l20 (((vq 7) * (vq 3)) / (nI 100)))) 11 (l20 ((((upd vq 10 (l20 (((vq 7) * (vq 3)) / (nI 100)))) 8) * ((upd vq 10 (l20 (((vq 7) * (vq 3)) / (nI 100)))) 3)) / (nI 100)))))), (af, .inl (E.2.1, 21, .inl vf)), (ad, .inl (E.2.1, 63, .inl vd)), (aw, .inl (E.2.1, 63, .inl vw)), (al, .inl (E.2.1, 63, .inl vl)), (ar, .inl (E.2.1, 63, .inl vr))] H → va_S A s.heap H locs → W pg l e (rq 4) s m ([.int (nI 9), .int (nI a), .int (nI b), .int x, .ref aq, .ref af, .ref ad, .ref aw, .ref al, .ref ar] : List Value).toArray below meth c H locs 0 0 Q (F0 m 343 ls [.int (if (((upd (upd vq 10 (l20 (((vq 7) * (vq 3)) / (nI 100)))) 11 (l20 ((((upd vq 10 (l20 (((vq 7) * (vq 3)) / (nI 100)))) 8) * ((upd vq 10 (l20 (((vq 7) * (vq 3)) / (nI 100)))) 3)) / (nI 100)))) 9) * ((upd (upd vq 10 (l20 (((vq 7) * (vq 3)) / (nI 100)))) 11 (l20 ((((upd vq 10 (l20 (((vq 7) * (vq 3)) / (nI 100)))) 8) * ((upd vq 10 (l20 (((vq 7) * (vq 3)) / (nI 100)))) 3)) / (nI 100)))) 3)) / (nI 100) ≤ nI 20 then (((upd (upd vq 10 (l20 (((vq 7) * (vq 3)) / (nI 100)))) 11 (l20 ((((upd vq 10 (l20 (((vq 7) * (vq 3)) / (nI 100)))) 8) * ((upd vq 10 (l20 (((vq 7) * (vq 3)) / (nI 100)))) 3)) / (nI 100)))) 9) * ((upd (upd vq 10 (l20 (((vq 7) * (vq 3)) / (nI 100)))) 11 (l20 ((((upd vq 10 (l20 (((vq 7) * (vq 3)) / (nI 100)))) 8) * ((upd vq 10 (l20 (((vq 7) * (vq 3)) / (nI 100)))) 3)) / (nI 100)))) 3)) / (nI 100) else nI 20), .int (nI 12), .ref aq])) => ?_) ?_
  · refine lv_icmp_le (tgt := 341) hx hb dL_due_333 (by decide) (fun c_12 => ?_) (fun c_12 => ?_)
    · refine lv_iload hx hb dL_due_341 (lv_at hl 0 rfl) ?_
      have hj9 := hj _ _ hP hS
      rw [if_pos c_12] at hj9
      exact hj9
    · refine lv_bipush (v := nI 20) hx hb dL_due_336 (by decide) ?_
      refine lv_goto (tgt := 343) hx hb dL_due_338 (by decide) ?_
      have hj9 := hj _ _ hP hS
      rw [if_neg c_12] at hj9
      exact hj9
  intro H locs hP hS
  refine W.eq (congrArg (fun z9 => F0 m 343 ls (.int z9 :: [.int (nI 12), .ref aq])) (show (if (((upd (upd vq 10 (l20 (((vq 7) * (vq 3)) / (nI 100)))) 11 (l20 ((((upd vq 10 (l20 (((vq 7) * (vq 3)) / (nI 100)))) 8) * ((upd vq 10 (l20 (((vq 7) * (vq 3)) / (nI 100)))) 3)) / (nI 100)))) 9) * ((upd (upd vq 10 (l20 (((vq 7) * (vq 3)) / (nI 100)))) 11 (l20 ((((upd vq 10 (l20 (((vq 7) * (vq 3)) / (nI 100)))) 8) * ((upd vq 10 (l20 (((vq 7) * (vq 3)) / (nI 100)))) 3)) / (nI 100)))) 3)) / (nI 100) ≤ nI 20 then (((upd (upd vq 10 (l20 (((vq 7) * (vq 3)) / (nI 100)))) 11 (l20 ((((upd vq 10 (l20 (((vq 7) * (vq 3)) / (nI 100)))) 8) * ((upd vq 10 (l20 (((vq 7) * (vq 3)) / (nI 100)))) 3)) / (nI 100)))) 9) * ((upd (upd vq 10 (l20 (((vq 7) * (vq 3)) / (nI 100)))) 11 (l20 ((((upd vq 10 (l20 (((vq 7) * (vq 3)) / (nI 100)))) 8) * ((upd vq 10 (l20 (((vq 7) * (vq 3)) / (nI 100)))) 3)) / (nI 100)))) 3)) / (nI 100) else nI 20) = l20 ((((upd (upd vq 10 (l20 (((vq 7) * (vq 3)) / (nI 100)))) 11 (l20 ((((upd vq 10 (l20 (((vq 7) * (vq 3)) / (nI 100)))) 8) * ((upd vq 10 (l20 (((vq 7) * (vq 3)) / (nI 100)))) 3)) / (nI 100)))) 9) * ((upd (upd vq 10 (l20 (((vq 7) * (vq 3)) / (nI 100)))) 11 (l20 ((((upd vq 10 (l20 (((vq 7) * (vq 3)) / (nI 100)))) 8) * ((upd vq 10 (l20 (((vq 7) * (vq 3)) / (nI 100)))) 3)) / (nI 100)))) 3)) / (nI 100)) from rfl)) ?_
  refine rn_iast (i := 12) hx hb hK hP (hDa.to rfl) hS 0 0 rfl rfl (by omega) (by omega) dL_due_343 (fun H locs hP _ hS => ?_)
  have hP : va_P E.1 vwCl [(aq, .inl (E.2.1, 13, .inl (upd (upd (upd vq 10 (l20 (((vq 7) * (vq 3)) / (nI 100)))) 11 (l20 ((((upd vq 10 (l20 (((vq 7) * (vq 3)) / (nI 100)))) 8) * ((upd vq 10 (l20 (((vq 7) * (vq 3)) / (nI 100)))) 3)) / (nI 100)))) 12 (l20 ((((upd (upd vq 10 (l20 (((vq 7) * (vq 3)) / (nI 100)))) 11 (l20 ((((upd vq 10 (l20 (((vq 7) * (vq 3)) / (nI 100)))) 8) * ((upd vq 10 (l20 (((vq 7) * (vq 3)) / (nI 100)))) 3)) / (nI 100)))) 9) * ((upd (upd vq 10 (l20 (((vq 7) * (vq 3)) / (nI 100)))) 11 (l20 ((((upd vq 10 (l20 (((vq 7) * (vq 3)) / (nI 100)))) 8) * ((upd vq 10 (l20 (((vq 7) * (vq 3)) / (nI 100)))) 3)) / (nI 100)))) 3)) / (nI 100)))))), (af, .inl (E.2.1, 21, .inl vf)), (ad, .inl (E.2.1, 63, .inl vd)), (aw, .inl (E.2.1, 63, .inl vw)), (al, .inl (E.2.1, 63, .inl vl)), (ar, .inl (E.2.1, 63, .inl vr))] H := hP
  refine lv_iload hx hb dL_due_344 (lv_at hl 2 rfl) ?_
  refine lv_aload hx hb dL_due_346 (lv_at hl 7 rfl) ?_
  refine lv_bipush (v := nI 10) hx hb dL_due_348 (by decide) ?_
  refine lv_iload hx hb dL_due_350 (lv_at hl 1 rfl) ?_
  refine rn_add (a := 10) (b := 2) hx hb dL_due_352 ?_
  refine rn_iald (i := 12) hx hb hK hP 0 0 rfl rfl (by omega) (by omega) dL_due_353 ?_
  refine lv_iadd hx hb dL_due_354 ?_
  refine lv_istore (lv' := [(10, .int (nI 0 + ((upd vq 10 (l20 (((vq 7) * (vq 3)) / (nI 100)))) 10) + ((upd (upd vq 10 (l20 (((vq 7) * (vq 3)) / (nI 100)))) 11 (l20 ((((upd vq 10 (l20 (((vq 7) * (vq 3)) / (nI 100)))) 8) * ((upd vq 10 (l20 (((vq 7) * (vq 3)) / (nI 100)))) 3)) / (nI 100)))) 11) + ((upd (upd (upd vq 10 (l20 (((vq 7) * (vq 3)) / (nI 100)))) 11 (l20 ((((upd vq 10 (l20 (((vq 7) * (vq 3)) / (nI 100)))) 8) * ((upd vq 10 (l20 (((vq 7) * (vq 3)) / (nI 100)))) 3)) / (nI 100)))) 12 (l20 ((((upd (upd vq 10 (l20 (((vq 7) * (vq 3)) / (nI 100)))) 11 (l20 ((((upd vq 10 (l20 (((vq 7) * (vq 3)) / (nI 100)))) 8) * ((upd vq 10 (l20 (((vq 7) * (vq 3)) / (nI 100)))) 3)) / (nI 100)))) 9) * ((upd (upd vq 10 (l20 (((vq 7) * (vq 3)) / (nI 100)))) 11 (l20 ((((upd vq 10 (l20 (((vq 7) * (vq 3)) / (nI 100)))) 8) * ((upd vq 10 (l20 (((vq 7) * (vq 3)) / (nI 100)))) 3)) / (nI 100)))) 3)) / (nI 100)))) 12))), (12, .int ((((upd (upd vq 10 (l20 (((vq 7) * (vq 3)) / (nI 100)))) 11 (l20 ((((upd vq 10 (l20 (((vq 7) * (vq 3)) / (nI 100)))) 8) * ((upd vq 10 (l20 (((vq 7) * (vq 3)) / (nI 100)))) 3)) / (nI 100)))) 9) * ((upd (upd vq 10 (l20 (((vq 7) * (vq 3)) / (nI 100)))) 11 (l20 ((((upd vq 10 (l20 (((vq 7) * (vq 3)) / (nI 100)))) 8) * ((upd vq 10 (l20 (((vq 7) * (vq 3)) / (nI 100)))) 3)) / (nI 100)))) 3)) / (nI 100))), (11, .int (nI 2)), (0, .int (nI 9)), (1, .int (nI a)), (2, .int (nI b)), (3, .int x), (4, .ref aq), (5, .ref af), (6, .ref ad), (7, .ref aw), (8, .ref al), (9, .ref ar)]) hx hb dL_due_355 hl (by decide) rfl (fun ls hl => ?_)
  refine rn_inc (a := 2) (d := 1) (lv' := [(11, .int (nI 3)), (10, .int (nI 0 + ((upd vq 10 (l20 (((vq 7) * (vq 3)) / (nI 100)))) 10) + ((upd (upd vq 10 (l20 (((vq 7) * (vq 3)) / (nI 100)))) 11 (l20 ((((upd vq 10 (l20 (((vq 7) * (vq 3)) / (nI 100)))) 8) * ((upd vq 10 (l20 (((vq 7) * (vq 3)) / (nI 100)))) 3)) / (nI 100)))) 11) + ((upd (upd (upd vq 10 (l20 (((vq 7) * (vq 3)) / (nI 100)))) 11 (l20 ((((upd vq 10 (l20 (((vq 7) * (vq 3)) / (nI 100)))) 8) * ((upd vq 10 (l20 (((vq 7) * (vq 3)) / (nI 100)))) 3)) / (nI 100)))) 12 (l20 ((((upd (upd vq 10 (l20 (((vq 7) * (vq 3)) / (nI 100)))) 11 (l20 ((((upd vq 10 (l20 (((vq 7) * (vq 3)) / (nI 100)))) 8) * ((upd vq 10 (l20 (((vq 7) * (vq 3)) / (nI 100)))) 3)) / (nI 100)))) 9) * ((upd (upd vq 10 (l20 (((vq 7) * (vq 3)) / (nI 100)))) 11 (l20 ((((upd vq 10 (l20 (((vq 7) * (vq 3)) / (nI 100)))) 8) * ((upd vq 10 (l20 (((vq 7) * (vq 3)) / (nI 100)))) 3)) / (nI 100)))) 3)) / (nI 100)))) 12))), (12, .int ((((upd (upd vq 10 (l20 (((vq 7) * (vq 3)) / (nI 100)))) 11 (l20 ((((upd vq 10 (l20 (((vq 7) * (vq 3)) / (nI 100)))) 8) * ((upd vq 10 (l20 (((vq 7) * (vq 3)) / (nI 100)))) 3)) / (nI 100)))) 9) * ((upd (upd vq 10 (l20 (((vq 7) * (vq 3)) / (nI 100)))) 11 (l20 ((((upd vq 10 (l20 (((vq 7) * (vq 3)) / (nI 100)))) 8) * ((upd vq 10 (l20 (((vq 7) * (vq 3)) / (nI 100)))) 3)) / (nI 100)))) 3)) / (nI 100))), (0, .int (nI 9)), (1, .int (nI a)), (2, .int (nI b)), (3, .int x), (4, .ref aq), (5, .ref af), (6, .ref ad), (7, .ref aw), (8, .ref al), (9, .ref ar)]) hx hb dL_due_357 hl (k := 2) rfl (by decide) (by decide) rfl (fun ls hl => ?_)
  refine lv_goto (tgt := 298) hx hb dL_due_360 (by decide) ?_
  refine lv_iload hx hb dL_due_298 (lv_at hl 0 rfl) ?_
  refine lv_iconst (v := nI 3) hx hb dL_due_300 (by decide) ?_
  refine rn_icmp_ge (a := 3) (b := 3) (tgt := 363) hx hb (by omega) (by omega) dL_due_301 (by decide) (fun c_13 => ?_) (fun c_13 => absurd c_13 (by omega))
  refine lv_iload hx hb dL_due_363 (lv_at hl 1 rfl) ?_
  exact hret _ _ _ _ _ _ (by rw [u9V]) (by rw [show u9Q vq vf vd vw vl vr n a b x = upd (upd (upd vq 10 (l20 (((vq 7) * (vq 3)) / (nI 100)))) 11 (l20 ((((upd vq 10 (l20 (((vq 7) * (vq 3)) / (nI 100)))) 8) * ((upd vq 10 (l20 (((vq 7) * (vq 3)) / (nI 100)))) 3)) / (nI 100)))) 12 (l20 ((((upd (upd vq 10 (l20 (((vq 7) * (vq 3)) / (nI 100)))) 11 (l20 ((((upd vq 10 (l20 (((vq 7) * (vq 3)) / (nI 100)))) 8) * ((upd vq 10 (l20 (((vq 7) * (vq 3)) / (nI 100)))) 3)) / (nI 100)))) 9) * ((upd (upd vq 10 (l20 (((vq 7) * (vq 3)) / (nI 100)))) 11 (l20 ((((upd vq 10 (l20 (((vq 7) * (vq 3)) / (nI 100)))) 8) * ((upd vq 10 (l20 (((vq 7) * (vq 3)) / (nI 100)))) 3)) / (nI 100)))) 3)) / (nI 100))) from by rw [u9Q], show u9F vq vf vd vw vl vr n a b x = vf from by rw [u9F], show u9D vq vf vd vw vl vr n a b x = vd from by rw [u9D], show u9W vq vf vd vw vl vr n a b x = vw from by rw [u9W], show u9L vq vf vd vw vl vr n a b x = vl from by rw [u9L], show u9R vq vf vd vw vl vr n a b x = vr from by rw [u9R]]) rfl hP hS dL_due_365

