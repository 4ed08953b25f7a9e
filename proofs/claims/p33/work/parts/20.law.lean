/-! the law's own small functions: lights, prints, answers of its rows -/
/-- what is left of a number, as a place among m -/
def lowN (x : Int32) (m : Nat) : Nat := x.toBitVec.toNat % 2 ^ 31 % m
theorem lowN_lt (x : Int32) {m : Nat} (h : 0 < m) : lowN x m < m := Nat.mod_lt _ h
theorem cd_L_low : cdS yL_low cL_low 2 (some .int) 2 := ⟨⟨bw_142, bw_1, by decide, by decide, by decide +kernel⟩, bw_141⟩
set_option maxHeartbeats 4000000 in
set_option maxRecDepth 100000 in
theorem c_L_low (l : Launch) (E : EV) (x : Int32) (mm : Nat) (hm0 : 0 < mm) (hm : mm < 2 ^ 31) : rcI l E yL_low cL_low 2 .int 0 [.int x, .int (nI mm)] [] (nI (lowN x mm)) [] := by
  refine rcI_of (by decide) (Nat.le_of_ble_eq_true rfl) ?_
  intro pg e s m below meth c Q A ls S hP hD0 hE hA hl hret
  have hx := S.1
  have hb := S.2.1
  have hown := S.2.2.2.1
  have hts := S.2.2.2.2
  have hK := hE.1
  have hS : va_S A s.heap s.heap [] := va_S.rf
  have hDa : va_Da A [] := ⟨_, hD0, rfl⟩
  have hl : lv_has ls 2 [(0, .int x), (1, .int (nI mm))] := hl
  refine lv_iload_n hx hb dL_low_0 rfl (lv_at hl 0 rfl) ?_
  refine lv_ldc (own := RL) (v := 2147483647) hx hb hown (hts _ bw_143) dL_low_1 ?_
  refine lv_iand hx hb dL_low_3 ?_
  refine W.eq (congrArg (fun z9 => F0 m 4 ls (.int z9 :: [])) (show x &&& 2147483647 = nI (x.toBitVec.toNat % 2 ^ 31) from (pk_and x 31 (by decide +kernel)))) ?_
  refine lv_iload_n hx hb dL_low_4 rfl (lv_at hl 1 rfl) ?_
  refine rn_rem (a := x.toBitVec.toNat % 2 ^ 31) (b := mm) hx hb dL_low_5 (by omega) (by omega) (by omega) ?_
  exact hret _ _ _ _ _ _ rfl rfl rfl hP hS dL_low_6

theorem cd_L_size : cdS yL_size cL_size 1 (some .int) 1 := ⟨⟨bw_394, bw_1, by decide, by decide, by decide +kernel⟩, bw_393⟩
def lSz (x : Int32) : Int32 := if 0 ≤ x then x else -x
set_option maxHeartbeats 4000000 in
set_option maxRecDepth 100000 in
theorem c_L_size (l : Launch) (E : EV) (x : Int32)  : rcI l E yL_size cL_size 1 .int 0 [.int x] [] (lSz x) [] := by
  refine rcI_of (by decide) (Nat.le_of_ble_eq_true rfl) ?_
  intro pg e s m below meth c Q A ls S hP hD0 hE hA hl hret
  have hx := S.1
  have hb := S.2.1
  have hown := S.2.2.2.1
  have hts := S.2.2.2.2
  have hK := hE.1
  have hS : va_S A s.heap s.heap [] := va_S.rf
  have hDa : va_Da A [] := ⟨_, hD0, rfl⟩
  have hl : lv_has ls 1 [(0, .int x)] := hl
  refine lv_iload_n hx hb dL_size_0 rfl (lv_at hl 0 rfl) ?_
  refine lv_if_ge (tgt := 9) hx hb dL_size_1 (by decide) (fun c_1 => ?_) (fun c_1 => ?_)
  · refine lv_iload_n hx hb dL_size_9 rfl (lv_at hl 0 rfl) ?_
    exact hret _ _ _ _ _ _ (by rw [lSz, if_pos c_1]) rfl rfl hP hS dL_size_10
  · refine lv_iload_n hx hb dL_size_4 rfl (lv_at hl 0 rfl) ?_
    refine lv_ineg hx hb dL_size_5 ?_
    refine lv_goto (tgt := 10) hx hb dL_size_6 (by decide) ?_
    exact hret _ _ _ _ _ _ (by rw [lSz, if_neg c_1]) rfl rfl hP hS dL_size_10

theorem cd_L_prints : cdS yL_prints cL_prints 6 (some .int) 5 := ⟨⟨bw_409, bw_1, by decide, by decide, by decide +kernel⟩, bw_408⟩
def lPr (vq : Nat → Int32) (vd : Nat → Int32) (k : Nat) (co : Nat) (li : Int32) : Int32 := bd (nI 25 + li + (vq (10 + co)) - (((vq (7 + co)) * (vq 3)) / (nI 100)) - (vd (3 * k + co)))
set_option maxHeartbeats 4000000 in
set_option maxRecDepth 100000 in
theorem c_L_prints (l : Launch) (E : EV) (k : Nat) (co : Nat) (li : Int32) (aq : Nat) (ad : Nat) (vq : Nat → Int32) (vd : Nat → Int32) (hk : k < 21) (hco : co < 3) : rcI l E yL_prints cL_prints 6 .int 0 [.int (nI k), .int (nI co), .int li, .ref aq, .ref ad] [(aq, .inl (E.2.1, 13, .inl vq)), (ad, .inl (E.2.1, 63, .inl vd))] (lPr vq vd k co li) [(aq, .inl (E.2.1, 13, .inl vq)), (ad, .inl (E.2.1, 63, .inl vd))] := by
  refine rcI_of (by decide) (Nat.le_of_ble_eq_true rfl) ?_
  intro pg e s m below meth c Q A ls S hP hD0 hE hA hl hret
  have hx := S.1
  have hb := S.2.1
  have hown := S.2.2.2.1
  have hts := S.2.2.2.2
  have hK := hE.1
  have hS : va_S A s.heap s.heap [] := va_S.rf
  have hDa : va_Da A [aq, ad] := ⟨_, hD0, rfl⟩
  have hl : lv_has ls 6 [(0, .int (nI k)), (1, .int (nI co)), (2, .int li), (3, .ref aq), (4, .ref ad)] := hl
  refine lv_bipush (v := nI 25) hx hb dL_prints_0 (by decide) ?_
  refine lv_iload_n hx hb dL_prints_2 rfl (lv_at hl 2 rfl) ?_
  refine lv_iadd hx hb dL_prints_3 ?_
  refine lv_aload_n hx hb dL_prints_4 rfl (lv_at hl 3 rfl) ?_
  refine lv_bipush (v := nI 10) hx hb dL_prints_5 (by decide) ?_
  refine lv_iload_n hx hb dL_prints_7 rfl (lv_at hl 1 rfl) ?_
  refine rn_add (a := 10) (b := co) hx hb dL_prints_8 ?_
  refine rn_iald (i := 10 + co) hx hb hK hP 0 0 rfl rfl (by omega) (by omega) dL_prints_9 ?_
  refine lv_iadd hx hb dL_prints_10 ?_
  refine lv_aload_n hx hb dL_prints_11 rfl (lv_at hl 3 rfl) ?_
  refine lv_bipush (v := nI 7) hx hb dL_prints_12 (by decide) ?_
  refine lv_iload_n hx hb dL_prints_14 rfl (lv_at hl 1 rfl) ?_
  refine rn_add (a := 7) (b := co) hx hb dL_prints_15 ?_
  refine rn_iald (i := 7 + co) hx hb hK hP 0 0 rfl rfl (by omega) (by omega) dL_prints_16 ?_
  refine lv_aload_n hx hb dL_prints_17 rfl (lv_at hl 3 rfl) ?_
  refine lv_iconst (v := nI 3) hx hb dL_prints_18 (by decide) ?_
  refine rn_iald (i := 3) hx hb hK hP 0 0 rfl rfl (by omega) (by omega) dL_prints_19 ?_
  refine lv_imul hx hb dL_prints_20 ?_
  refine lv_bipush (v := nI 100) hx hb dL_prints_21 (by decide) ?_
  refine lv_idiv hx hb dL_prints_23 (by decide) ?_
  refine lv_isub hx hb dL_prints_24 ?_
  refine lv_aload hx hb dL_prints_25 (lv_at hl 4 rfl) ?_
  refine lv_iconst (v := nI 3) hx hb dL_prints_27 (by decide) ?_
  refine lv_iload_n hx hb dL_prints_28 rfl (lv_at hl 0 rfl) ?_
  refine rn_mul (a := 3) (b := k) hx hb dL_prints_29 ?_
  refine lv_iload_n hx hb dL_prints_30 rfl (lv_at hl 1 rfl) ?_
  refine rn_add (a := 3 * k) (b := co) hx hb dL_prints_31 ?_
  refine rn_iald (i := 3 * k + co) hx hb hK hP 1 0 rfl rfl (by omega) (by omega) dL_prints_32 ?_
  refine lv_isub hx hb dL_prints_33 ?_
  refine lv_istore (lv' := [(5, .int (nI 25 + li + (vq (10 + co)) - (((vq (7 + co)) * (vq 3)) / (nI 100)) - (vd (3 * k + co)))), (0, .int (nI k)), (1, .int (nI co)), (2, .int li), (3, .ref aq), (4, .ref ad)]) hx hb dL_prints_34 hl (by decide) rfl (fun ls hl => ?_)
  refine lv_iload hx hb dL_prints_36 (lv_at hl 0 rfl) ?_
  refine lv_if_ge (tgt := 45) hx hb dL_prints_38 (by decide) (fun c_1 => ?_) (fun c_1 => ?_)
  · refine lv_iload hx hb dL_prints_45 (lv_at hl 0 rfl) ?_
    refine lv_bipush (v := nI 50) hx hb dL_prints_47 (by decide) ?_
    refine lv_icmp_le (tgt := 57) hx hb dL_prints_49 (by decide) (fun c_2 => ?_) (fun c_2 => ?_)
    · refine lv_iload hx hb dL_prints_57 (lv_at hl 0 rfl) ?_
      refine W.eq (congrArg (fun z9 => F0 m 59 ls (.int z9 :: [])) (show nI 25 + li + (vq (10 + co)) - (((vq (7 + co)) * (vq 3)) / (nI 100)) - (vd (3 * k + co)) = bd (nI 25 + li + (vq (10 + co)) - (((vq (7 + co)) * (vq 3)) / (nI 100)) - (vd (3 * k + co))) from (by rw [bd, if_pos c_1, if_pos c_2]))) ?_
      exact hret _ _ _ _ _ _ (by rw [lPr]) rfl rfl hP hS dL_prints_59
    · refine lv_bipush (v := nI 50) hx hb dL_prints_52 (by decide) ?_
      refine lv_goto (tgt := 59) hx hb dL_prints_54 (by decide) ?_
      refine W.eq (congrArg (fun z9 => F0 m 59 ls (.int z9 :: [])) (show nI 50 = bd (nI 25 + li + (vq (10 + co)) - (((vq (7 + co)) * (vq 3)) / (nI 100)) - (vd (3 * k + co))) from (by rw [bd, if_pos c_1, if_neg c_2]))) ?_
      exact hret _ _ _ _ _ _ (by rw [lPr]) rfl rfl hP hS dL_prints_59
  · refine lv_iconst (v := nI 0) hx hb dL_prints_41 (by decide) ?_
    refine lv_goto (tgt := 59) hx hb dL_prints_42 (by decide) ?_
    refine W.eq (congrArg (fun z9 => F0 m 59 ls (.int z9 :: [])) (show nI 0 = bd (nI 25 + li + (vq (10 + co)) - (((vq (7 + co)) * (vq 3)) / (nI 100)) - (vd (3 * k + co))) from (by rw [bd, if_neg c_1]))) ?_
    exact hret _ _ _ _ _ _ (by rw [lPr]) rfl rfl hP hS dL_prints_59

theorem cd_L_off : cdS yL_off cL_off 6 (some .int) 6 := ⟨⟨bw_406, bw_1, by decide, by decide, by decide +kernel⟩, bw_405⟩
def lOf (vq : Nat → Int32) (vd : Nat → Int32) (vw : Nat → Int32) (vl : Nat → Int32) (k : Nat) (co : Nat) : Int32 := lPr vq vd k co (vl (3 * k + co)) - (nI 25) - (vw (3 * k + co))
set_option maxHeartbeats 4000000 in
set_option maxRecDepth 100000 in
theorem c_L_off (l : Launch) (E : EV) (k : Nat) (co : Nat) (aq : Nat) (ad : Nat) (aw : Nat) (al : Nat) (vq : Nat → Int32) (vd : Nat → Int32) (vw : Nat → Int32) (vl : Nat → Int32) (hk : k < 21) (hco : co < 3) : rcI l E yL_off cL_off 6 .int 1 [.int (nI k), .int (nI co), .ref aq, .ref ad, .ref aw, .ref al] [(aq, .inl (E.2.1, 13, .inl vq)), (ad, .inl (E.2.1, 63, .inl vd)), (aw, .inl (E.2.1, 63, .inl vw)), (al, .inl (E.2.1, 63, .inl vl))] (lOf vq vd vw vl k co) [(aq, .inl (E.2.1, 13, .inl vq)), (ad, .inl (E.2.1, 63, .inl vd)), (aw, .inl (E.2.1, 63, .inl vw)), (al, .inl (E.2.1, 63, .inl vl))] := by
  refine rcI_of (by decide) (Nat.le_of_ble_eq_true rfl) ?_
  intro pg e s m below meth c Q A ls S hP hD0 hE hA hl hret
  have hx := S.1
  have hb := S.2.1
  have hown := S.2.2.2.1
  have hts := S.2.2.2.2
  have hK := hE.1
  have hS : va_S A s.heap s.heap [] := va_S.rf
  have hDa : va_Da A [aq, ad, aw, al] := ⟨_, hD0, rfl⟩
  have hl : lv_has ls 6 [(0, .int (nI k)), (1, .int (nI co)), (2, .ref aq), (3, .ref ad), (4, .ref aw), (5, .ref al)] := hl
  refine lv_iload_n hx hb dL_off_0 rfl (lv_at hl 0 rfl) ?_
  refine lv_iload_n hx hb dL_off_1 rfl (lv_at hl 1 rfl) ?_
  refine lv_aload hx hb dL_off_2 (lv_at hl 5 rfl) ?_
  refine lv_iconst (v := nI 3) hx hb dL_off_4 (by decide) ?_
  refine lv_iload_n hx hb dL_off_5 rfl (lv_at hl 0 rfl) ?_
  refine rn_mul (a := 3) (b := k) hx hb dL_off_6 ?_
  refine lv_iload_n hx hb dL_off_7 rfl (lv_at hl 1 rfl) ?_
  refine rn_add (a := 3 * k) (b := co) hx hb dL_off_8 ?_
  refine rn_iald (i := 3 * k + co) hx hb hK hP 3 0 rfl rfl (by omega) (by omega) dL_off_9 ?_
  refine lv_aload_n hx hb dL_off_10 rfl (lv_at hl 2 rfl) ?_
  refine lv_aload_n hx hb dL_off_11 rfl (lv_at hl 3 rfl) ?_
  refine rwS5 (rest := []) S (c_L_prints l E k co (vl (3 * k + co)) aq ad vq vd hk hco) cd_L_prints bw_407 ⟨Nat.le_of_ble_eq_true rfl, Nat.le_of_ble_eq_true rfl⟩ ⟨Nat.zero_le _, Nat.zero_le _⟩ hP (hDa.to rfl) hE hA hS [0, 1] rfl rfl [aq, ad] rfl rfl (Nat.le_of_ble_eq_true rfl) hl.1 dL_off_12 (fun H locs hP _ hS => ?_)
  have hP : va_P E.1 vwCl [(aq, .inl (E.2.1, 13, .inl vq)), (ad, .inl (E.2.1, 63, .inl vd)), (aw, .inl (E.2.1, 63, .inl vw)), (al, .inl (E.2.1, 63, .inl vl))] H := hP
  refine lv_bipush (v := nI 25) hx hb dL_off_15 (by decide) ?_
  refine lv_isub hx hb dL_off_17 ?_
  refine lv_aload hx hb dL_off_18 (lv_at hl 4 rfl) ?_
  refine lv_iconst (v := nI 3) hx hb dL_off_20 (by decide) ?_
  refine lv_iload_n hx hb dL_off_21 rfl (lv_at hl 0 rfl) ?_
  refine rn_mul (a := 3) (b := k) hx hb dL_off_22 ?_
  refine lv_iload_n hx hb dL_off_23 rfl (lv_at hl 1 rfl) ?_
  refine rn_add (a := 3 * k) (b := co) hx hb dL_off_24 ?_
  refine rn_iald (i := 3 * k + co) hx hb hK hP 2 0 rfl rfl (by omega) (by omega) dL_off_25 ?_
  refine lv_isub hx hb dL_off_26 ?_
  exact hret _ _ _ _ _ _ (by rw [lOf]) rfl rfl hP hS dL_off_27

theorem cd_L_isBad : cdS yL_isBad cL_isBad 5 (some .boolean) 3 := ⟨⟨bw_412, bw_1, by decide, by decide, by decide +kernel⟩, bw_411⟩
def lBa (vq : Nat → Int32) (vr : Nat → Int32) (k : Nat) : Int32 := (if (if (if vr (3 * k + 0) ≤ 0 then nI 0 else if lSz (vr (3 * k + 0) - (nI 1000)) ≤ vq 1 then nI 0 else nI 1) = 0 then if vr (3 * k + 1) ≤ 0 then nI 0 else if lSz (vr (3 * k + 1) - (nI 1000)) ≤ vq 1 then nI 0 else nI 1 else nI 1) = 0 then if vr (3 * k + 2) ≤ 0 then nI 0 else if lSz (vr (3 * k + 2) - (nI 1000)) ≤ vq 1 then nI 0 else nI 1 else nI 1)
theorem lBa_z (vq : Nat → Int32) (vr : Nat → Int32) (k : Nat) : narrow .boolean (.int (lBa vq vr k)) = .int (lBa vq vr k) := by
  unfold lBa
  repeat' split
  all_goals first | decide | rfl
set_option maxHeartbeats 4000000 in
set_option maxRecDepth 100000 in
theorem c_L_isBad (l : Launch) (E : EV) (k : Nat) (aq : Nat) (ar : Nat) (vq : Nat → Int32) (vr : Nat → Int32) (hk : k < 21) : rcI l E yL_isBad cL_isBad 5 .boolean 1 [.int (nI k), .ref aq, .ref ar] [(aq, .inl (E.2.1, 13, .inl vq)), (ar, .inl (E.2.1, 63, .inl vr))] (lBa vq vr k) [(aq, .inl (E.2.1, 13, .inl vq)), (ar, .inl (E.2.1, 63, .inl vr))] := by
  refine rcI_of (by decide) (Nat.le_of_ble_eq_true rfl) ?_
  intro pg e s m below meth c Q A ls S hP hD0 hE hA hl hret
  have hx := S.1
  have hb := S.2.1
  have hown := S.2.2.2.1
  have hts := S.2.2.2.2
  have hK := hE.1
  have hS : va_S A s.heap s.heap [] := va_S.rf
  have hDa : va_Da A [aq, ar] := ⟨_, hD0, rfl⟩
  have hl : lv_has ls 5 [(0, .int (nI k)), (1, .ref aq), (2, .ref ar)] := hl
  refine lv_iconst (v := nI 0) hx hb dL_isBad_0 (by decide) ?_
  refine lv_istore_n (lv' := [(3, .int (nI 0)), (0, .int (nI k)), (1, .ref aq), (2, .ref ar)]) hx hb dL_isBad_1 rfl hl (by decide) rfl (fun ls hl => ?_)
  refine lv_iconst (v := nI 0) hx hb dL_isBad_2 (by decide) ?_
  refine lv_istore (lv' := [(4, .int (nI 0)), (3, .int (nI 0)), (0, .int (nI k)), (1, .ref aq), (2, .ref ar)]) hx hb dL_isBad_3 hl (by decide) rfl (fun ls hl => ?_)
  refine lv_iload hx hb dL_isBad_5 (lv_at hl 0 rfl) ?_
  refine lv_iconst (v := nI 3) hx hb dL_isBad_7 (by decide) ?_
  refine rn_icmp_ge (a := 0) (b := 3) (tgt := 59) hx hb (by omega) (by omega) dL_isBad_8 (by decide) (fun c_1 => absurd c_1 (by omega)) (fun c_1 => ?_)
  refine lv_iload_n hx hb dL_isBad_11 rfl (lv_at hl 1 rfl) ?_
  refine (fun (hj : ∀ (H : Heap) (locs : List Loc), va_P E.1 vwCl [(aq, .inl (E.2.1, 13, .inl vq)), (ar, .inl (E.2.1, 63, .inl vr))] H → va_S A s.heap H locs → W pg l e (rq 1) s m ([.int (nI k), .ref aq, .ref ar] : List Value).toArray below meth c H locs 0 0 Q (F0 m 52 ls [.int (if vr (3 * k + 0) ≤ 0 then nI 0 else if lSz (vr (3 * k + 0) - (nI 1000)) ≤ vq 1 then nI 0 else nI 1)])) => ?_) ?_
  · refine lv_if_ne (tgt := 47) hx hb dL_isBad_12 (by decide) (fun c9 => by first | exact absurd c9 (by decide) | exact absurd (by decide) c9) (fun _ => ?_)
    refine lv_aload_n hx hb dL_isBad_15 rfl (lv_at hl 4 rfl) ?_
    refine lv_iconst (v := nI 3) hx hb dL_isBad_16 (by decide) ?_
    refine lv_iload_n hx hb dL_isBad_17 rfl (lv_at hl 2 rfl) ?_
    refine rn_mul (a := 3) (b := k) hx hb dL_isBad_18 ?_
    refine lv_iload hx hb dL_isBad_19 (lv_at hl 0 rfl) ?_
    refine rn_add (a := 3 * k) (b := 0) hx hb dL_isBad_21 ?_
    refine rn_iald (i := 3 * k + 0) hx hb hK hP 1 0 rfl rfl (by omega) (by omega) dL_isBad_22 ?_
    refine lv_if_le (tgt := 51) hx hb dL_isBad_23 (by decide) (fun c_2 => ?_) (fun c_2 => ?_)
    · refine lv_iconst (v := nI 0) hx hb dL_isBad_51 (by decide) ?_
      have hj9 := hj _ _ hP hS
      rw [if_pos c_2] at hj9
      exact hj9
    · refine lv_aload_n hx hb dL_isBad_26 rfl (lv_at hl 4 rfl) ?_
      refine lv_iconst (v := nI 3) hx hb dL_isBad_27 (by decide) ?_
      refine lv_iload_n hx hb dL_isBad_28 rfl (lv_at hl 2 rfl) ?_
      refine rn_mul (a := 3) (b := k) hx hb dL_isBad_29 ?_
      refine lv_iload hx hb dL_isBad_30 (lv_at hl 0 rfl) ?_
      refine rn_add (a := 3 * k) (b := 0) hx hb dL_isBad_32 ?_
      refine rn_iald (i := 3 * k + 0) hx hb hK hP 1 0 rfl rfl (by omega) (by omega) dL_isBad_33 ?_
      refine lv_sipush (v := nI 1000) hx hb dL_isBad_34 (by decide) ?_
      refine lv_isub hx hb dL_isBad_37 ?_
      refine rwS1 (rest := []) S (c_L_size l E (vr (3 * k + 0) - (nI 1000))) cd_L_size bw_392 ⟨Nat.le_of_ble_eq_true rfl, Nat.le_of_ble_eq_true rfl⟩ ⟨Nat.zero_le _, Nat.zero_le _⟩ hP (hDa.to rfl) hE hA hS [] rfl rfl [] rfl rfl (Nat.le_of_ble_eq_true rfl) hl.1 dL_isBad_38 (fun H locs hP _ hS => ?_)
      have hP : va_P E.1 vwCl [(aq, .inl (E.2.1, 13, .inl vq)), (ar, .inl (E.2.1, 63, .inl vr))] H := hP
      refine lv_aload_n hx hb dL_isBad_41 rfl (lv_at hl 3 rfl) ?_
      refine lv_iconst (v := nI 1) hx hb dL_isBad_42 (by decide) ?_
      refine rn_iald (i := 1) hx hb hK hP 0 0 rfl rfl (by omega) (by omega) dL_isBad_43 ?_
      refine lv_icmp_le (tgt := 51) hx hb dL_isBad_44 (by decide) (fun c_3 => ?_) (fun c_3 => ?_)
      · refine lv_iconst (v := nI 0) hx hb dL_isBad_51 (by decide) ?_
        have hj9 := hj _ _ hP hS
        rw [if_neg c_2, if_pos c_3] at hj9
        exact hj9
      · refine lv_iconst (v := nI 1) hx hb dL_isBad_47 (by decide) ?_
        refine lv_goto (tgt := 52) hx hb dL_isBad_48 (by decide) ?_
        have hj9 := hj _ _ hP hS
        rw [if_neg c_2, if_neg c_3] at hj9
        exact hj9
  intro H locs hP hS
  refine lv_istore_n (lv' := [(3, .int (if vr (3 * k + 0) ≤ 0 then nI 0 else if lSz (vr (3 * k + 0) - (nI 1000)) ≤ vq 1 then nI 0 else nI 1)), (4, .int (nI 0)), (0, .int (nI k)), (1, .ref aq), (2, .ref ar)]) hx hb dL_isBad_52 rfl hl (by decide) rfl (fun ls hl => ?_)
  refine rn_inc (a := 0) (d := 1) (lv' := [(4, .int (nI 1)), (3, .int (if vr (3 * k + 0) ≤ 0 then nI 0 else if lSz (vr (3 * k + 0) - (nI 1000)) ≤ vq 1 then nI 0 else nI 1)), (0, .int (nI k)), (1, .ref aq), (2, .ref ar)]) hx hb dL_isBad_53 hl (k := 1) rfl (by decide) (by decide) rfl (fun ls hl => ?_)
  refine lv_goto (tgt := 5) hx hb dL_isBad_56 (by decide) ?_
  refine lv_iload hx hb dL_isBad_5 (lv_at hl 0 rfl) ?_
  refine lv_iconst (v := nI 3) hx hb dL_isBad_7 (by decide) ?_
  refine rn_icmp_ge (a := 1) (b := 3) (tgt := 59) hx hb (by omega) (by omega) dL_isBad_8 (by decide) (fun c_4 => absurd c_4 (by omega)) (fun c_4 => ?_)
  refine lv_iload_n hx hb dL_isBad_11 rfl (lv_at hl 1 rfl) ?_
  refine (fun (hj : ∀ (H : Heap) (locs : List Loc), va_P E.1 vwCl [(aq, .inl (E.2.1, 13, .inl vq)), (ar, .inl (E.2.1, 63, .inl vr))] H → va_S A s.heap H locs → W pg l e (rq 1) s m ([.int (nI k), .ref aq, .ref ar] : List Value).toArray below meth c H locs 0 0 Q (F0 m 52 ls [.int (if (if vr (3 * k + 0) ≤ 0 then nI 0 else if lSz (vr (3 * k + 0) - (nI 1000)) ≤ vq 1 then nI 0 else nI 1) = 0 then if vr (3 * k + 1) ≤ 0 then nI 0 else if lSz (vr (3 * k + 1) - (nI 1000)) ≤ vq 1 then nI 0 else nI 1 else nI 1)])) => ?_) ?_
  · refine lv_if_ne (tgt := 47) hx hb dL_isBad_12 (by decide) (fun c_5 => ?_) (fun c_5 => ?_)
    · refine lv_iconst (v := nI 1) hx hb dL_isBad_47 (by decide) ?_
      refine lv_goto (tgt := 52) hx hb dL_isBad_48 (by decide) ?_
      have hj9 := hj _ _ hP hS
      rw [if_neg c_5] at hj9
      exact hj9
    · refine lv_aload_n hx hb dL_isBad_15 rfl (lv_at hl 4 rfl) ?_
      refine lv_iconst (v := nI 3) hx hb dL_isBad_16 (by decide) ?_
      refine lv_iload_n hx hb dL_isBad_17 rfl (lv_at hl 2 rfl) ?_
      refine rn_mul (a := 3) (b := k) hx hb dL_isBad_18 ?_
      refine lv_iload hx hb dL_isBad_19 (lv_at hl 0 rfl) ?_
      refine rn_add (a := 3 * k) (b := 1) hx hb dL_isBad_21 ?_
      refine rn_iald (i := 3 * k + 1) hx hb hK hP 1 0 rfl rfl (by omega) (by omega) dL_isBad_22 ?_
      refine lv_if_le (tgt := 51) hx hb dL_isBad_23 (by decide) (fun c_6 => ?_) (fun c_6 => ?_)
      · refine lv_iconst (v := nI 0) hx hb dL_isBad_51 (by decide) ?_
        have hj9 := hj _ _ hP hS
        rw [if_pos c_5, if_pos c_6] at hj9
        exact hj9
      · refine lv_aload_n hx hb dL_isBad_26 rfl (lv_at hl 4 rfl) ?_
        refine lv_iconst (v := nI 3) hx hb dL_isBad_27 (by decide) ?_
        refine lv_iload_n hx hb dL_isBad_28 rfl (lv_at hl 2 rfl) ?_
        refine rn_mul (a := 3) (b := k) hx hb dL_isBad_29 ?_
        refine lv_iload hx hb dL_isBad_30 (lv_at hl 0 rfl) ?_
        refine rn_add (a := 3 * k) (b := 1) hx hb dL_isBad_32 ?_
        refine rn_iald (i := 3 * k + 1) hx hb hK hP 1 0 rfl rfl (by omega) (by omega) dL_isBad_33 ?_
        refine lv_sipush (v := nI 1000) hx hb dL_isBad_34 (by decide) ?_
        refine lv_isub hx hb dL_isBad_37 ?_
        refine rwS1 (rest := []) S (c_L_size l E (vr (3 * k + 1) - (nI 1000))) cd_L_size bw_392 ⟨Nat.le_of_ble_eq_true rfl, Nat.le_of_ble_eq_true rfl⟩ ⟨Nat.zero_le _, Nat.zero_le _⟩ hP (hDa.to rfl) hE hA hS [] rfl rfl [] rfl rfl (Nat.le_of_ble_eq_true rfl) hl.1 dL_isBad_38 (fun H locs hP _ hS => ?_)
        have hP : va_P E.1 vwCl [(aq, .inl (E.2.1, 13, .inl vq)), (ar, .inl (E.2.1, 63, .inl vr))] H := hP
        refine lv_aload_n hx hb dL_isBad_41 rfl (lv_at hl 3 rfl) ?_
        refine lv_iconst (v := nI 1) hx hb dL_isBad_42 (by decide) ?_
        refine rn_iald (i := 1) hx hb hK hP 0 0 rfl rfl (by omega) (by omega) dL_isBad_43 ?_
        refine lv_icmp_le (tgt := 51) hx hb dL_isBad_44 (by decide) (fun c_7 => ?_) (fun c_7 => ?_)
        · refine lv_iconst (v := nI 0) hx hb dL_isBad_51 (by decide) ?_
          have hj9 := hj _ _ hP hS
          rw [if_pos c_5, if_neg c_6, if_pos c_7] at hj9
          exact hj9
        · refine lv_iconst (v := nI 1) hx hb dL_isBad_47 (by decide) ?_
          refine lv_goto (tgt := 52) hx hb dL_isBad_48 (by decide) ?_
          have hj9 := hj _ _ hP hS
          rw [if_pos c_5, if_neg c_6, if_neg c_7] at hj9
          exact hj9
  intro H locs hP hS
  refine lv_istore_n (lv' := [(3, .int (if (if vr (3 * k + 0) ≤ 0 then nI 0 else if lSz (vr (3 * k + 0) - (nI 1000)) ≤ vq 1 then nI 0 else nI 1) = 0 then if vr (3 * k + 1) ≤ 0 then nI 0 else if lSz (vr (3 * k + 1) - (nI 1000)) ≤ vq 1 then nI 0 else nI 1 else nI 1)), (4, .int (nI 1)), (0, .int (nI k)), (1, .ref aq), (2, .ref ar)]) hx hb dL_isBad_52 rfl hl (by decide) rfl (fun ls hl => ?_)
  refine rn_inc (a := 1) (d := 1) (lv' := [(4, .int (nI 2)), (3, .int (if (if vr (3 * k + 0) ≤ 0 then nI 0 else if lSz (vr (3 * k + 0) - (nI 1000)) ≤ vq 1 then nI 0 else nI 1) = 0 then if vr (3 * k + 1) ≤ 0 then nI 0 else if lSz (vr (3 * k + 1) - (nI 1000)) ≤ vq 1 then nI 0 else nI 1 else nI 1)), (0, .int (nI k)), (1, .ref aq), (2, .ref ar)]) hx hb dL_isBad_53 hl (k := 1) rfl (by decide) (by decide) rfl (fun ls hl => ?_)
  refine lv_goto (tgt := 5) hx hb dL_isBad_56 (by decide) ?_
  refine lv_iload hx hb dL_isBad_5 (lv_at hl 0 rfl) ?_
  refine lv_iconst (v := nI 3) hx hb dL_isBad_7 (by decide) ?_
  refine rn_icmp_ge (a := 2) (b := 3) (tgt := 59) hx hb (by omega) (by omega) dL_isBad_8 (by decide) (fun c_8 => absurd c_8 (by omega)) (fun c_8 => ?_)
  refine lv_iload_n hx hb dL_isBad_11 rfl (lv_at hl 1 rfl) ?_
  refine (fun (hj : ∀ (H : Heap) (locs : List Loc), va_P E.1 vwCl [(aq, .inl (E.2.1, 13, .inl vq)), (ar, .inl (E.2.1, 63, .inl vr))] H → va_S A s.heap H locs → W pg l e (rq 1) s m ([.int (nI k), .ref aq, .ref ar] : List Value).toArray below meth c H locs 0 0 Q (F0 m 52 ls [.int (if (if (if vr (3 * k + 0) ≤ 0 then nI 0 else if lSz (vr (3 * k + 0) - (nI 1000)) ≤ vq 1 then nI 0 else nI 1) = 0 then if vr (3 * k + 1) ≤ 0 then nI 0 else if lSz (vr (3 * k + 1) - (nI 1000)) ≤ vq 1 then nI 0 else nI 1 else nI 1) = 0 then if vr (3 * k + 2) ≤ 0 then nI 0 else if lSz (vr (3 * k + 2) - (nI 1000)) ≤ vq 1 then nI 0 else nI 1 else nI 1)])) => ?_) ?_
  · refine lv_if_ne (tgt := 47) hx hb dL_isBad_12 (by decide) (fun c_9 => ?_) (fun c_9 => ?_)
    · refine lv_iconst (v := nI 1) hx hb dL_isBad_47 (by decide) ?_
      refine lv_goto (tgt := 52) hx hb dL_isBad_48 (by decide) ?_
      have hj9 := hj _ _ hP hS
      rw [if_neg c_9] at hj9
      exact hj9
    · refine lv_aload_n hx hb dL_isBad_15 rfl (lv_at hl 4 rfl) ?_
      refine lv_iconst (v := nI 3) hx hb dL_isBad_16 (by decide) ?_
      refine lv_iload_n hx hb dL_isBad_17 rfl (lv_at hl 2 rfl) ?_
      refine rn_mul (a := 3) (b := k) hx hb dL_isBad_18 ?_
      refine lv_iload hx hb dL_isBad_19 (lv_at hl 0 rfl) ?_
      refine rn_add (a := 3 * k) (b := 2) hx hb dL_isBad_21 ?_
      refine rn_iald (i := 3 * k + 2) hx hb hK hP 1 0 rfl rfl (by omega) (by omega) dL_isBad_22 ?_
      refine lv_if_le (tgt := 51) hx hb dL_isBad_23 (by decide) (fun c_10 => ?_) (fun c_10 => ?_)
      · refine lv_iconst (v := nI 0) hx hb dL_isBad_51 (by decide) ?_
        have hj9 := hj _ _ hP hS
        rw [if_pos c_9, if_pos c_10] at hj9
        exact hj9
      · refine lv_aload_n hx hb dL_isBad_26 rfl (lv_at hl 4 rfl) ?_
        refine lv_iconst (v := nI 3) hx hb dL_isBad_27 (by decide) ?_
        refine lv_iload_n hx hb dL_isBad_28 rfl (lv_at hl 2 rfl) ?_
        refine rn_mul (a := 3) (b := k) hx hb dL_isBad_29 ?_
        refine lv_iload hx hb dL_isBad_30 (lv_at hl 0 rfl) ?_
        refine rn_add (a := 3 * k) (b := 2) hx hb dL_isBad_32 ?_
        refine rn_iald (i := 3 * k + 2) hx hb hK hP 1 0 rfl rfl (by omega) (by omega) dL_isBad_33 ?_
        refine lv_sipush (v := nI 1000) hx hb dL_isBad_34 (by decide) ?_
        refine lv_isub hx hb dL_isBad_37 ?_
        refine rwS1 (rest := []) S (c_L_size l E (vr (3 * k + 2) - (nI 1000))) cd_L_size bw_392 ⟨Nat.le_of_ble_eq_true rfl, Nat.le_of_ble_eq_true rfl⟩ ⟨Nat.zero_le _, Nat.zero_le _⟩ hP (hDa.to rfl) hE hA hS [] rfl rfl [] rfl rfl (Nat.le_of_ble_eq_true rfl) hl.1 dL_isBad_38 (fun H locs hP _ hS => ?_)
        have hP : va_P E.1 vwCl [(aq, .inl (E.2.1, 13, .inl vq)), (ar, .inl (E.2.1, 63, .inl vr))] H := hP
        refine lv_aload_n hx hb dL_isBad_41 rfl (lv_at hl 3 rfl) ?_
        refine lv_iconst (v := nI 1) hx hb dL_isBad_42 (by decide) ?_
        refine rn_iald (i := 1) hx hb hK hP 0 0 rfl rfl (by omega) (by omega) dL_isBad_43 ?_
        refine lv_icmp_le (tgt := 51) hx hb dL_isBad_44 (by decide) (fun c_11 => ?_) (fun c_11 => ?_)
        · refine lv_iconst (v := nI 0) hx hb dL_isBad_51 (by decide) ?_
          have hj9 := hj _ _ hP hS
          rw [if_pos c_9, if_neg c_10, if_pos c_11] at hj9
          exact hj9
        · refine lv_iconst (v := nI 1) hx hb dL_isBad_47 (by decide) ?_
          refine lv_goto (tgt := 52) hx hb dL_isBad_48 (by decide) ?_
          have hj9 := hj _ _ hP hS
          rw [if_pos c_9, if_neg c_10, if_neg c_11] at hj9
          exact hj9
  intro H locs hP hS
  refine lv_istore_n (lv' := [(3, .int (if (if (if vr (3 * k + 0) ≤ 0 then nI 0 else if lSz (vr (3 * k + 0) - (nI 1000)) ≤ vq 1 then nI 0 else nI 1) = 0 then if vr (3 * k + 1) ≤ 0 then nI 0 else if lSz (vr (3 * k + 1) - (nI 1000)) ≤ vq 1 then nI 0 else nI 1 else nI 1) = 0 then if vr (3 * k + 2) ≤ 0 then nI 0 else if lSz (vr (3 * k + 2) - (nI 1000)) ≤ vq 1 then nI 0 else nI 1 else nI 1)), (4, .int (nI 2)), (0, .int (nI k)), (1, .ref aq), (2, .ref ar)]) hx hb dL_isBad_52 rfl hl (by decide) rfl (fun ls hl => ?_)
  refine rn_inc (a := 2) (d := 1) (lv' := [(4, .int (nI 3)), (3, .int (if (if (if vr (3 * k + 0) ≤ 0 then nI 0 else if lSz (vr (3 * k + 0) - (nI 1000)) ≤ vq 1 then nI 0 else nI 1) = 0 then if vr (3 * k + 1) ≤ 0 then nI 0 else if lSz (vr (3 * k + 1) - (nI 1000)) ≤ vq 1 then nI 0 else nI 1 else nI 1) = 0 then if vr (3 * k + 2) ≤ 0 then nI 0 else if lSz (vr (3 * k + 2) - (nI 1000)) ≤ vq 1 then nI 0 else nI 1 else nI 1)), (0, .int (nI k)), (1, .ref aq), (2, .ref ar)]) hx hb dL_isBad_53 hl (k := 1) rfl (by decide) (by decide) rfl (fun ls hl => ?_)
  refine lv_goto (tgt := 5) hx hb dL_isBad_56 (by decide) ?_
  refine lv_iload hx hb dL_isBad_5 (lv_at hl 0 rfl) ?_
  refine lv_iconst (v := nI 3) hx hb dL_isBad_7 (by decide) ?_
  refine rn_icmp_ge (a := 3) (b := 3) (tgt := 59) hx hb (by omega) (by omega) dL_isBad_8 (by decide) (fun c_12 => ?_) (fun c_12 => absurd c_12 (by omega))
  refine lv_iload_n hx hb dL_isBad_59 rfl (lv_at hl 1 rfl) ?_
  exact hret _ _ _ _ _ _ (by rw [lBa]) rfl (by (repeat' split) <;> decide) hP hS dL_isBad_60

theorem cd_L_jumps : cdS yL_jumps cL_jumps 6 (some .boolean) 4 := ⟨⟨bw_418, bw_1, by decide, by decide, by decide +kernel⟩, bw_417⟩
def lJu (vq : Nat → Int32) (vd : Nat → Int32) (vl : Nat → Int32) (n : Nat) (k : Nat) : Int32 := if n ≤ k + 1 then nI 0 else (if (if (if lSz (lPr vq vd k 0 (vl (3 * k + 0)) - (lPr vq vd (k + 1) 0 (vl (3 * k + 3 + 0)))) ≤ vq 2 then nI 0 else nI 1) = 0 then if lSz (lPr vq vd k 1 (vl (3 * k + 1)) - (lPr vq vd (k + 1) 1 (vl (3 * k + 3 + 1)))) ≤ vq 2 then nI 0 else nI 1 else nI 1) = 0 then if lSz (lPr vq vd k 2 (vl (3 * k + 2)) - (lPr vq vd (k + 1) 2 (vl (3 * k + 3 + 2)))) ≤ vq 2 then nI 0 else nI 1 else nI 1)
theorem lJu_z (vq : Nat → Int32) (vd : Nat → Int32) (vl : Nat → Int32) (n : Nat) (k : Nat) : narrow .boolean (.int (lJu vq vd vl n k)) = .int (lJu vq vd vl n k) := by
  unfold lJu
  repeat' split
  all_goals first | decide | rfl
set_option maxHeartbeats 4000000 in
set_option maxRecDepth 100000 in
theorem c_L_jumps (l : Launch) (E : EV) (k : Nat) (aq : Nat) (ad : Nat) (al : Nat) (vq : Nat → Int32) (vd : Nat → Int32) (vl : Nat → Int32) (n : Nat) (hf : vq 4 = nI n) (hn : n ≤ 20) (hk : k < n) : rcI l E yL_jumps cL_jumps 6 .boolean 1 [.int (nI k), .ref aq, .ref ad, .ref al] [(aq, .inl (E.2.1, 13, .inl vq)), (ad, .inl (E.2.1, 63, .inl vd)), (al, .inl (E.2.1, 63, .inl vl))] (lJu vq vd vl n k) [(aq, .inl (E.2.1, 13, .inl vq)), (ad, .inl (E.2.1, 63, .inl vd)), (al, .inl (E.2.1, 63, .inl vl))] := by
  refine rcI_of (by decide) (Nat.le_of_ble_eq_true rfl) ?_
  intro pg e s m below meth c Q A ls S hP hD0 hE hA hl hret
  have hx := S.1
  have hb := S.2.1
  have hown := S.2.2.2.1
  have hts := S.2.2.2.2
  have hK := hE.1
  have hS : va_S A s.heap s.heap [] := va_S.rf
  have hDa : va_Da A [aq, ad, al] := ⟨_, hD0, rfl⟩
  have hl : lv_has ls 6 [(0, .int (nI k)), (1, .ref aq), (2, .ref ad), (3, .ref al)] := hl
  refine lv_iconst (v := nI 0) hx hb dL_jumps_0 (by decide) ?_
  refine lv_istore (lv' := [(4, .int (nI 0)), (0, .int (nI k)), (1, .ref aq), (2, .ref ad), (3, .ref al)]) hx hb dL_jumps_1 hl (by decide) rfl (fun ls hl => ?_)
  refine lv_iconst (v := nI 0) hx hb dL_jumps_3 (by decide) ?_
  refine lv_istore (lv' := [(5, .int (nI 0)), (4, .int (nI 0)), (0, .int (nI k)), (1, .ref aq), (2, .ref ad), (3, .ref al)]) hx hb dL_jumps_4 hl (by decide) rfl (fun ls hl => ?_)
  refine lv_iload hx hb dL_jumps_6 (lv_at hl 0 rfl) ?_
  refine lv_iconst (v := nI 3) hx hb dL_jumps_8 (by decide) ?_
  refine rn_icmp_ge (a := 0) (b := 3) (tgt := 85) hx hb (by omega) (by omega) dL_jumps_9 (by decide) (fun c_1 => absurd c_1 (by omega)) (fun c_1 => ?_)
  refine lv_iload_n hx hb dL_jumps_12 rfl (lv_at hl 2 rfl) ?_
  refine lv_iconst (v := nI 1) hx hb dL_jumps_13 (by decide) ?_
  refine rn_add (a := k) (b := 1) hx hb dL_jumps_14 ?_
  refine lv_aload_n hx hb dL_jumps_15 rfl (lv_at hl 3 rfl) ?_
  refine lv_iconst (v := nI 4) hx hb dL_jumps_16 (by decide) ?_
  refine rn_iald (i := 4) hx hb hK hP 0 0 rfl rfl (by omega) (by omega) dL_jumps_17 ?_
  refine W.eq (congrArg (fun z9 => F0 m 18 ls (.int z9 :: [.int (nI (k + 1))])) (show vq 4 = nI n from hf)) ?_
  refine rn_icmp_ge (a := k + 1) (b := n) (tgt := 85) hx hb (by omega) (by omega) dL_jumps_18 (by decide) (fun c_2 => ?_) (fun c_2 => ?_)
  · refine lv_iload hx hb dL_jumps_85 (lv_at hl 1 rfl) ?_
    exact hret _ _ _ _ _ _ (by rw [lJu, if_pos c_2]) rfl (by decide) hP hS dL_jumps_87
  · refine lv_iload hx hb dL_jumps_21 (lv_at hl 1 rfl) ?_
    refine (fun (hj : ∀ (H : Heap) (locs : List Loc), va_P E.1 vwCl [(aq, .inl (E.2.1, 13, .inl vq)), (ad, .inl (E.2.1, 63, .inl vd)), (al, .inl (E.2.1, 63, .inl vl))] H → va_S A s.heap H locs → W pg l e (rq 1) s m ([.int (nI k), .ref aq, .ref ad, .ref al] : List Value).toArray below meth c H locs 0 0 Q (F0 m 77 ls [.int (if lSz (lPr vq vd k 0 (vl (3 * k + 0)) - (lPr vq vd (k + 1) 0 (vl (3 * k + 3 + 0)))) ≤ vq 2 then nI 0 else nI 1)])) => ?_) ?_
    · refine lv_if_ne (tgt := 72) hx hb dL_jumps_23 (by decide) (fun c9 => by first | exact absurd c9 (by decide) | exact absurd (by decide) c9) (fun _ => ?_)
      refine lv_iload_n hx hb dL_jumps_26 rfl (lv_at hl 2 rfl) ?_
      refine lv_iload hx hb dL_jumps_27 (lv_at hl 0 rfl) ?_
      refine lv_aload_n hx hb dL_jumps_29 rfl (lv_at hl 5 rfl) ?_
      refine lv_iconst (v := nI 3) hx hb dL_jumps_30 (by decide) ?_
      refine lv_iload_n hx hb dL_jumps_31 rfl (lv_at hl 2 rfl) ?_
      refine rn_mul (a := 3) (b := k) hx hb dL_jumps_32 ?_
      refine lv_iload hx hb dL_jumps_33 (lv_at hl 0 rfl) ?_
      refine rn_add (a := 3 * k) (b := 0) hx hb dL_jumps_35 ?_
      refine rn_iald (i := 3 * k + 0) hx hb hK hP 2 0 rfl rfl (by omega) (by omega) dL_jumps_36 ?_
      refine lv_aload_n hx hb dL_jumps_37 rfl (lv_at hl 3 rfl) ?_
      refine lv_aload_n hx hb dL_jumps_38 rfl (lv_at hl 4 rfl) ?_
      refine rwS5 (rest := []) S (c_L_prints l E k 0 (vl (3 * k + 0)) aq ad vq vd (by omega) (by omega)) cd_L_prints bw_407 ⟨Nat.le_of_ble_eq_true rfl, Nat.le_of_ble_eq_true rfl⟩ ⟨Nat.zero_le _, Nat.zero_le _⟩ hP (hDa.to rfl) hE hA hS [0, 1] rfl rfl [aq, ad] rfl rfl (Nat.le_of_ble_eq_true rfl) hl.1 dL_jumps_39 (fun H locs hP _ hS => ?_)
      have hP : va_P E.1 vwCl [(aq, .inl (E.2.1, 13, .inl vq)), (ad, .inl (E.2.1, 63, .inl vd)), (al, .inl (E.2.1, 63, .inl vl))] H := hP
      refine lv_iload_n hx hb dL_jumps_42 rfl (lv_at hl 2 rfl) ?_
      refine lv_iconst (v := nI 1) hx hb dL_jumps_43 (by decide) ?_
      refine rn_add (a := k) (b := 1) hx hb dL_jumps_44 ?_
      refine lv_iload hx hb dL_jumps_45 (lv_at hl 0 rfl) ?_
      refine lv_aload_n hx hb dL_jumps_47 rfl (lv_at hl 5 rfl) ?_
      refine lv_iconst (v := nI 3) hx hb dL_jumps_48 (by decide) ?_
      refine lv_iload_n hx hb dL_jumps_49 rfl (lv_at hl 2 rfl) ?_
      refine rn_mul (a := 3) (b := k) hx hb dL_jumps_50 ?_
      refine lv_iconst (v := nI 3) hx hb dL_jumps_51 (by decide) ?_
      refine rn_add (a := 3 * k) (b := 3) hx hb dL_jumps_52 ?_
      refine lv_iload hx hb dL_jumps_53 (lv_at hl 0 rfl) ?_
      refine rn_add (a := 3 * k + 3) (b := 0) hx hb dL_jumps_55 ?_
      refine rn_iald (i := 3 * k + 3 + 0) hx hb hK hP 2 0 rfl rfl (by omega) (by omega) dL_jumps_56 ?_
      refine lv_aload_n hx hb dL_jumps_57 rfl (lv_at hl 3 rfl) ?_
      refine lv_aload_n hx hb dL_jumps_58 rfl (lv_at hl 4 rfl) ?_
      refine rwS5 (rest := [.int (lPr vq vd k 0 (vl (3 * k + 0)))]) S (c_L_prints l E (k + 1) 0 (vl (3 * k + 3 + 0)) aq ad vq vd (by omega) (by omega)) cd_L_prints bw_407 ⟨Nat.le_of_ble_eq_true rfl, Nat.le_of_ble_eq_true rfl⟩ ⟨Nat.zero_le _, Nat.zero_le _⟩ hP (hDa.to rfl) hE hA hS [0, 1] rfl rfl [aq, ad] rfl rfl (Nat.le_of_ble_eq_true rfl) hl.1 dL_jumps_59 (fun H locs hP _ hS => ?_)
      have hP : va_P E.1 vwCl [(aq, .inl (E.2.1, 13, .inl vq)), (ad, .inl (E.2.1, 63, .inl vd)), (al, .inl (E.2.1, 63, .inl vl))] H := hP
      refine lv_isub hx hb dL_jumps_62 ?_
      refine rwS1 (rest := []) S (c_L_size l E (lPr vq vd k 0 (vl (3 * k + 0)) - (lPr vq vd (k + 1) 0 (vl (3 * k + 3 + 0))))) cd_L_size bw_392 ⟨Nat.le_of_ble_eq_true rfl, Nat.le_of_ble_eq_true rfl⟩ ⟨Nat.zero_le _, Nat.zero_le _⟩ hP (hDa.to rfl) hE hA hS [] rfl rfl [] rfl rfl (Nat.le_of_ble_eq_true rfl) hl.1 dL_jumps_63 (fun H locs hP _ hS => ?_)
      have hP : va_P E.1 vwCl [(aq, .inl (E.2.1, 13, .inl vq)), (ad, .inl (E.2.1, 63, .inl vd)), (al, .inl (E.2.1, 63, .inl vl))] H := hP
      refine lv_aload_n hx hb dL_jumps_66 rfl (lv_at hl 3 rfl) ?_
      refine lv_iconst (v := nI 2) hx hb dL_jumps_67 (by decide) ?_
      refine rn_iald (i := 2) hx hb hK hP 0 0 rfl rfl (by omega) (by omega) dL_jumps_68 ?_
      refine lv_icmp_le (tgt := 76) hx hb dL_jumps_69 (by decide) (fun c_3 => ?_) (fun c_3 => ?_)
      · refine lv_iconst (v := nI 0) hx hb dL_jumps_76 (by decide) ?_
        have hj9 := hj _ _ hP hS
        rw [if_pos c_3] at hj9
        exact hj9
      · refine lv_iconst (v := nI 1) hx hb dL_jumps_72 (by decide) ?_
        refine lv_goto (tgt := 77) hx hb dL_jumps_73 (by decide) ?_
        have hj9 := hj _ _ hP hS
        rw [if_neg c_3] at hj9
        exact hj9
    intro H locs hP hS
    refine lv_istore (lv' := [(4, .int (if lSz (lPr vq vd k 0 (vl (3 * k + 0)) - (lPr vq vd (k + 1) 0 (vl (3 * k + 3 + 0)))) ≤ vq 2 then nI 0 else nI 1)), (5, .int (nI 0)), (0, .int (nI k)), (1, .ref aq), (2, .ref ad), (3, .ref al)]) hx hb dL_jumps_77 hl (by decide) rfl (fun ls hl => ?_)
    refine rn_inc (a := 0) (d := 1) (lv' := [(5, .int (nI 1)), (4, .int (if lSz (lPr vq vd k 0 (vl (3 * k + 0)) - (lPr vq vd (k + 1) 0 (vl (3 * k + 3 + 0)))) ≤ vq 2 then nI 0 else nI 1)), (0, .int (nI k)), (1, .ref aq), (2, .ref ad), (3, .ref al)]) hx hb dL_jumps_79 hl (k := 1) rfl (by decide) (by decide) rfl (fun ls hl => ?_)
    refine lv_goto (tgt := 6) hx hb dL_jumps_82 (by decide) ?_
    refine lv_iload hx hb dL_jumps_6 (lv_at hl 0 rfl) ?_
    refine lv_iconst (v := nI 3) hx hb dL_jumps_8 (by decide) ?_
    refine rn_icmp_ge (a := 1) (b := 3) (tgt := 85) hx hb (by omega) (by omega) dL_jumps_9 (by decide) (fun c_4 => absurd c_4 (by omega)) (fun c_4 => ?_)
    refine lv_iload_n hx hb dL_jumps_12 rfl (lv_at hl 2 rfl) ?_
    refine lv_iconst (v := nI 1) hx hb dL_jumps_13 (by decide) ?_
    refine rn_add (a := k) (b := 1) hx hb dL_jumps_14 ?_
    refine lv_aload_n hx hb dL_jumps_15 rfl (lv_at hl 3 rfl) ?_
    refine lv_iconst (v := nI 4) hx hb dL_jumps_16 (by decide) ?_
    refine rn_iald (i := 4) hx hb hK hP 0 0 rfl rfl (by omega) (by omega) dL_jumps_17 ?_
    refine W.eq (congrArg (fun z9 => F0 m 18 ls (.int z9 :: [.int (nI (k + 1))])) (show vq 4 = nI n from hf)) ?_
    refine rn_icmp_ge (a := k + 1) (b := n) (tgt := 85) hx hb (by omega) (by omega) dL_jumps_18 (by decide) (fun c_5 => absurd c_5 (by omega)) (fun c_5 => ?_)
    refine lv_iload hx hb dL_jumps_21 (lv_at hl 1 rfl) ?_
    refine (fun (hj : ∀ (H : Heap) (locs : List Loc), va_P E.1 vwCl [(aq, .inl (E.2.1, 13, .inl vq)), (ad, .inl (E.2.1, 63, .inl vd)), (al, .inl (E.2.1, 63, .inl vl))] H → va_S A s.heap H locs → W pg l e (rq 1) s m ([.int (nI k), .ref aq, .ref ad, .ref al] : List Value).toArray below meth c H locs 0 0 Q (F0 m 77 ls [.int (if (if lSz (lPr vq vd k 0 (vl (3 * k + 0)) - (lPr vq vd (k + 1) 0 (vl (3 * k + 3 + 0)))) ≤ vq 2 then nI 0 else nI 1) = 0 then if lSz (lPr vq vd k 1 (vl (3 * k + 1)) - (lPr vq vd (k + 1) 1 (vl (3 * k + 3 + 1)))) ≤ vq 2 then nI 0 else nI 1 else nI 1)])) => ?_) ?_
    · refine lv_if_ne (tgt := 72) hx hb dL_jumps_23 (by decide) (fun c_6 => ?_) (fun c_6 => ?_)
      · refine lv_iconst (v := nI 1) hx hb dL_jumps_72 (by decide) ?_
        refine lv_goto (tgt := 77) hx hb dL_jumps_73 (by decide) ?_
        have hj9 := hj _ _ hP hS
        rw [if_neg c_6] at hj9
        exact hj9
      · refine lv_iload_n hx hb dL_jumps_26 rfl (lv_at hl 2 rfl) ?_
        refine lv_iload hx hb dL_jumps_27 (lv_at hl 0 rfl) ?_
        refine lv_aload_n hx hb dL_jumps_29 rfl (lv_at hl 5 rfl) ?_
        refine lv_iconst (v := nI 3) hx hb dL_jumps_30 (by decide) ?_
        refine lv_iload_n hx hb dL_jumps_31 rfl (lv_at hl 2 rfl) ?_
        refine rn_mul (a := 3) (b := k) hx hb dL_jumps_32 ?_
        refine lv_iload hx hb dL_jumps_33 (lv_at hl 0 rfl) ?_
        refine rn_add (a := 3 * k) (b := 1) hx hb dL_jumps_35 ?_
        refine rn_iald (i := 3 * k + 1) hx hb hK hP 2 0 rfl rfl (by omega) (by omega) dL_jumps_36 ?_
        refine lv_aload_n hx hb dL_jumps_37 rfl (lv_at hl 3 rfl) ?_
        refine lv_aload_n hx hb dL_jumps_38 rfl (lv_at hl 4 rfl) ?_
        refine rwS5 (rest := []) S (c_L_prints l E k 1 (vl (3 * k + 1)) aq ad vq vd (by omega) (by omega)) cd_L_prints bw_407 ⟨Nat.le_of_ble_eq_true rfl, Nat.le_of_ble_eq_true rfl⟩ ⟨Nat.zero_le _, Nat.zero_le _⟩ hP (hDa.to rfl) hE hA hS [0, 1] rfl rfl [aq, ad] rfl rfl (Nat.le_of_ble_eq_true rfl) hl.1 dL_jumps_39 (fun H locs hP _ hS => ?_)
        have hP : va_P E.1 vwCl [(aq, .inl (E.2.1, 13, .inl vq)), (ad, .inl (E.2.1, 63, .inl vd)), (al, .inl (E.2.1, 63, .inl vl))] H := hP
        refine lv_iload_n hx hb dL_jumps_42 rfl (lv_at hl 2 rfl) ?_
        refine lv_iconst (v := nI 1) hx hb dL_jumps_43 (by decide) ?_
        refine rn_add (a := k) (b := 1) hx hb dL_jumps_44 ?_
        refine lv_iload hx hb dL_jumps_45 (lv_at hl 0 rfl) ?_
        refine lv_aload_n hx hb dL_jumps_47 rfl (lv_at hl 5 rfl) ?_
        refine lv_iconst (v := nI 3) hx hb dL_jumps_48 (by decide) ?_
        refine lv_iload_n hx hb dL_jumps_49 rfl (lv_at hl 2 rfl) ?_
        refine rn_mul (a := 3) (b := k) hx hb dL_jumps_50 ?_
        refine lv_iconst (v := nI 3) hx hb dL_jumps_51 (by decide) ?_
        refine rn_add (a := 3 * k) (b := 3) hx hb dL_jumps_52 ?_
        refine lv_iload hx hb dL_jumps_53 (lv_at hl 0 rfl) ?_
        refine rn_add (a := 3 * k + 3) (b := 1) hx hb dL_jumps_55 ?_
        refine rn_iald (i := 3 * k + 3 + 1) hx hb hK hP 2 0 rfl rfl (by omega) (by omega) dL_jumps_56 ?_
        refine lv_aload_n hx hb dL_jumps_57 rfl (lv_at hl 3 rfl) ?_
        refine lv_aload_n hx hb dL_jumps_58 rfl (lv_at hl 4 rfl) ?_
        refine rwS5 (rest := [.int (lPr vq vd k 1 (vl (3 * k + 1)))]) S (c_L_prints l E (k + 1) 1 (vl (3 * k + 3 + 1)) aq ad vq vd (by omega) (by omega)) cd_L_prints bw_407 ⟨Nat.le_of_ble_eq_true rfl, Nat.le_of_ble_eq_true rfl⟩ ⟨Nat.zero_le _, Nat.zero_le _⟩ hP (hDa.to rfl) hE hA hS [0, 1] rfl rfl [aq, ad] rfl rfl (Nat.le_of_ble_eq_true rfl) hl.1 dL_jumps_59 (fun H locs hP _ hS => ?_)
        have hP : va_P E.1 vwCl [(aq, .inl (E.2.1, 13, .inl vq)), (ad, .inl (E.2.1, 63, .inl vd)), (al, .inl (E.2.1, 63, .inl vl))] H := hP
        refine lv_isub hx hb dL_jumps_62 ?_
        refine rwS1 (rest := []) S (c_L_size l E (lPr vq vd k 1 (vl (3 * k + 1)) - (lPr vq vd (k + 1) 1 (vl (3 * k + 3 + 1))))) cd_L_size bw_392 ⟨Nat.le_of_ble_eq_true rfl, Nat.le_of_ble_eq_true rfl⟩ ⟨Nat.zero_le _, Nat.zero_le _⟩ hP (hDa.to rfl) hE hA hS [] rfl rfl [] rfl rfl (Nat.le_of_ble_eq_true rfl) hl.1 dL_jumps_63 (fun H locs hP _ hS => ?_)
        have hP : va_P E.1 vwCl [(aq, .inl (E.2.1, 13, .inl vq)), (ad, .inl (E.2.1, 63, .inl vd)), (al, .inl (E.2.1, 63, .inl vl))] H := hP
        refine lv_aload_n hx hb dL_jumps_66 rfl (lv_at hl 3 rfl) ?_
        refine lv_iconst (v := nI 2) hx hb dL_jumps_67 (by decide) ?_
        refine rn_iald (i := 2) hx hb hK hP 0 0 rfl rfl (by omega) (by omega) dL_jumps_68 ?_
        refine lv_icmp_le (tgt := 76) hx hb dL_jumps_69 (by decide) (fun c_7 => ?_) (fun c_7 => ?_)
        · refine lv_iconst (v := nI 0) hx hb dL_jumps_76 (by decide) ?_
          have hj9 := hj _ _ hP hS
          rw [if_pos c_6, if_pos c_7] at hj9
          exact hj9
        · refine lv_iconst (v := nI 1) hx hb dL_jumps_72 (by decide) ?_
          refine lv_goto (tgt := 77) hx hb dL_jumps_73 (by decide) ?_
          have hj9 := hj _ _ hP hS
          rw [if_pos c_6, if_neg c_7] at hj9
          exact hj9
    intro H locs hP hS
    refine lv_istore (lv' := [(4, .int (if (if lSz (lPr vq vd k 0 (vl (3 * k + 0)) - (lPr vq vd (k + 1) 0 (vl (3 * k + 3 + 0)))) ≤ vq 2 then nI 0 else nI 1) = 0 then if lSz (lPr vq vd k 1 (vl (3 * k + 1)) - (lPr vq vd (k + 1) 1 (vl (3 * k + 3 + 1)))) ≤ vq 2 then nI 0 else nI 1 else nI 1)), (5, .int (nI 1)), (0, .int (nI k)), (1, .ref aq), (2, .ref ad), (3, .ref al)]) hx hb dL_jumps_77 hl (by decide) rfl (fun ls hl => ?_)
    refine rn_inc (a := 1) (d := 1) (lv' := [(5, .int (nI 2)), (4, .int (if (if lSz (lPr vq vd k 0 (vl (3 * k + 0)) - (lPr vq vd (k + 1) 0 (vl (3 * k + 3 + 0)))) ≤ vq 2 then nI 0 else nI 1) = 0 then if lSz (lPr vq vd k 1 (vl (3 * k + 1)) - (lPr vq vd (k + 1) 1 (vl (3 * k + 3 + 1)))) ≤ vq 2 then nI 0 else nI 1 else nI 1)), (0, .int (nI k)), (1, .ref aq), (2, .ref ad), (3, .ref al)]) hx hb dL_jumps_79 hl (k := 1) rfl (by decide) (by decide) rfl (fun ls hl => ?_)
    refine lv_goto (tgt := 6) hx hb dL_jumps_82 (by decide) ?_
    refine lv_iload hx hb dL_jumps_6 (lv_at hl 0 rfl) ?_
    refine lv_iconst (v := nI 3) hx hb dL_jumps_8 (by decide) ?_
    refine rn_icmp_ge (a := 2) (b := 3) (tgt := 85) hx hb (by omega) (by omega) dL_jumps_9 (by decide) (fun c_8 => absurd c_8 (by omega)) (fun c_8 => ?_)
    refine lv_iload_n hx hb dL_jumps_12 rfl (lv_at hl 2 rfl) ?_
    refine lv_iconst (v := nI 1) hx hb dL_jumps_13 (by decide) ?_
    refine rn_add (a := k) (b := 1) hx hb dL_jumps_14 ?_
    refine lv_aload_n hx hb dL_jumps_15 rfl (lv_at hl 3 rfl) ?_
    refine lv_iconst (v := nI 4) hx hb dL_jumps_16 (by decide) ?_
    refine rn_iald (i := 4) hx hb hK hP 0 0 rfl rfl (by omega) (by omega) dL_jumps_17 ?_
    refine W.eq (congrArg (fun z9 => F0 m 18 ls (.int z9 :: [.int (nI (k + 1))])) (show vq 4 = nI n from hf)) ?_
    refine rn_icmp_ge (a := k + 1) (b := n) (tgt := 85) hx hb (by omega) (by omega) dL_jumps_18 (by decide) (fun c_9 => absurd c_9 (by omega)) (fun c_9 => ?_)
    refine lv_iload hx hb dL_jumps_21 (lv_at hl 1 rfl) ?_
    refine (fun (hj : ∀ (H : Heap) (locs : List Loc), va_P E.1 vwCl [(aq, .inl (E.2.1, 13, .inl vq)), (ad, .inl (E.2.1, 63, .inl vd)), (al, .inl (E.2.1, 63, .inl vl))] H → va_S A s.heap H locs → W pg l e (rq 1) s m ([.int (nI k), .ref aq, .ref ad, .ref al] : List Value).toArray below meth c H locs 0 0 Q (F0 m 77 ls [.int (if (if (if lSz (lPr vq vd k 0 (vl (3 * k + 0)) - (lPr vq vd (k + 1) 0 (vl (3 * k + 3 + 0)))) ≤ vq 2 then nI 0 else nI 1) = 0 then if lSz (lPr vq vd k 1 (vl (3 * k + 1)) - (lPr vq vd (k + 1) 1 (vl (3 * k + 3 + 1)))) ≤ vq 2 then nI 0 else nI 1 else nI 1) = 0 then if lSz (lPr vq vd k 2 (vl (3 * k + 2)) - (lPr vq vd (k + 1) 2 (vl (3 * k + 3 + 2)))) ≤ vq 2 then nI 0 else nI 1 else nI 1)])) => ?_) ?_
    · refine lv_if_ne (tgt := 72) hx hb dL_jumps_23 (by decide) (fun c_10 => ?_) (fun c_10 => ?_)
      · refine lv_iconst (v := nI 1) hx hb dL_jumps_72 (by decide) ?_
        refine lv_goto (tgt := 77) hx hb dL_jumps_73 (by decide) ?_
        have hj9 := hj _ _ hP hS
        rw [if_neg c_10] at hj9
        exact hj9
      · refine lv_iload_n hx hb dL_jumps_26 rfl (lv_at hl 2 rfl) ?_
        refine lv_iload hx hb dL_jumps_27 (lv_at hl 0 rfl) ?_
        refine lv_aload_n hx hb dL_jumps_29 rfl (lv_at hl 5 rfl) ?_
        refine lv_iconst (v := nI 3) hx hb dL_jumps_30 (by decide) ?_
        refine lv_iload_n hx hb dL_jumps_31 rfl (lv_at hl 2 rfl) ?_
        refine rn_mul (a := 3) (b := k) hx hb dL_jumps_32 ?_
        refine lv_iload hx hb dL_jumps_33 (lv_at hl 0 rfl) ?_
        refine rn_add (a := 3 * k) (b := 2) hx hb dL_jumps_35 ?_
        refine rn_iald (i := 3 * k + 2) hx hb hK hP 2 0 rfl rfl (by omega) (by omega) dL_jumps_36 ?_
        refine lv_aload_n hx hb dL_jumps_37 rfl (lv_at hl 3 rfl) ?_
        refine lv_aload_n hx hb dL_jumps_38 rfl (lv_at hl 4 rfl) ?_
        refine rwS5 (rest := []) S (c_L_prints l E k 2 (vl (3 * k + 2)) aq ad vq vd (by omega) (by omega)) cd_L_prints bw_407 ⟨Nat.le_of_ble_eq_true rfl, Nat.le_of_ble_eq_true rfl⟩ ⟨Nat.zero_le _, Nat.zero_le _⟩ hP (hDa.to rfl) hE hA hS [0, 1] rfl rfl [aq, ad] rfl rfl (Nat.le_of_ble_eq_true rfl) hl.1 dL_jumps_39 (fun H locs hP _ hS => ?_)
        have hP : va_P E.1 vwCl [(aq, .inl (E.2.1, 13, .inl vq)), (ad, .inl (E.2.1, 63, .inl vd)), (al, .inl (E.2.1, 63, .inl vl))] H := hP
        refine lv_iload_n hx hb dL_jumps_42 rfl (lv_at hl 2 rfl) ?_
        refine lv_iconst (v := nI 1) hx hb dL_jumps_43 (by decide) ?_
        refine rn_add (a := k) (b := 1) hx hb dL_jumps_44 ?_
        refine lv_iload hx hb dL_jumps_45 (lv_at hl 0 rfl) ?_
        refine lv_aload_n hx hb dL_jumps_47 rfl (lv_at hl 5 rfl) ?_
        refine lv_iconst (v := nI 3) hx hb dL_jumps_48 (by decide) ?_
        refine lv_iload_n hx hb dL_jumps_49 rfl (lv_at hl 2 rfl) ?_
        refine rn_mul (a := 3) (b := k) hx hb dL_jumps_50 ?_
        refine lv_iconst (v := nI 3) hx hb dL_jumps_51 (by decide) ?_
        refine rn_add (a := 3 * k) (b := 3) hx hb dL_jumps_52 ?_
        refine lv_iload hx hb dL_jumps_53 (lv_at hl 0 rfl) ?_
        refine rn_add (a := 3 * k + 3) (b := 2) hx hb dL_jumps_55 ?_
        refine rn_iald (i := 3 * k + 3 + 2) hx hb hK hP 2 0 rfl rfl (by omega) (by omega) dL_jumps_56 ?_
        refine lv_aload_n hx hb dL_jumps_57 rfl (lv_at hl 3 rfl) ?_
        refine lv_aload_n hx hb dL_jumps_58 rfl (lv_at hl 4 rfl) ?_
        refine rwS5 (rest := [.int (lPr vq vd k 2 (vl (3 * k + 2)))]) S (c_L_prints l E (k + 1) 2 (vl (3 * k + 3 + 2)) aq ad vq vd (by omega) (by omega)) cd_L_prints bw_407 ⟨Nat.le_of_ble_eq_true rfl, Nat.le_of_ble_eq_true rfl⟩ ⟨Nat.zero_le _, Nat.zero_le _⟩ hP (hDa.to rfl) hE hA hS [0, 1] rfl rfl [aq, ad] rfl rfl (Nat.le_of_ble_eq_true rfl) hl.1 dL_jumps_59 (fun H locs hP _ hS => ?_)
        have hP : va_P E.1 vwCl [(aq, .inl (E.2.1, 13, .inl vq)), (ad, .inl (E.2.1, 63, .inl vd)), (al, .inl (E.2.1, 63, .inl vl))] H := hP
        refine lv_isub hx hb dL_jumps_62 ?_
        refine rwS1 (rest := []) S (c_L_size l E (lPr vq vd k 2 (vl (3 * k + 2)) - (lPr vq vd (k + 1) 2 (vl (3 * k + 3 + 2))))) cd_L_size bw_392 ⟨Nat.le_of_ble_eq_true rfl, Nat.le_of_ble_eq_true rfl⟩ ⟨Nat.zero_le _, Nat.zero_le _⟩ hP (hDa.to rfl) hE hA hS [] rfl rfl [] rfl rfl (Nat.le_of_ble_eq_true rfl) hl.1 dL_jumps_63 (fun H locs hP _ hS => ?_)
        have hP : va_P E.1 vwCl [(aq, .inl (E.2.1, 13, .inl vq)), (ad, .inl (E.2.1, 63, .inl vd)), (al, .inl (E.2.1, 63, .inl vl))] H := hP
        refine lv_aload_n hx hb dL_jumps_66 rfl (lv_at hl 3 rfl) ?_
        refine lv_iconst (v := nI 2) hx hb dL_jumps_67 (by decide) ?_
        refine rn_iald (i := 2) hx hb hK hP 0 0 rfl rfl (by omega) (by omega) dL_jumps_68 ?_
        refine lv_icmp_le (tgt := 76) hx hb dL_jumps_69 (by decide) (fun c_11 => ?_) (fun c_11 => ?_)
        · refine lv_iconst (v := nI 0) hx hb dL_jumps_76 (by decide) ?_
          have hj9 := hj _ _ hP hS
          rw [if_pos c_10, if_pos c_11] at hj9
          exact hj9
        · refine lv_iconst (v := nI 1) hx hb dL_jumps_72 (by decide) ?_
          refine lv_goto (tgt := 77) hx hb dL_jumps_73 (by decide) ?_
          have hj9 := hj _ _ hP hS
          rw [if_pos c_10, if_neg c_11] at hj9
          exact hj9
    intro H locs hP hS
    refine lv_istore (lv' := [(4, .int (if (if (if lSz (lPr vq vd k 0 (vl (3 * k + 0)) - (lPr vq vd (k + 1) 0 (vl (3 * k + 3 + 0)))) ≤ vq 2 then nI 0 else nI 1) = 0 then if lSz (lPr vq vd k 1 (vl (3 * k + 1)) - (lPr vq vd (k + 1) 1 (vl (3 * k + 3 + 1)))) ≤ vq 2 then nI 0 else nI 1 else nI 1) = 0 then if lSz (lPr vq vd k 2 (vl (3 * k + 2)) - (lPr vq vd (k + 1) 2 (vl (3 * k + 3 + 2)))) ≤ vq 2 then nI 0 else nI 1 else nI 1)), (5, .int (nI 2)), (0, .int (nI k)), (1, .ref aq), (2, .ref ad), (3, .ref al)]) hx hb dL_jumps_77 hl (by decide) rfl (fun ls hl => ?_)
    refine rn_inc (a := 2) (d := 1) (lv' := [(5, .int (nI 3)), (4, .int (if (if (if lSz (lPr vq vd k 0 (vl (3 * k + 0)) - (lPr vq vd (k + 1) 0 (vl (3 * k + 3 + 0)))) ≤ vq 2 then nI 0 else nI 1) = 0 then if lSz (lPr vq vd k 1 (vl (3 * k + 1)) - (lPr vq vd (k + 1) 1 (vl (3 * k + 3 + 1)))) ≤ vq 2 then nI 0 else nI 1 else nI 1) = 0 then if lSz (lPr vq vd k 2 (vl (3 * k + 2)) - (lPr vq vd (k + 1) 2 (vl (3 * k + 3 + 2)))) ≤ vq 2 then nI 0 else nI 1 else nI 1)), (0, .int (nI k)), (1, .ref aq), (2, .ref ad), (3, .ref al)]) hx hb dL_jumps_79 hl (k := 1) rfl (by decide) (by decide) rfl (fun ls hl => ?_)
    refine lv_goto (tgt := 6) hx hb dL_jumps_82 (by decide) ?_
    refine lv_iload hx hb dL_jumps_6 (lv_at hl 0 rfl) ?_
    refine lv_iconst (v := nI 3) hx hb dL_jumps_8 (by decide) ?_
    refine rn_icmp_ge (a := 3) (b := 3) (tgt := 85) hx hb (by omega) (by omega) dL_jumps_9 (by decide) (fun c_12 => ?_) (fun c_12 => absurd c_12 (by omega))
    refine lv_iload hx hb dL_jumps_85 (lv_at hl 1 rfl) ?_
    exact hret _ _ _ _ _ _ (by rw [lJu, if_neg c_2]) rfl (by (repeat' split) <;> decide) hP hS dL_jumps_87

def lFt (vf : Nat → Int32) : Nat → Int32
  | 0 => nI 0
  | k + 1 => lFt vf k + vf k
/-- the first c numbers of one shot copied to another -/
def cpj (v : Nat → Int32) (a b c : Nat) : Nat → Int32 := fun k => if 3 * b ≤ k ∧ k < 3 * b + c then v (k + 3 * a - 3 * b) else v k
theorem cpj_0 (v : Nat → Int32) (a b : Nat) : cpj v a b 0 = v := by
  funext k; simp only [cpj]; split <;> first | rfl | omega
theorem cpj_s (v : Nat → Int32) {a b c : Nat} (hne : a ≠ b) (hc : c < 3) : upd (cpj v a b c) (3 * b + c) (cpj v a b c (3 * a + c)) = cpj v a b (c + 1) := by
  have e1 : cpj v a b c (3 * a + c) = v (3 * a + c) := by unfold cpj; rw [if_neg (by omega)]
  rw [e1]
  funext k; simp only [cpj, upd]; (repeat' split) <;> first | rfl | omega | exact congrArg v (by omega)
def cp3 (v : Nat → Int32) (a b : Nat) : Nat → Int32 := fun k => if 3 * b ≤ k ∧ k < 3 * b + 3 then v (k + 3 * a - 3 * b) else v k
theorem cp3_j (v : Nat → Int32) (a b : Nat) : cpj v a b 3 = cp3 v a b := rfl
theorem nI_m1 {n : Nat} (h : 0 < n) : nI n + (-1) = nI (n - 1) := by
  rw [← pk_sub h, Int32.sub_eq_add_neg]; rfl
/-- three numbers of one shot gone -/
def fo3 (v : Nat → Int32) (k : Nat) : Nat → Int32 := upd (upd (upd v (3 * k + 0) (nI 0)) (3 * k + 1) (nI 0)) (3 * k + 2) (nI 0)
def cp1 (v : Nat → Int32) (a b : Nat) : Nat → Int32 := upd v b (v a)
/-- shots moved one place on (from p, n of them), and one place back -/
def su1 (v : Nat → Int32) (n t : Nat) : Nat → Int32 := fun k => if t < k ∧ k ≤ n then v (k - 1) else v k
def su3 (v : Nat → Int32) (n t : Nat) : Nat → Int32 := fun k => if 3 * t + 3 ≤ k ∧ k < 3 * n + 3 then v (k - 3) else v k
def sd1 (v : Nat → Int32) (p t : Nat) : Nat → Int32 := fun k => if p ≤ k ∧ k < t then v (k + 1) else v k
def sd3 (v : Nat → Int32) (p t : Nat) : Nat → Int32 := fun k => if 3 * p ≤ k ∧ k < 3 * t then v (k + 3) else v k
theorem su1_0 (v : Nat → Int32) (n : Nat) : su1 v n n = v := by
  funext k; simp only [su1]; split <;> first | rfl | omega
theorem su3_0 (v : Nat → Int32) (n : Nat) : su3 v n n = v := by
  funext k; simp only [su3]; split <;> first | rfl | omega
theorem sd1_0 (v : Nat → Int32) (p : Nat) : sd1 v p p = v := by
  funext k; simp only [sd1]; split <;> first | rfl | omega
theorem sd3_0 (v : Nat → Int32) (p : Nat) : sd3 v p p = v := by
  funext k; simp only [sd3]; split <;> first | rfl | omega
theorem su1_s (v : Nat → Int32) {n t : Nat} (h1 : 0 < t) (h2 : t ≤ n) : cp1 (su1 v n t) (t - 1) t = su1 v n (t - 1) := by
  funext k; simp only [su1, cp1, upd]; (repeat' split) <;> first | rfl | omega | exact congrArg v (by omega)
theorem su3_s (v : Nat → Int32) {n t : Nat} (h1 : 0 < t) (h2 : t ≤ n) : cp3 (su3 v n t) (t - 1) t = su3 v n (t - 1) := by
  funext k; simp only [su3, cp3]; (repeat' split) <;> first | rfl | omega | exact congrArg v (by omega)
theorem sd1_s (v : Nat → Int32) {p t : Nat} (h : p ≤ t) : cp1 (sd1 v p t) (t + 1) t = sd1 v p (t + 1) := by
  funext k; simp only [sd1, cp1, upd]; (repeat' split) <;> first | rfl | omega | exact congrArg v (by omega)
theorem sd3_s (v : Nat → Int32) {p t : Nat} (h : p ≤ t) : cp3 (sd3 v p t) (t + 1) t = sd3 v p (t + 1) := by
  funext k; simp only [sd3, cp3]; (repeat' split) <;> first | rfl | omega | exact congrArg v (by omega)
theorem cd_L_feet : cdS yL_feet cL_feet 4 (some .int) 2 := ⟨⟨bw_403, bw_1, by decide, by decide, by decide +kernel⟩, bw_402⟩
set_option maxHeartbeats 4000000 in
set_option maxRecDepth 100000 in
theorem c_L_feet (l : Launch) (E : EV) (n : Nat) (af : Nat) (vf : Nat → Int32) (hn : n ≤ 20) : rcI l E yL_feet cL_feet 4 .int 0 [.int (nI n), .ref af] [(af, .inl (E.2.1, 21, .inl vf))] (lFt vf n) [(af, .inl (E.2.1, 21, .inl vf))] := by
  refine rcI_of (by decide) (Nat.le_of_ble_eq_true rfl) ?_
  intro pg e s m below meth c Q A ls S hP hD0 hE hA hl hret
  have hx := S.1
  have hb := S.2.1
  have hown := S.2.2.2.1
  have hts := S.2.2.2.2
  have hK := hE.1
  have hS : va_S A s.heap s.heap [] := va_S.rf
  have hDa : va_Da A [af] := ⟨_, hD0, rfl⟩
  have hl : lv_has ls 4 [(0, .int (nI n)), (1, .ref af)] := hl
  refine lv_iconst (v := nI 0) hx hb dL_feet_0 (by decide) ?_
  refine lv_istore_n (lv' := [(2, .int (nI 0)), (0, .int (nI n)), (1, .ref af)]) hx hb dL_feet_1 rfl hl (by decide) rfl (fun ls hl => ?_)
  refine lv_iconst (v := nI 0) hx hb dL_feet_2 (by decide) ?_
  refine lv_istore_n (lv' := [(3, .int (nI 0)), (2, .int (nI 0)), (0, .int (nI n)), (1, .ref af)]) hx hb dL_feet_3 rfl hl (by decide) rfl (fun ls hl => ?_)
  have loop4 : ∀ (fuel : Nat) (k : Nat), n - k < fuel → (k ≤ n) → ∀ (H : Heap) (locs : List Loc), va_P E.1 vwCl [(af, .inl (E.2.1, 21, .inl vf))] H → va_S A s.heap H locs → ∀ ls : Array Slot, lv_has ls 4 [(3, .int (nI k)), (2, .int (lFt vf k)), (0, .int (nI n)), (1, .ref af)] → W pg l e (rq 0) s m ([.int (nI n), .ref af] : List Value).toArray below meth c H locs 0 0 Q (F0 m 4 ls []) := by
    intro fuel
    induction fuel with
    | zero => intro k h9; exact absurd h9 (Nat.not_lt_zero _)
    | succ fuel ih4 =>
      intro k hfu4 hk H locs hP hS ls hl
      refine lv_iload_n hx hb dL_feet_4 rfl (lv_at hl 0 rfl) ?_
      refine lv_iload_n hx hb dL_feet_5 rfl (lv_at hl 2 rfl) ?_
      refine rn_icmp_ge (a := k) (b := n) (tgt := 21) hx hb (by omega) (by omega) dL_feet_6 (by decide) (fun c_1 => ?_) (fun c_1 => ?_)
      · have hex : n = k := by omega
        subst hex
        refine lv_iload_n hx hb dL_feet_21 rfl (lv_at hl 1 rfl) ?_
        exact hret _ _ _ _ _ _ rfl rfl rfl hP hS dL_feet_22
      · refine lv_iload_n hx hb dL_feet_9 rfl (lv_at hl 1 rfl) ?_
        refine lv_aload_n hx hb dL_feet_10 rfl (lv_at hl 3 rfl) ?_
        refine lv_iload_n hx hb dL_feet_11 rfl (lv_at hl 0 rfl) ?_
        refine rn_iald (i := k) hx hb hK hP 0 0 rfl rfl (by omega) (by omega) dL_feet_12 ?_
        refine lv_iadd hx hb dL_feet_13 ?_
        refine lv_istore_n (lv' := [(2, .int (lFt vf k + (vf k))), (3, .int (nI k)), (0, .int (nI n)), (1, .ref af)]) hx hb dL_feet_14 rfl hl (by decide) rfl (fun ls hl => ?_)
        refine rn_inc (a := k) (d := 1) (lv' := [(3, .int (nI (k + 1))), (2, .int (lFt vf k + (vf k))), (0, .int (nI n)), (1, .ref af)]) hx hb dL_feet_15 hl (k := 1) rfl (by decide) (by decide) rfl (fun ls hl => ?_)
        refine lv_goto (tgt := 4) hx hb dL_feet_18 (by decide) ?_
        have hl : lv_has ls 4 [(3, .int (nI (k + 1))), (2, .int (lFt vf (k + 1))), (0, .int (nI n)), (1, .ref af)] := lv_sub hl [0, 1, 2, 3] rfl
        exact ih4 (k + 1) (by omega) (by omega) _ _ hP hS _ hl
  have hl : lv_has ls 4 [(3, .int (nI 0)), (2, .int (lFt vf 0)), (0, .int (nI n)), (1, .ref af)] := lv_sub hl [0, 1, 2, 3] rfl
  exact loop4 _ 0 (Nat.lt_succ_self _) (by omega) _ _ hP hS _ hl

theorem cd_L_copy : cdS yL_copy cL_copy 8 none 7 := ⟨⟨bw_385, bw_1, by decide, by decide, by decide +kernel⟩, bw_384⟩
set_option maxHeartbeats 4000000 in
set_option maxRecDepth 100000 in
theorem c_L_copy (l : Launch) (E : EV) (a : Nat) (b : Nat) (af : Nat) (ad : Nat) (aw : Nat) (al : Nat) (ar : Nat) (vf : Nat → Int32) (vd : Nat → Int32) (vw : Nat → Int32) (vl : Nat → Int32) (vr : Nat → Int32) (h1 : a < 21) (h2 : b < 21) (hne : a ≠ b) : rcV l E yL_copy cL_copy 8 0 [.int (nI a), .int (nI b), .ref af, .ref ad, .ref aw, .ref al, .ref ar] [(af, .inl (E.2.1, 21, .inl vf)), (ad, .inl (E.2.1, 63, .inl vd)), (aw, .inl (E.2.1, 63, .inl vw)), (al, .inl (E.2.1, 63, .inl vl)), (ar, .inl (E.2.1, 63, .inl vr))] [(af, .inl (E.2.1, 21, .inl (cp1 vf a b))), (ad, .inl (E.2.1, 63, .inl (cp3 vd a b))), (aw, .inl (E.2.1, 63, .inl (cp3 vw a b))), (al, .inl (E.2.1, 63, .inl (cp3 vl a b))), (ar, .inl (E.2.1, 63, .inl (cp3 vr a b)))] := by
  refine rcV_of (by decide) (Nat.le_of_ble_eq_true rfl) ?_
  intro pg e s m below meth c Q A ls S hP hD0 hE hA hl hret
  have hx := S.1
  have hb := S.2.1
  have hown := S.2.2.2.1
  have hts := S.2.2.2.2
  have hK := hE.1
  have hS : va_S A s.heap s.heap [] := va_S.rf
  have hDa : va_Da A [af, ad, aw, al, ar] := ⟨_, hD0, rfl⟩
  have hl : lv_has ls 8 [(0, .int (nI a)), (1, .int (nI b)), (2, .ref af), (3, .ref ad), (4, .ref aw), (5, .ref al), (6, .ref ar)] := hl
  refine lv_aload_n hx hb dL_copy_0 rfl (lv_at hl 2 rfl) ?_
  refine lv_iload_n hx hb dL_copy_1 rfl (lv_at hl 1 rfl) ?_
  refine lv_aload_n hx hb dL_copy_2 rfl (lv_at hl 2 rfl) ?_
  refine lv_iload_n hx hb dL_copy_3 rfl (lv_at hl 0 rfl) ?_
  refine rn_iald (i := a) hx hb hK hP 0 0 rfl rfl (by omega) (by omega) dL_copy_4 ?_
  refine rn_iast (i := b) hx hb hK hP (hDa.to rfl) hS 0 0 rfl rfl (by omega) (by omega) dL_copy_5 (fun H locs hP _ hS => ?_)
  have hP : va_P E.1 vwCl [(af, .inl (E.2.1, 21, .inl (upd vf b (vf a)))), (ad, .inl (E.2.1, 63, .inl vd)), (aw, .inl (E.2.1, 63, .inl vw)), (al, .inl (E.2.1, 63, .inl vl)), (ar, .inl (E.2.1, 63, .inl vr))] H := hP
  refine lv_iconst (v := nI 0) hx hb dL_copy_6 (by decide) ?_
  refine lv_istore (lv' := [(7, .int (nI 0)), (0, .int (nI a)), (1, .int (nI b)), (2, .ref af), (3, .ref ad), (4, .ref aw), (5, .ref al), (6, .ref ar)]) hx hb dL_copy_7 hl (by decide) rfl (fun ls hl => ?_)
  have loop9 : ∀ (fuel : Nat) (co : Nat), 3 - co < fuel → (co ≤ 3) → ∀ (H : Heap) (locs : List Loc), va_P E.1 vwCl [(af, .inl (E.2.1, 21, .inl (cp1 vf a b))), (ad, .inl (E.2.1, 63, .inl (cpj vd a b co))), (aw, .inl (E.2.1, 63, .inl (cpj vw a b co))), (al, .inl (E.2.1, 63, .inl (cpj vl a b co))), (ar, .inl (E.2.1, 63, .inl (cpj vr a b co)))] H → va_S A s.heap H locs → ∀ ls : Array Slot, lv_has ls 8 [(7, .int (nI co)), (0, .int (nI a)), (1, .int (nI b)), (2, .ref af), (3, .ref ad), (4, .ref aw), (5, .ref al), (6, .ref ar)] → W pg l e (rq 0) s m ([.int (nI a), .int (nI b), .ref af, .ref ad, .ref aw, .ref al, .ref ar] : List Value).toArray below meth c H locs 0 0 Q (F0 m 9 ls []) := by
    intro fuel
    induction fuel with
    | zero => intro co h9; exact absurd h9 (Nat.not_lt_zero _)
    | succ fuel ih9 =>
      intro co hfu9 hc H locs hP hS ls hl
      refine lv_iload hx hb dL_copy_9 (lv_at hl 0 rfl) ?_
      refine lv_iconst (v := nI 3) hx hb dL_copy_11 (by decide) ?_
      refine rn_icmp_ge (a := co) (b := 3) (tgt := 91) hx hb (by omega) (by omega) dL_copy_12 (by decide) (fun c_1 => ?_) (fun c_1 => ?_)
      · have hex : 3 = co := by omega
        subst hex
        exact hret _ _ _ _ _ rfl hP hS dL_copy_91
      · refine lv_aload_n hx hb dL_copy_15 rfl (lv_at hl 4 rfl) ?_
        refine lv_iconst (v := nI 3) hx hb dL_copy_16 (by decide) ?_
        refine lv_iload_n hx hb dL_copy_17 rfl (lv_at hl 2 rfl) ?_
        refine rn_mul (a := 3) (b := b) hx hb dL_copy_18 ?_
        refine lv_iload hx hb dL_copy_19 (lv_at hl 0 rfl) ?_
        refine rn_add (a := 3 * b) (b := co) hx hb dL_copy_21 ?_
        refine lv_aload_n hx hb dL_copy_22 rfl (lv_at hl 4 rfl) ?_
        refine lv_iconst (v := nI 3) hx hb dL_copy_23 (by decide) ?_
        refine lv_iload_n hx hb dL_copy_24 rfl (lv_at hl 1 rfl) ?_
        refine rn_mul (a := 3) (b := a) hx hb dL_copy_25 ?_
        refine lv_iload hx hb dL_copy_26 (lv_at hl 0 rfl) ?_
        refine rn_add (a := 3 * a) (b := co) hx hb dL_copy_28 ?_
        refine rn_iald (i := 3 * a + co) hx hb hK hP 1 0 rfl rfl (by omega) (by omega) dL_copy_29 ?_
        refine rn_iast (i := 3 * b + co) hx hb hK hP (hDa.to rfl) hS 1 0 rfl rfl (by omega) (by omega) dL_copy_30 (fun H locs hP _ hS => ?_)
        have hP : va_P E.1 vwCl [(af, .inl (E.2.1, 21, .inl (cp1 vf a b))), (ad, .inl (E.2.1, 63, .inl (upd (cpj vd a b co) (3 * b + co) (cpj vd a b co (3 * a + co))))), (aw, .inl (E.2.1, 63, .inl (cpj vw a b co))), (al, .inl (E.2.1, 63, .inl (cpj vl a b co))), (ar, .inl (E.2.1, 63, .inl (cpj vr a b co)))] H := hP
        refine lv_aload hx hb dL_copy_31 (lv_at hl 5 rfl) ?_
        refine lv_iconst (v := nI 3) hx hb dL_copy_33 (by decide) ?_
        refine lv_iload_n hx hb dL_copy_34 rfl (lv_at hl 2 rfl) ?_
        refine rn_mul (a := 3) (b := b) hx hb dL_copy_35 ?_
        refine lv_iload hx hb dL_copy_36 (lv_at hl 0 rfl) ?_
        refine rn_add (a := 3 * b) (b := co) hx hb dL_copy_38 ?_
        refine lv_aload hx hb dL_copy_39 (lv_at hl 5 rfl) ?_
        refine lv_iconst (v := nI 3) hx hb dL_copy_41 (by decide) ?_
        refine lv_iload_n hx hb dL_copy_42 rfl (lv_at hl 1 rfl) ?_
        refine rn_mul (a := 3) (b := a) hx hb dL_copy_43 ?_
        refine lv_iload hx hb dL_copy_44 (lv_at hl 0 rfl) ?_
        refine rn_add (a := 3 * a) (b := co) hx hb dL_copy_46 ?_
        refine rn_iald (i := 3 * a + co) hx hb hK hP 2 0 rfl rfl (by omega) (by omega) dL_copy_47 ?_
        refine rn_iast (i := 3 * b + co) hx hb hK hP (hDa.to rfl) hS 2 0 rfl rfl (by omega) (by omega) dL_copy_48 (fun H locs hP _ hS => ?_)
        have hP : va_P E.1 vwCl [(af, .inl (E.2.1, 21, .inl (cp1 vf a b))), (ad, .inl (E.2.1, 63, .inl (upd (cpj vd a b co) (3 * b + co) (cpj vd a b co (3 * a + co))))), (aw, .inl (E.2.1, 63, .inl (upd (cpj vw a b co) (3 * b + co) (cpj vw a b co (3 * a + co))))), (al, .inl (E.2.1, 63, .inl (cpj vl a b co))), (ar, .inl (E.2.1, 63, .inl (cpj vr a b co)))] H := hP
        refine lv_aload hx hb dL_copy_49 (lv_at hl 6 rfl) ?_
        refine lv_iconst (v := nI 3) hx hb dL_copy_51 (by decide) ?_
        refine lv_iload_n hx hb dL_copy_52 rfl (lv_at hl 2 rfl) ?_
        refine rn_mul (a := 3) (b := b) hx hb dL_copy_53 ?_
        refine lv_iload hx hb dL_copy_54 (lv_at hl 0 rfl) ?_
        refine rn_add (a := 3 * b) (b := co) hx hb dL_copy_56 ?_
        refine lv_aload hx hb dL_copy_57 (lv_at hl 6 rfl) ?_
        refine lv_iconst (v := nI 3) hx hb dL_copy_59 (by decide) ?_
        refine lv_iload_n hx hb dL_copy_60 rfl (lv_at hl 1 rfl) ?_
        refine rn_mul (a := 3) (b := a) hx hb dL_copy_61 ?_
        refine lv_iload hx hb dL_copy_62 (lv_at hl 0 rfl) ?_
        refine rn_add (a := 3 * a) (b := co) hx hb dL_copy_64 ?_
        refine rn_iald (i := 3 * a + co) hx hb hK hP 3 0 rfl rfl (by omega) (by omega) dL_copy_65 ?_
        refine rn_iast (i := 3 * b + co) hx hb hK hP (hDa.to rfl) hS 3 0 rfl rfl (by omega) (by omega) dL_copy_66 (fun H locs hP _ hS => ?_)
        have hP : va_P E.1 vwCl [(af, .inl (E.2.1, 21, .inl (cp1 vf a b))), (ad, .inl (E.2.1, 63, .inl (upd (cpj vd a b co) (3 * b + co) (cpj vd a b co (3 * a + co))))), (aw, .inl (E.2.1, 63, .inl (upd (cpj vw a b co) (3 * b + co) (cpj vw a b co (3 * a + co))))), (al, .inl (E.2.1, 63, .inl (upd (cpj vl a b co) (3 * b + co) (cpj vl a b co (3 * a + co))))), (ar, .inl (E.2.1, 63, .inl (cpj vr a b co)))] H := hP
        refine lv_aload hx hb dL_copy_67 (lv_at hl 7 rfl) ?_
        refine lv_iconst (v := nI 3) hx hb dL_copy_69 (by decide) ?_
        refine lv_iload_n hx hb dL_copy_70 rfl (lv_at hl 2 rfl) ?_
        refine rn_mul (a := 3) (b := b) hx hb dL_copy_71 ?_
        refine lv_iload hx hb dL_copy_72 (lv_at hl 0 rfl) ?_
        refine rn_add (a := 3 * b) (b := co) hx hb dL_copy_74 ?_
        refine lv_aload hx hb dL_copy_75 (lv_at hl 7 rfl) ?_
        refine lv_iconst (v := nI 3) hx hb dL_copy_77 (by decide) ?_
        refine lv_iload_n hx hb dL_copy_78 rfl (lv_at hl 1 rfl) ?_
        refine rn_mul (a := 3) (b := a) hx hb dL_copy_79 ?_
        refine lv_iload hx hb dL_copy_80 (lv_at hl 0 rfl) ?_
        refine rn_add (a := 3 * a) (b := co) hx hb dL_copy_82 ?_
        refine rn_iald (i := 3 * a + co) hx hb hK hP 4 0 rfl rfl (by omega) (by omega) dL_copy_83 ?_
        refine rn_iast (i := 3 * b + co) hx hb hK hP (hDa.to rfl) hS 4 0 rfl rfl (by omega) (by omega) dL_copy_84 (fun H locs hP _ hS => ?_)
        have hP : va_P E.1 vwCl [(af, .inl (E.2.1, 21, .inl (cp1 vf a b))), (ad, .inl (E.2.1, 63, .inl (upd (cpj vd a b co) (3 * b + co) (cpj vd a b co (3 * a + co))))), (aw, .inl (E.2.1, 63, .inl (upd (cpj vw a b co) (3 * b + co) (cpj vw a b co (3 * a + co))))), (al, .inl (E.2.1, 63, .inl (upd (cpj vl a b co) (3 * b + co) (cpj vl a b co (3 * a + co))))), (ar, .inl (E.2.1, 63, .inl (upd (cpj vr a b co) (3 * b + co) (cpj vr a b co (3 * a + co)))))] H := hP
        refine rn_inc (a := co) (d := 1) (lv' := [(7, .int (nI (co + 1))), (0, .int (nI a)), (1, .int (nI b)), (2, .ref af), (3, .ref ad), (4, .ref aw), (5, .ref al), (6, .ref ar)]) hx hb dL_copy_85 hl (k := 0) rfl (by decide) (by decide) rfl (fun ls hl => ?_)
        refine lv_goto (tgt := 9) hx hb dL_copy_88 (by decide) ?_
        have hP : va_P E.1 vwCl [(af, .inl (E.2.1, 21, .inl (cp1 vf a b))), (ad, .inl (E.2.1, 63, .inl (cpj vd a b (co + 1)))), (aw, .inl (E.2.1, 63, .inl (cpj vw a b (co + 1)))), (al, .inl (E.2.1, 63, .inl (cpj vl a b (co + 1)))), (ar, .inl (E.2.1, 63, .inl (cpj vr a b (co + 1))))] H := by rw [cpj_s vd hne (by omega), cpj_s vw hne (by omega), cpj_s vl hne (by omega), cpj_s vr hne (by omega)] at hP; exact hP
        have hl : lv_has ls 8 [(7, .int (nI (co + 1))), (0, .int (nI a)), (1, .int (nI b)), (2, .ref af), (3, .ref ad), (4, .ref aw), (5, .ref al), (6, .ref ar)] := lv_sub hl [0, 1, 2, 3, 4, 5, 6, 7] rfl
        exact ih9 (co + 1) (by omega) (by omega) _ _ hP hS _ hl
  have hP : va_P E.1 vwCl [(af, .inl (E.2.1, 21, .inl (cp1 vf a b))), (ad, .inl (E.2.1, 63, .inl (cpj vd a b 0))), (aw, .inl (E.2.1, 63, .inl (cpj vw a b 0))), (al, .inl (E.2.1, 63, .inl (cpj vl a b 0))), (ar, .inl (E.2.1, 63, .inl (cpj vr a b 0)))] H := by rw [cpj_0, cpj_0, cpj_0, cpj_0]; exact hP
  have hl : lv_has ls 8 [(7, .int (nI 0)), (0, .int (nI a)), (1, .int (nI b)), (2, .ref af), (3, .ref ad), (4, .ref aw), (5, .ref al), (6, .ref ar)] := lv_sub hl [0, 1, 2, 3, 4, 5, 6, 7] rfl
  exact loop9 _ 0 (Nat.lt_succ_self _) (by omega) _ _ hP hS _ hl

theorem cd_L_shift : cdS yL_shift cL_shift 9 none 8 := ⟨⟨bw_382, bw_1, by decide, by decide, by decide +kernel⟩, bw_381⟩
set_option maxHeartbeats 4000000 in
set_option maxRecDepth 100000 in
theorem c_L_shift_u (l : Launch) (E : EV) (p : Nat) (aq : Nat) (af : Nat) (ad : Nat) (aw : Nat) (al : Nat) (ar : Nat) (vq : Nat → Int32) (vf : Nat → Int32) (vd : Nat → Int32) (vw : Nat → Int32) (vl : Nat → Int32) (vr : Nat → Int32) (n : Nat) (hf : vq 4 = nI n) (hn : n ≤ 20) (hp : p ≤ n) : rcV l E yL_shift cL_shift 9 1 [.int (nI p), .int (nI 1), .ref aq, .ref af, .ref ad, .ref aw, .ref al, .ref ar] [(aq, .inl (E.2.1, 13, .inl vq)), (af, .inl (E.2.1, 21, .inl vf)), (ad, .inl (E.2.1, 63, .inl vd)), (aw, .inl (E.2.1, 63, .inl vw)), (al, .inl (E.2.1, 63, .inl vl)), (ar, .inl (E.2.1, 63, .inl vr))] [(aq, .inl (E.2.1, 13, .inl (upd vq 4 (nI (n + 1))))), (af, .inl (E.2.1, 21, .inl (su1 vf n p))), (ad, .inl (E.2.1, 63, .inl (su3 vd n p))), (aw, .inl (E.2.1, 63, .inl (su3 vw n p))), (al, .inl (E.2.1, 63, .inl (su3 vl n p))), (ar, .inl (E.2.1, 63, .inl (su3 vr n p)))] := by
  refine rcV_of (by decide) (Nat.le_of_ble_eq_true rfl) ?_
  intro pg e s m below meth c Q A ls S hP hD0 hE hA hl hret
  have hx := S.1
  have hb := S.2.1
  have hown := S.2.2.2.1
  have hts := S.2.2.2.2
  have hK := hE.1
  have hS : va_S A s.heap s.heap [] := va_S.rf
  have hDa : va_Da A [aq, af, ad, aw, al, ar] := ⟨_, hD0, rfl⟩
  have hl : lv_has ls 9 [(0, .int (nI p)), (1, .int (nI 1)), (2, .ref aq), (3, .ref af), (4, .ref ad), (5, .ref aw), (6, .ref al), (7, .ref ar)] := hl
  refine lv_iload_n hx hb dL_shift_0 rfl (lv_at hl 1 rfl) ?_
  refine lv_if_le (tgt := 42) hx hb dL_shift_1 (by decide) (fun c9 => by first | exact absurd c9 (by decide) | exact absurd (by decide) c9) (fun _ => ?_)
  refine lv_aload_n hx hb dL_shift_4 rfl (lv_at hl 2 rfl) ?_
  refine lv_iconst (v := nI 4) hx hb dL_shift_5 (by decide) ?_
  refine rn_iald (i := 4) hx hb hK hP 0 0 rfl rfl (by omega) (by omega) dL_shift_6 ?_
  refine W.eq (congrArg (fun z9 => F0 m 7 ls (.int z9 :: [])) (show vq 4 = nI n from hf)) ?_
  refine lv_istore (lv' := [(8, .int (nI n)), (0, .int (nI p)), (1, .int (nI 1)), (2, .ref aq), (3, .ref af), (4, .ref ad), (5, .ref aw), (6, .ref al), (7, .ref ar)]) hx hb dL_shift_7 hl (by decide) rfl (fun ls hl => ?_)
  have loop9 : ∀ (fuel : Nat) (t : Nat), t < fuel → (p ≤ t) → (t ≤ n) → ∀ (H : Heap) (locs : List Loc), va_P E.1 vwCl [(aq, .inl (E.2.1, 13, .inl vq)), (af, .inl (E.2.1, 21, .inl (su1 vf n t))), (ad, .inl (E.2.1, 63, .inl (su3 vd n t))), (aw, .inl (E.2.1, 63, .inl (su3 vw n t))), (al, .inl (E.2.1, 63, .inl (su3 vl n t))), (ar, .inl (E.2.1, 63, .inl (su3 vr n t)))] H → va_S A s.heap H locs → ∀ ls : Array Slot, lv_has ls 9 [(8, .int (nI t)), (0, .int (nI p)), (1, .int (nI 1)), (2, .ref aq), (3, .ref af), (4, .ref ad), (5, .ref aw), (6, .ref al), (7, .ref ar)] → W pg l e (rq 1) s m ([.int (nI p), .int (nI 1), .ref aq, .ref af, .ref ad, .ref aw, .ref al, .ref ar] : List Value).toArray below meth c H locs 0 0 Q (F0 m 9 ls []) := by
    intro fuel
    induction fuel with
    | zero => intro t h9; exact absurd h9 (Nat.not_lt_zero _)
    | succ fuel ih9 =>
      intro t hfu9 ht1 ht2 H locs hP hS ls hl
      refine lv_iload hx hb dL_shift_9 (lv_at hl 0 rfl) ?_
      refine lv_iload_n hx hb dL_shift_11 rfl (lv_at hl 1 rfl) ?_
      refine rn_icmp_le (a := t) (b := p) (tgt := 39) hx hb (by omega) (by omega) dL_shift_12 (by decide) (fun c_1 => ?_) (fun c_1 => ?_)
      · refine lv_goto (tgt := 79) hx hb dL_shift_39 (by decide) ?_
        refine lv_aload_n hx hb dL_shift_79 rfl (lv_at hl 3 rfl) ?_
        refine lv_iconst (v := nI 4) hx hb dL_shift_80 (by decide) ?_
        refine lv_dup2_11 hx hb dL_shift_81 rfl rfl ?_
        refine rn_iald (i := 4) hx hb hK hP 0 0 rfl rfl (by omega) (by omega) dL_shift_82 ?_
        refine W.eq (congrArg (fun z9 => F0 m 83 ls (.int z9 :: [.int (nI 4), .ref aq])) (show vq 4 = nI n from hf)) ?_
        refine lv_iload_n hx hb dL_shift_83 rfl (lv_at hl 2 rfl) ?_
        refine rn_add (a := n) (b := 1) hx hb dL_shift_84 ?_
        refine rn_iast (i := 4) hx hb hK hP (hDa.to rfl) hS 0 0 rfl rfl (by omega) (by omega) dL_shift_85 (fun H locs hP _ hS => ?_)
        have hP : va_P E.1 vwCl [(aq, .inl (E.2.1, 13, .inl (upd vq 4 (nI (n + 1))))), (af, .inl (E.2.1, 21, .inl (su1 vf n t))), (ad, .inl (E.2.1, 63, .inl (su3 vd n t))), (aw, .inl (E.2.1, 63, .inl (su3 vw n t))), (al, .inl (E.2.1, 63, .inl (su3 vl n t))), (ar, .inl (E.2.1, 63, .inl (su3 vr n t)))] H := hP
        exact hret _ _ _ _ _ (by rw [show t = p by omega]) hP hS dL_shift_86
      · refine lv_iload hx hb dL_shift_15 (lv_at hl 0 rfl) ?_
        refine lv_iconst (v := nI 1) hx hb dL_shift_17 (by decide) ?_
        refine rn_sub (a := t) (b := 1) hx hb dL_shift_18 (by omega) ?_
        refine lv_iload hx hb dL_shift_19 (lv_at hl 0 rfl) ?_
        refine lv_aload_n hx hb dL_shift_21 rfl (lv_at hl 4 rfl) ?_
        refine lv_aload hx hb dL_shift_22 (lv_at hl 5 rfl) ?_
        refine lv_aload hx hb dL_shift_24 (lv_at hl 6 rfl) ?_
        refine lv_aload hx hb dL_shift_26 (lv_at hl 7 rfl) ?_
        refine lv_aload hx hb dL_shift_28 (lv_at hl 8 rfl) ?_
        refine rwSv7 (rest := []) S (c_L_copy l E (t - 1) t af ad aw al ar (su1 vf n t) (su3 vd n t) (su3 vw n t) (su3 vl n t) (su3 vr n t) (by omega) (by omega) (by omega)) cd_L_copy bw_383 ⟨Nat.le_of_ble_eq_true rfl, Nat.le_of_ble_eq_true rfl⟩ ⟨Nat.zero_le _, Nat.zero_le _⟩ hP (hDa.to rfl) hE hA hS [1, 2, 3, 4, 5] rfl rfl [af, ad, aw, al, ar] rfl rfl (Nat.le_of_ble_eq_true rfl) hl.1 dL_shift_30 (fun H locs hP _ hS => ?_)
        have hP : va_P E.1 vwCl [(aq, .inl (E.2.1, 13, .inl vq)), (af, .inl (E.2.1, 21, .inl (cp1 (su1 vf n t) (t - 1) t))), (ad, .inl (E.2.1, 63, .inl (cp3 (su3 vd n t) (t - 1) t))), (aw, .inl (E.2.1, 63, .inl (cp3 (su3 vw n t) (t - 1) t))), (al, .inl (E.2.1, 63, .inl (cp3 (su3 vl n t) (t - 1) t))), (ar, .inl (E.2.1, 63, .inl (cp3 (su3 vr n t) (t - 1) t)))] H := hP
        refine rn_dec (a := t) (lv' := [(8, .int (nI (t - 1))), (0, .int (nI p)), (1, .int (nI 1)), (2, .ref aq), (3, .ref af), (4, .ref ad), (5, .ref aw), (6, .ref al), (7, .ref ar)]) hx hb dL_shift_33 hl (k := 0) rfl (by decide) (by omega) (by decide) rfl (fun ls hl => ?_)
        refine lv_goto (tgt := 9) hx hb dL_shift_36 (by decide) ?_
        have hP : va_P E.1 vwCl [(aq, .inl (E.2.1, 13, .inl vq)), (af, .inl (E.2.1, 21, .inl (su1 vf n (t - 1)))), (ad, .inl (E.2.1, 63, .inl (su3 vd n (t - 1)))), (aw, .inl (E.2.1, 63, .inl (su3 vw n (t - 1)))), (al, .inl (E.2.1, 63, .inl (su3 vl n (t - 1)))), (ar, .inl (E.2.1, 63, .inl (su3 vr n (t - 1))))] H := by rw [su1_s _ (by omega) (by omega), su3_s _ (by omega) (by omega), su3_s _ (by omega) (by omega), su3_s _ (by omega) (by omega), su3_s _ (by omega) (by omega)] at hP; exact hP
        have hl : lv_has ls 9 [(8, .int (nI (t - 1))), (0, .int (nI p)), (1, .int (nI 1)), (2, .ref aq), (3, .ref af), (4, .ref ad), (5, .ref aw), (6, .ref al), (7, .ref ar)] := lv_sub hl [0, 1, 2, 3, 4, 5, 6, 7, 8] rfl
        exact ih9 (t - 1) (by omega) (by omega) (by omega) _ _ hP hS _ hl
  have hP : va_P E.1 vwCl [(aq, .inl (E.2.1, 13, .inl vq)), (af, .inl (E.2.1, 21, .inl (su1 vf n n))), (ad, .inl (E.2.1, 63, .inl (su3 vd n n))), (aw, .inl (E.2.1, 63, .inl (su3 vw n n))), (al, .inl (E.2.1, 63, .inl (su3 vl n n))), (ar, .inl (E.2.1, 63, .inl (su3 vr n n)))] s.heap := by rw [su1_0, su3_0, su3_0, su3_0, su3_0]; exact hP
  have hl : lv_has ls 9 [(8, .int (nI n)), (0, .int (nI p)), (1, .int (nI 1)), (2, .ref aq), (3, .ref af), (4, .ref ad), (5, .ref aw), (6, .ref al), (7, .ref ar)] := lv_sub hl [0, 1, 2, 3, 4, 5, 6, 7, 8] rfl
  exact loop9 _ n (Nat.lt_succ_self _) hp (by omega) _ _ hP hS _ hl

set_option maxHeartbeats 4000000 in
set_option maxRecDepth 100000 in
theorem c_L_shift_d (l : Launch) (E : EV) (p : Nat) (aq : Nat) (af : Nat) (ad : Nat) (aw : Nat) (al : Nat) (ar : Nat) (vq : Nat → Int32) (vf : Nat → Int32) (vd : Nat → Int32) (vw : Nat → Int32) (vl : Nat → Int32) (vr : Nat → Int32) (n : Nat) (hf : vq 4 = nI n) (hn : n ≤ 20) (hp : p < n) : rcV l E yL_shift cL_shift 9 1 [.int (nI p), .int (-1), .ref aq, .ref af, .ref ad, .ref aw, .ref al, .ref ar] [(aq, .inl (E.2.1, 13, .inl vq)), (af, .inl (E.2.1, 21, .inl vf)), (ad, .inl (E.2.1, 63, .inl vd)), (aw, .inl (E.2.1, 63, .inl vw)), (al, .inl (E.2.1, 63, .inl vl)), (ar, .inl (E.2.1, 63, .inl vr))] [(aq, .inl (E.2.1, 13, .inl (upd vq 4 (nI (n - 1))))), (af, .inl (E.2.1, 21, .inl (sd1 vf p (n - 1)))), (ad, .inl (E.2.1, 63, .inl (sd3 vd p (n - 1)))), (aw, .inl (E.2.1, 63, .inl (sd3 vw p (n - 1)))), (al, .inl (E.2.1, 63, .inl (sd3 vl p (n - 1)))), (ar, .inl (E.2.1, 63, .inl (sd3 vr p (n - 1))))] := by
  refine rcV_of (by decide) (Nat.le_of_ble_eq_true rfl) ?_
  intro pg e s m below meth c Q A ls S hP hD0 hE hA hl hret
  have hx := S.1
  have hb := S.2.1
  have hown := S.2.2.2.1
  have hts := S.2.2.2.2
  have hK := hE.1
  have hS : va_S A s.heap s.heap [] := va_S.rf
  have hDa : va_Da A [aq, af, ad, aw, al, ar] := ⟨_, hD0, rfl⟩
  have hl : lv_has ls 9 [(0, .int (nI p)), (1, .int (-1)), (2, .ref aq), (3, .ref af), (4, .ref ad), (5, .ref aw), (6, .ref al), (7, .ref ar)] := hl
  refine lv_iload_n hx hb dL_shift_0 rfl (lv_at hl 1 rfl) ?_
  refine lv_if_le (tgt := 42) hx hb dL_shift_1 (by decide) (fun c_1 => ?_) (fun c_1 => absurd c_1 (fun z => z (by decide)))
  refine lv_iload_n hx hb dL_shift_42 rfl (lv_at hl 0 rfl) ?_
  refine lv_istore (lv' := [(8, .int (nI p)), (0, .int (nI p)), (1, .int (-1)), (2, .ref aq), (3, .ref af), (4, .ref ad), (5, .ref aw), (6, .ref al), (7, .ref ar)]) hx hb dL_shift_43 hl (by decide) rfl (fun ls hl => ?_)
  have loop45 : ∀ (fuel : Nat) (t : Nat), n - t < fuel → (p ≤ t) → (t < n) → ∀ (H : Heap) (locs : List Loc), va_P E.1 vwCl [(aq, .inl (E.2.1, 13, .inl vq)), (af, .inl (E.2.1, 21, .inl (sd1 vf p t))), (ad, .inl (E.2.1, 63, .inl (sd3 vd p t))), (aw, .inl (E.2.1, 63, .inl (sd3 vw p t))), (al, .inl (E.2.1, 63, .inl (sd3 vl p t))), (ar, .inl (E.2.1, 63, .inl (sd3 vr p t)))] H → va_S A s.heap H locs → ∀ ls : Array Slot, lv_has ls 9 [(8, .int (nI t)), (0, .int (nI p)), (1, .int (-1)), (2, .ref aq), (3, .ref af), (4, .ref ad), (5, .ref aw), (6, .ref al), (7, .ref ar)] → W pg l e (rq 1) s m ([.int (nI p), .int (-1), .ref aq, .ref af, .ref ad, .ref aw, .ref al, .ref ar] : List Value).toArray below meth c H locs 0 0 Q (F0 m 45 ls []) := by
    intro fuel
    induction fuel with
    | zero => intro t h9; exact absurd h9 (Nat.not_lt_zero _)
    | succ fuel ih45 =>
      intro t hfu45 ht1 ht2 H locs hP hS ls hl
      refine lv_iload hx hb dL_shift_45 (lv_at hl 0 rfl) ?_
      refine lv_iconst (v := nI 1) hx hb dL_shift_47 (by decide) ?_
      refine rn_add (a := t) (b := 1) hx hb dL_shift_48 ?_
      refine lv_aload_n hx hb dL_shift_49 rfl (lv_at hl 3 rfl) ?_
      refine lv_iconst (v := nI 4) hx hb dL_shift_50 (by decide) ?_
      refine rn_iald (i := 4) hx hb hK hP 0 0 rfl rfl (by omega) (by omega) dL_shift_51 ?_
      refine W.eq (congrArg (fun z9 => F0 m 52 ls (.int z9 :: [.int (nI (t + 1))])) (show vq 4 = nI n from hf)) ?_
      refine rn_icmp_ge (a := t + 1) (b := n) (tgt := 79) hx hb (by omega) (by omega) dL_shift_52 (by decide) (fun c_2 => ?_) (fun c_2 => ?_)
      · refine lv_aload_n hx hb dL_shift_79 rfl (lv_at hl 3 rfl) ?_
        refine lv_iconst (v := nI 4) hx hb dL_shift_80 (by decide) ?_
        refine lv_dup2_11 hx hb dL_shift_81 rfl rfl ?_
        refine rn_iald (i := 4) hx hb hK hP 0 0 rfl rfl (by omega) (by omega) dL_shift_82 ?_
        refine W.eq (congrArg (fun z9 => F0 m 83 ls (.int z9 :: [.int (nI 4), .ref aq])) (show vq 4 = nI n from hf)) ?_
        refine lv_iload_n hx hb dL_shift_83 rfl (lv_at hl 2 rfl) ?_
        refine lv_iadd hx hb dL_shift_84 ?_
        refine rn_iast (i := 4) hx hb hK hP (hDa.to rfl) hS 0 0 rfl rfl (by omega) (by omega) dL_shift_85 (fun H locs hP _ hS => ?_)
        have hP : va_P E.1 vwCl [(aq, .inl (E.2.1, 13, .inl (upd vq 4 (nI n + (-1))))), (af, .inl (E.2.1, 21, .inl (sd1 vf p t))), (ad, .inl (E.2.1, 63, .inl (sd3 vd p t))), (aw, .inl (E.2.1, 63, .inl (sd3 vw p t))), (al, .inl (E.2.1, 63, .inl (sd3 vl p t))), (ar, .inl (E.2.1, 63, .inl (sd3 vr p t)))] H := hP
        exact hret _ _ _ _ _ (by rw [show n - 1 = t by omega, show nI n + (-1) = nI t from by rw [show t = n - 1 by omega, nI_m1 (by omega)]]) hP hS dL_shift_86
      · refine lv_iload hx hb dL_shift_55 (lv_at hl 0 rfl) ?_
        refine lv_iconst (v := nI 1) hx hb dL_shift_57 (by decide) ?_
        refine rn_add (a := t) (b := 1) hx hb dL_shift_58 ?_
        refine lv_iload hx hb dL_shift_59 (lv_at hl 0 rfl) ?_
        refine lv_aload_n hx hb dL_shift_61 rfl (lv_at hl 4 rfl) ?_
        refine lv_aload hx hb dL_shift_62 (lv_at hl 5 rfl) ?_
        refine lv_aload hx hb dL_shift_64 (lv_at hl 6 rfl) ?_
        refine lv_aload hx hb dL_shift_66 (lv_at hl 7 rfl) ?_
        refine lv_aload hx hb dL_shift_68 (lv_at hl 8 rfl) ?_
        refine rwSv7 (rest := []) S (c_L_copy l E (t + 1) t af ad aw al ar (sd1 vf p t) (sd3 vd p t) (sd3 vw p t) (sd3 vl p t) (sd3 vr p t) (by omega) (by omega) (by omega)) cd_L_copy bw_383 ⟨Nat.le_of_ble_eq_true rfl, Nat.le_of_ble_eq_true rfl⟩ ⟨Nat.zero_le _, Nat.zero_le _⟩ hP (hDa.to rfl) hE hA hS [1, 2, 3, 4, 5] rfl rfl [af, ad, aw, al, ar] rfl rfl (Nat.le_of_ble_eq_true rfl) hl.1 dL_shift_70 (fun H locs hP _ hS => ?_)
        have hP : va_P E.1 vwCl [(aq, .inl (E.2.1, 13, .inl vq)), (af, .inl (E.2.1, 21, .inl (cp1 (sd1 vf p t) (t + 1) t))), (ad, .inl (E.2.1, 63, .inl (cp3 (sd3 vd p t) (t + 1) t))), (aw, .inl (E.2.1, 63, .inl (cp3 (sd3 vw p t) (t + 1) t))), (al, .inl (E.2.1, 63, .inl (cp3 (sd3 vl p t) (t + 1) t))), (ar, .inl (E.2.1, 63, .inl (cp3 (sd3 vr p t) (t + 1) t)))] H := hP
        refine rn_inc (a := t) (d := 1) (lv' := [(8, .int (nI (t + 1))), (0, .int (nI p)), (1, .int (-1)), (2, .ref aq), (3, .ref af), (4, .ref ad), (5, .ref aw), (6, .ref al), (7, .ref ar)]) hx hb dL_shift_73 hl (k := 0) rfl (by decide) (by decide) rfl (fun ls hl => ?_)
        refine lv_goto (tgt := 45) hx hb dL_shift_76 (by decide) ?_
        have hP : va_P E.1 vwCl [(aq, .inl (E.2.1, 13, .inl vq)), (af, .inl (E.2.1, 21, .inl (sd1 vf p (t + 1)))), (ad, .inl (E.2.1, 63, .inl (sd3 vd p (t + 1)))), (aw, .inl (E.2.1, 63, .inl (sd3 vw p (t + 1)))), (al, .inl (E.2.1, 63, .inl (sd3 vl p (t + 1)))), (ar, .inl (E.2.1, 63, .inl (sd3 vr p (t + 1))))] H := by rw [sd1_s _ (by omega), sd3_s _ (by omega), sd3_s _ (by omega), sd3_s _ (by omega), sd3_s _ (by omega)] at hP; exact hP
        have hl : lv_has ls 9 [(8, .int (nI (t + 1))), (0, .int (nI p)), (1, .int (-1)), (2, .ref aq), (3, .ref af), (4, .ref ad), (5, .ref aw), (6, .ref al), (7, .ref ar)] := lv_sub hl [0, 1, 2, 3, 4, 5, 6, 7, 8] rfl
        exact ih45 (t + 1) (by omega) (by omega) (by omega) _ _ hP hS _ hl
  have hP : va_P E.1 vwCl [(aq, .inl (E.2.1, 13, .inl vq)), (af, .inl (E.2.1, 21, .inl (sd1 vf p p))), (ad, .inl (E.2.1, 63, .inl (sd3 vd p p))), (aw, .inl (E.2.1, 63, .inl (sd3 vw p p))), (al, .inl (E.2.1, 63, .inl (sd3 vl p p))), (ar, .inl (E.2.1, 63, .inl (sd3 vr p p)))] s.heap := by rw [sd1_0, sd3_0, sd3_0, sd3_0, sd3_0]; exact hP
  have hl : lv_has ls 9 [(8, .int (nI p)), (0, .int (nI p)), (1, .int (-1)), (2, .ref aq), (3, .ref af), (4, .ref ad), (5, .ref aw), (6, .ref al), (7, .ref ar)] := lv_sub hl [0, 1, 2, 3, 4, 5, 6, 7, 8] rfl
  exact loop45 _ p (Nat.lt_succ_self _) (by omega) hp _ _ hP hS _ hl

theorem cd_L_forget : cdS yL_forget cL_forget 3 none 2 := ⟨⟨bw_388, bw_1, by decide, by decide, by decide +kernel⟩, bw_387⟩
set_option maxHeartbeats 4000000 in
set_option maxRecDepth 100000 in
theorem c_L_forget (l : Launch) (E : EV) (k : Nat) (ar : Nat) (vr : Nat → Int32) (hk : k < 21) : rcV l E yL_forget cL_forget 3 0 [.int (nI k), .ref ar] [(ar, .inl (E.2.1, 63, .inl vr))] [(ar, .inl (E.2.1, 63, .inl (fo3 vr k)))] := by
  refine rcV_of (by decide) (Nat.le_of_ble_eq_true rfl) ?_
  intro pg e s m below meth c Q A ls S hP hD0 hE hA hl hret
  have hx := S.1
  have hb := S.2.1
  have hown := S.2.2.2.1
  have hts := S.2.2.2.2
  have hK := hE.1
  have hS : va_S A s.heap s.heap [] := va_S.rf
  have hDa : va_Da A [ar] := ⟨_, hD0, rfl⟩
  have hl : lv_has ls 3 [(0, .int (nI k)), (1, .ref ar)] := hl
  refine lv_iconst (v := nI 0) hx hb dL_forget_0 (by decide) ?_
  refine lv_istore_n (lv' := [(2, .int (nI 0)), (0, .int (nI k)), (1, .ref ar)]) hx hb dL_forget_1 rfl hl (by decide) rfl (fun ls hl => ?_)
  refine lv_iload_n hx hb dL_forget_2 rfl (lv_at hl 0 rfl) ?_
  refine lv_iconst (v := nI 3) hx hb dL_forget_3 (by decide) ?_
  refine rn_icmp_ge (a := 0) (b := 3) (tgt := 21) hx hb (by omega) (by omega) dL_forget_4 (by decide) (fun c_1 => absurd c_1 (by omega)) (fun c_1 => ?_)
  refine lv_aload_n hx hb dL_forget_7 rfl (lv_at hl 2 rfl) ?_
  refine lv_iconst (v := nI 3) hx hb dL_forget_8 (by decide) ?_
  refine lv_iload_n hx hb dL_forget_9 rfl (lv_at hl 1 rfl) ?_
  refine rn_mul (a := 3) (b := k) hx hb dL_forget_10 ?_
  refine lv_iload_n hx hb dL_forget_11 rfl (lv_at hl 0 rfl) ?_
  refine rn_add (a := 3 * k) (b := 0) hx hb dL_forget_12 ?_
  refine lv_iconst (v := nI 0) hx hb dL_forget_13 (by decide) ?_
  refine rn_iast (i := 3 * k + 0) hx hb hK hP (hDa.to rfl) hS 0 0 rfl rfl (by omega) (by omega) dL_forget_14 (fun H locs hP _ hS => ?_)
  have hP : va_P E.1 vwCl [(ar, .inl (E.2.1, 63, .inl (upd vr (3 * k + 0) (nI 0))))] H := hP
  refine rn_inc (a := 0) (d := 1) (lv' := [(2, .int (nI 1)), (0, .int (nI k)), (1, .ref ar)]) hx hb dL_forget_15 hl (k := 0) rfl (by decide) (by decide) rfl (fun ls hl => ?_)
  refine lv_goto (tgt := 2) hx hb dL_forget_18 (by decide) ?_
  refine lv_iload_n hx hb dL_forget_2 rfl (lv_at hl 0 rfl) ?_
  refine lv_iconst (v := nI 3) hx hb dL_forget_3 (by decide) ?_
  refine rn_icmp_ge (a := 1) (b := 3) (tgt := 21) hx hb (by omega) (by omega) dL_forget_4 (by decide) (fun c_2 => absurd c_2 (by omega)) (fun c_2 => ?_)
  refine lv_aload_n hx hb dL_forget_7 rfl (lv_at hl 2 rfl) ?_
  refine lv_iconst (v := nI 3) hx hb dL_forget_8 (by decide) ?_
  refine lv_iload_n hx hb dL_forget_9 rfl (lv_at hl 1 rfl) ?_
  refine rn_mul (a := 3) (b := k) hx hb dL_forget_10 ?_
  refine lv_iload_n hx hb dL_forget_11 rfl (lv_at hl 0 rfl) ?_
  refine rn_add (a := 3 * k) (b := 1) hx hb dL_forget_12 ?_
  refine lv_iconst (v := nI 0) hx hb dL_forget_13 (by decide) ?_
  refine rn_iast (i := 3 * k + 1) hx hb hK hP (hDa.to rfl) hS 0 0 rfl rfl (by omega) (by omega) dL_forget_14 (fun H locs hP _ hS => ?_)
  have hP : va_P E.1 vwCl [(ar, .inl (E.2.1, 63, .inl (upd (upd vr (3 * k + 0) (nI 0)) (3 * k + 1) (nI 0))))] H := hP
  refine rn_inc (a := 1) (d := 1) (lv' := [(2, .int (nI 2)), (0, .int (nI k)), (1, .ref ar)]) hx hb dL_forget_15 hl (k := 0) rfl (by decide) (by decide) rfl (fun ls hl => ?_)
  refine lv_goto (tgt := 2) hx hb dL_forget_18 (by decide) ?_
  refine lv_iload_n hx hb dL_forget_2 rfl (lv_at hl 0 rfl) ?_
  refine lv_iconst (v := nI 3) hx hb dL_forget_3 (by decide) ?_
  refine rn_icmp_ge (a := 2) (b := 3) (tgt := 21) hx hb (by omega) (by omega) dL_forget_4 (by decide) (fun c_3 => absurd c_3 (by omega)) (fun c_3 => ?_)
  refine lv_aload_n hx hb dL_forget_7 rfl (lv_at hl 2 rfl) ?_
  refine lv_iconst (v := nI 3) hx hb dL_forget_8 (by decide) ?_
  refine lv_iload_n hx hb dL_forget_9 rfl (lv_at hl 1 rfl) ?_
  refine rn_mul (a := 3) (b := k) hx hb dL_forget_10 ?_
  refine lv_iload_n hx hb dL_forget_11 rfl (lv_at hl 0 rfl) ?_
  refine rn_add (a := 3 * k) (b := 2) hx hb dL_forget_12 ?_
  refine lv_iconst (v := nI 0) hx hb dL_forget_13 (by decide) ?_
  refine rn_iast (i := 3 * k + 2) hx hb hK hP (hDa.to rfl) hS 0 0 rfl rfl (by omega) (by omega) dL_forget_14 (fun H locs hP _ hS => ?_)
  have hP : va_P E.1 vwCl [(ar, .inl (E.2.1, 63, .inl (upd (upd (upd vr (3 * k + 0) (nI 0)) (3 * k + 1) (nI 0)) (3 * k + 2) (nI 0))))] H := hP
  refine rn_inc (a := 2) (d := 1) (lv' := [(2, .int (nI 3)), (0, .int (nI k)), (1, .ref ar)]) hx hb dL_forget_15 hl (k := 0) rfl (by decide) (by decide) rfl (fun ls hl => ?_)
  refine lv_goto (tgt := 2) hx hb dL_forget_18 (by decide) ?_
  refine lv_iload_n hx hb dL_forget_2 rfl (lv_at hl 0 rfl) ?_
  refine lv_iconst (v := nI 3) hx hb dL_forget_3 (by decide) ?_
  refine rn_icmp_ge (a := 3) (b := 3) (tgt := 21) hx hb (by omega) (by omega) dL_forget_4 (by decide) (fun c_4 => ?_) (fun c_4 => absurd c_4 (by omega))
  exact hret _ _ _ _ _ rfl hP hS dL_forget_21

