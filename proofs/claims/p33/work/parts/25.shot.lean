/-! the law holds its rows against what the class tells -/
def shOK (f : Nat → Int32) (n : Nat) (vq : Nat → Int32) (vf : Nat → Int32) (vd : Nat → Int32) (vw : Nat → Int32) (vl : Nat → Int32) (vr : Nat → Int32) (k : Nat) (co : Nat) (x : Int32) : Prop :=
  (fOf f n (nI k) (nI 0) = vf k) ∧
  (fOf f n (nI k) (nI 1) = lFt vf k) ∧
  (fOf f n (nI k) (nI 2) = (if vr (3 * k + co) ≤ 0 then nI 0 else nI 1)) ∧
  (fOf f n (nI k) (nI 3) = (if lBa vq vr k = 0 then nI 0 else nI 1)) ∧
  (fOf f n (nI k) (nI 4) = (if lJu vq vd vl n k = 0 then nI 0 else nI 1)) ∧
  (fIn f n (nI k) (nI co) (nI 0) = vd (3 * k + co)) ∧
  (fIn f n (nI k) (nI co) (nI 1) = vw (3 * k + co) + (nI 10)) ∧
  (fIn f n (nI k) (nI co) (nI 2) = vl (3 * k + co)) ∧
  (fIn f n (nI k) (nI co) (nI 3) = lPr vq vd k co (vl (3 * k + co))) ∧
  (fIn f n (nI k) (nI co) (nI 4) = lOf vq vd vw vl k co + (nI 100)) ∧
  (fIn f n (nI k) (nI co) (nI 5) = (if vr (3 * k + co) ≤ 0 then (-6) else vr (3 * k + co) - (nI 900))) ∧
  (fNe f n (nI k) (nI co) = (if vw (3 * k + co) + (vd (3 * k + co)) + (((vq (7 + co)) * (vq 3)) / (nI 100)) - (vq (10 + co)) < 0 then (-6) else if vw (3 * k + co) + (vd (3 * k + co)) + (((vq (7 + co)) * (vq 3)) / (nI 100)) - (vq (10 + co)) ≤ nI 50 then vw (3 * k + co) + (vd (3 * k + co)) + (((vq (7 + co)) * (vq 3)) / (nI 100)) - (vq (10 + co)) else (-6))) ∧
  (fIf f n (nI k) (nI co) (nI (lowN x 51)) = lPr vq vd k co (nI (lowN x 51)))
theorem cd_L_isShot : cdS yL_isShot cL_isShot 13 (some .boolean) 10 := ⟨⟨bw_483, bw_1, by decide, by decide, by decide +kernel⟩, bw_482⟩
set_option maxHeartbeats 4000000 in
set_option maxRecDepth 100000 in
theorem c_L_isShot (l : Launch) (E : EV) (xo : Nat) (r : Nat) (r2 : Nat) (r3 : Nat) (d : Nat) (y : Nat) (q2 : Nat) (sf : Int32) (rc : Nat) (f : Nat → Int32) (k : Nat) (co : Nat) (x : Int32) (aq : Nat) (af : Nat) (ad : Nat) (aw : Nat) (al : Nat) (ar : Nat) (vq : Nat → Int32) (vf : Nat → Int32) (vd : Nat → Int32) (vw : Nat → Int32) (vl : Nat → Int32) (vr : Nat → Int32) (n : Nat) (hf : f 12 = nI n) (hq : vq 4 = nI n) (hn : n ≤ 20) (hk : k < n) (hco : co < 3) (hok : shOK f n vq vf vd vw vl vr k co x) : rcI l E yL_isShot cL_isShot 13 .boolean 7 [.ref xo, .int (nI k), .int (nI co), .int x, .ref aq, .ref af, .ref ad, .ref aw, .ref al, .ref ar] [(xo, .inr (4, [.ref r, .ref r2, .ref r3, .ref d, .ref y, .ref q2, .int sf])), (r, .inr (2, [.ref rc])), (rc, .inl (E.2.1, 293, .inl f)), (aq, .inl (E.2.1, 13, .inl vq)), (af, .inl (E.2.1, 21, .inl vf)), (ad, .inl (E.2.1, 63, .inl vd)), (aw, .inl (E.2.1, 63, .inl vw)), (al, .inl (E.2.1, 63, .inl vl)), (ar, .inl (E.2.1, 63, .inl vr))] (nI 1) [(xo, .inr (4, [.ref r, .ref r2, .ref r3, .ref d, .ref y, .ref q2, .int sf])), (r, .inr (2, [.ref rc])), (rc, .inl (E.2.1, 293, .inl f)), (aq, .inl (E.2.1, 13, .inl vq)), (af, .inl (E.2.1, 21, .inl vf)), (ad, .inl (E.2.1, 63, .inl vd)), (aw, .inl (E.2.1, 63, .inl vw)), (al, .inl (E.2.1, 63, .inl vl)), (ar, .inl (E.2.1, 63, .inl vr))] := by
  refine rcI_of (by decide) (Nat.le_of_ble_eq_true rfl) ?_
  intro pg e s m below meth c Q A ls S hP hD0 hE hA hl hret
  have hx := S.1
  have hb := S.2.1
  have hown := S.2.2.2.1
  have hts := S.2.2.2.2
  have hK := hE.1
  have hS : va_S A s.heap s.heap [] := va_S.rf
  have hDa : va_Da A [xo, r, rc, aq, af, ad, aw, al, ar] := ⟨_, hD0, rfl⟩
  have hl : lv_has ls 13 [(0, .ref xo), (1, .int (nI k)), (2, .int (nI co)), (3, .int x), (4, .ref aq), (5, .ref af), (6, .ref ad), (7, .ref aw), (8, .ref al), (9, .ref ar)] := hl
  obtain ⟨e_1, e_2, e_3, e_4, e_5, e_6, e_7, e_8, e_9, e_10, e_11, e_12, e_13⟩ := hok
  refine lv_iconst (v := nI 3) hx hb dL_isShot_0 (by decide) ?_
  refine lv_iload_n hx hb dL_isShot_1 rfl (lv_at hl 1 rfl) ?_
  refine rn_mul (a := 3) (b := k) hx hb dL_isShot_2 ?_
  refine lv_iload_n hx hb dL_isShot_3 rfl (lv_at hl 2 rfl) ?_
  refine rn_add (a := 3 * k) (b := co) hx hb dL_isShot_4 ?_
  refine lv_istore (lv' := [(10, .int (nI (3 * k + co))), (0, .ref xo), (1, .int (nI k)), (2, .int (nI co)), (3, .int x), (4, .ref aq), (5, .ref af), (6, .ref ad), (7, .ref aw), (8, .ref al), (9, .ref ar)]) hx hb dL_isShot_5 hl (by decide) rfl (fun ls hl => ?_)
  refine lv_aload hx hb dL_isShot_7 (lv_at hl 8 rfl) ?_
  refine lv_iload hx hb dL_isShot_9 (lv_at hl 0 rfl) ?_
  refine rn_iald (i := 3 * k + co) hx hb hK hP 6 0 rfl rfl (by omega) (by omega) dL_isShot_11 ?_
  refine lv_aload hx hb dL_isShot_12 (lv_at hl 7 rfl) ?_
  refine lv_iload hx hb dL_isShot_14 (lv_at hl 0 rfl) ?_
  refine rn_iald (i := 3 * k + co) hx hb hK hP 5 0 rfl rfl (by omega) (by omega) dL_isShot_16 ?_
  refine lv_iadd hx hb dL_isShot_17 ?_
  refine lv_aload hx hb dL_isShot_18 (lv_at hl 5 rfl) ?_
  refine lv_bipush (v := nI 7) hx hb dL_isShot_20 (by decide) ?_
  refine lv_iload_n hx hb dL_isShot_22 rfl (lv_at hl 3 rfl) ?_
  refine rn_add (a := 7) (b := co) hx hb dL_isShot_23 ?_
  refine rn_iald (i := 7 + co) hx hb hK hP 3 0 rfl rfl (by omega) (by omega) dL_isShot_24 ?_
  refine lv_aload hx hb dL_isShot_25 (lv_at hl 5 rfl) ?_
  refine lv_iconst (v := nI 3) hx hb dL_isShot_27 (by decide) ?_
  refine rn_iald (i := 3) hx hb hK hP 3 0 rfl rfl (by omega) (by omega) dL_isShot_28 ?_
  refine lv_imul hx hb dL_isShot_29 ?_
  refine lv_bipush (v := nI 100) hx hb dL_isShot_30 (by decide) ?_
  refine lv_idiv hx hb dL_isShot_32 (by decide) ?_
  refine lv_iadd hx hb dL_isShot_33 ?_
  refine lv_aload hx hb dL_isShot_34 (lv_at hl 5 rfl) ?_
  refine lv_bipush (v := nI 10) hx hb dL_isShot_36 (by decide) ?_
  refine lv_iload_n hx hb dL_isShot_38 rfl (lv_at hl 3 rfl) ?_
  refine rn_add (a := 10) (b := co) hx hb dL_isShot_39 ?_
  refine rn_iald (i := 10 + co) hx hb hK hP 3 0 rfl rfl (by omega) (by omega) dL_isShot_40 ?_
  refine lv_isub hx hb dL_isShot_41 ?_
  refine lv_istore (lv' := [(11, .int (vw (3 * k + co) + (vd (3 * k + co)) + (((vq (7 + co)) * (vq 3)) / (nI 100)) - (vq (10 + co)))), (10, .int (nI (3 * k + co))), (0, .ref xo), (1, .int (nI k)), (2, .int (nI co)), (3, .int x), (4, .ref aq), (5, .ref af), (6, .ref ad), (7, .ref aw), (8, .ref al), (9, .ref ar)]) hx hb dL_isShot_42 hl (by decide) rfl (fun ls hl => ?_)
  refine lv_aload_n hx hb dL_isShot_44 rfl (lv_at hl 2 rfl) ?_
  refine lv_iload_n hx hb dL_isShot_45 rfl (lv_at hl 3 rfl) ?_
  refine lv_iconst (v := nI 0) hx hb dL_isShot_46 (by decide) ?_
  refine rwV2 (rest := []) S (c_X7_of l E xo r r2 r3 d y q2 sf rc f n (nI k) (nI 0) hf hn) cd_X7_of bw_455 ⟨Nat.le_of_ble_eq_true rfl, Nat.le_of_ble_eq_true rfl⟩ ⟨Nat.zero_le _, Nat.zero_le _⟩ hP (hDa.to rfl) hE hA hS [0, 1, 2] rfl rfl [xo, r, rc] rfl rfl (ci := 4) rfl (q0 := 0) rfl (Nat.le_of_ble_eq_true rfl) hl.1 dL_isShot_47 (fun H locs hP _ hS => ?_)
  have hP : va_P E.1 vwCl [(xo, .inr (4, [.ref r, .ref r2, .ref r3, .ref d, .ref y, .ref q2, .int sf])), (r, .inr (2, [.ref rc])), (rc, .inl (E.2.1, 293, .inl f)), (aq, .inl (E.2.1, 13, .inl vq)), (af, .inl (E.2.1, 21, .inl vf)), (ad, .inl (E.2.1, 63, .inl vd)), (aw, .inl (E.2.1, 63, .inl vw)), (al, .inl (E.2.1, 63, .inl vl)), (ar, .inl (E.2.1, 63, .inl vr))] H := hP
  refine lv_aload hx hb dL_isShot_50 (lv_at hl 7 rfl) ?_
  refine lv_iload_n hx hb dL_isShot_52 rfl (lv_at hl 3 rfl) ?_
  refine rn_iald (i := k) hx hb hK hP 4 0 rfl rfl (by omega) (by omega) dL_isShot_53 ?_
  refine lv_icmp_ne (tgt := 150) hx hb dL_isShot_54 (by decide) (fun c9 => absurd e_1 c9) (fun _ => ?_)
  refine lv_aload_n hx hb dL_isShot_57 rfl (lv_at hl 2 rfl) ?_
  refine lv_iload_n hx hb dL_isShot_58 rfl (lv_at hl 3 rfl) ?_
  refine lv_iconst (v := nI 1) hx hb dL_isShot_59 (by decide) ?_
  refine rwV2 (rest := []) S (c_X7_of l E xo r r2 r3 d y q2 sf rc f n (nI k) (nI 1) hf hn) cd_X7_of bw_455 ⟨Nat.le_of_ble_eq_true rfl, Nat.le_of_ble_eq_true rfl⟩ ⟨Nat.zero_le _, Nat.zero_le _⟩ hP (hDa.to rfl) hE hA hS [0, 1, 2] rfl rfl [xo, r, rc] rfl rfl (ci := 4) rfl (q0 := 0) rfl (Nat.le_of_ble_eq_true rfl) hl.1 dL_isShot_60 (fun H locs hP _ hS => ?_)
  have hP : va_P E.1 vwCl [(xo, .inr (4, [.ref r, .ref r2, .ref r3, .ref d, .ref y, .ref q2, .int sf])), (r, .inr (2, [.ref rc])), (rc, .inl (E.2.1, 293, .inl f)), (aq, .inl (E.2.1, 13, .inl vq)), (af, .inl (E.2.1, 21, .inl vf)), (ad, .inl (E.2.1, 63, .inl vd)), (aw, .inl (E.2.1, 63, .inl vw)), (al, .inl (E.2.1, 63, .inl vl)), (ar, .inl (E.2.1, 63, .inl vr))] H := hP
  refine lv_iload_n hx hb dL_isShot_63 rfl (lv_at hl 3 rfl) ?_
  refine lv_aload hx hb dL_isShot_64 (lv_at hl 7 rfl) ?_
  refine rwS2 (rest := [.int (fOf f n (nI k) (nI 1))]) S (c_L_feet l E k af vf (by omega)) cd_L_feet bw_401 ⟨Nat.le_of_ble_eq_true rfl, Nat.le_of_ble_eq_true rfl⟩ ⟨Nat.zero_le _, Nat.zero_le _⟩ hP (hDa.to rfl) hE hA hS [4] rfl rfl [af] rfl rfl (Nat.le_of_ble_eq_true rfl) hl.1 dL_isShot_66 (fun H locs hP _ hS => ?_)
  have hP : va_P E.1 vwCl [(xo, .inr (4, [.ref r, .ref r2, .ref r3, .ref d, .ref y, .ref q2, .int sf])), (r, .inr (2, [.ref rc])), (rc, .inl (E.2.1, 293, .inl f)), (aq, .inl (E.2.1, 13, .inl vq)), (af, .inl (E.2.1, 21, .inl vf)), (ad, .inl (E.2.1, 63, .inl vd)), (aw, .inl (E.2.1, 63, .inl vw)), (al, .inl (E.2.1, 63, .inl vl)), (ar, .inl (E.2.1, 63, .inl vr))] H := hP
  refine lv_icmp_ne (tgt := 150) hx hb dL_isShot_69 (by decide) (fun c9 => absurd e_2 c9) (fun _ => ?_)
  refine lv_aload_n hx hb dL_isShot_72 rfl (lv_at hl 2 rfl) ?_
  refine lv_iload_n hx hb dL_isShot_73 rfl (lv_at hl 3 rfl) ?_
  refine lv_iconst (v := nI 2) hx hb dL_isShot_74 (by decide) ?_
  refine rwV2 (rest := []) S (c_X7_of l E xo r r2 r3 d y q2 sf rc f n (nI k) (nI 2) hf hn) cd_X7_of bw_455 ⟨Nat.le_of_ble_eq_true rfl, Nat.le_of_ble_eq_true rfl⟩ ⟨Nat.zero_le _, Nat.zero_le _⟩ hP (hDa.to rfl) hE hA hS [0, 1, 2] rfl rfl [xo, r, rc] rfl rfl (ci := 4) rfl (q0 := 0) rfl (Nat.le_of_ble_eq_true rfl) hl.1 dL_isShot_75 (fun H locs hP _ hS => ?_)
  have hP : va_P E.1 vwCl [(xo, .inr (4, [.ref r, .ref r2, .ref r3, .ref d, .ref y, .ref q2, .int sf])), (r, .inr (2, [.ref rc])), (rc, .inl (E.2.1, 293, .inl f)), (aq, .inl (E.2.1, 13, .inl vq)), (af, .inl (E.2.1, 21, .inl vf)), (ad, .inl (E.2.1, 63, .inl vd)), (aw, .inl (E.2.1, 63, .inl vw)), (al, .inl (E.2.1, 63, .inl vl)), (ar, .inl (E.2.1, 63, .inl vr))] H := hP
  refine lv_aload hx hb dL_isShot_78 (lv_at hl 11 rfl) ?_
  refine lv_iload hx hb dL_isShot_80 (lv_at hl 1 rfl) ?_
  refine rn_iald (i := 3 * k + co) hx hb hK hP 8 0 rfl rfl (by omega) (by omega) dL_isShot_82 ?_
  refine (fun (hj : ∀ (H : Heap) (locs : List Loc), va_P E.1 vwCl [(xo, .inr (4, [.ref r, .ref r2, .ref r3, .ref d, .ref y, .ref q2, .int sf])), (r, .inr (2, [.ref rc])), (rc, .inl (E.2.1, 293, .inl f)), (aq, .inl (E.2.1, 13, .inl vq)), (af, .inl (E.2.1, 21, .inl vf)), (ad, .inl (E.2.1, 63, .inl vd)), (aw, .inl (E.2.1, 63, .inl vw)), (al, .inl (E.2.1, 63, .inl vl)), (ar, .inl (E.2.1, 63, .inl vr))] H → va_S A s.heap H locs → W pg l e (rq 7) s m ([.ref xo, .int (nI k), .int (nI co), .int x, .ref aq, .ref af, .ref ad, .ref aw, .ref al, .ref ar] : List Value).toArray below meth c H locs 0 0 Q (F0 m 91 ls [.int (if vr (3 * k + co) ≤ 0 then nI 0 else nI 1), .int (fOf f n (nI k) (nI 2))])) => ?_) ?_
  · refine lv_if_le (tgt := 90) hx hb dL_isShot_83 (by decide) (fun c_3 => ?_) (fun c_3 => ?_)
    · refine lv_iconst (v := nI 0) hx hb dL_isShot_90 (by decide) ?_
      have hj9 := hj _ _ hP hS
      rw [if_pos c_3] at hj9
      exact hj9
    · refine lv_iconst (v := nI 1) hx hb dL_isShot_86 (by decide) ?_
      refine lv_goto (tgt := 91) hx hb dL_isShot_87 (by decide) ?_
      have hj9 := hj _ _ hP hS
      rw [if_neg c_3] at hj9
      exact hj9
  intro H locs hP hS
  refine lv_icmp_ne (tgt := 150) hx hb dL_isShot_91 (by decide) (fun c9 => absurd e_3 c9) (fun _ => ?_)
  refine lv_aload_n hx hb dL_isShot_94 rfl (lv_at hl 2 rfl) ?_
  refine lv_iload_n hx hb dL_isShot_95 rfl (lv_at hl 3 rfl) ?_
  refine lv_iconst (v := nI 3) hx hb dL_isShot_96 (by decide) ?_
  refine rwV2 (rest := []) S (c_X7_of l E xo r r2 r3 d y q2 sf rc f n (nI k) (nI 3) hf hn) cd_X7_of bw_455 ⟨Nat.le_of_ble_eq_true rfl, Nat.le_of_ble_eq_true rfl⟩ ⟨Nat.zero_le _, Nat.zero_le _⟩ hP (hDa.to rfl) hE hA hS [0, 1, 2] rfl rfl [xo, r, rc] rfl rfl (ci := 4) rfl (q0 := 0) rfl (Nat.le_of_ble_eq_true rfl) hl.1 dL_isShot_97 (fun H locs hP _ hS => ?_)
  have hP : va_P E.1 vwCl [(xo, .inr (4, [.ref r, .ref r2, .ref r3, .ref d, .ref y, .ref q2, .int sf])), (r, .inr (2, [.ref rc])), (rc, .inl (E.2.1, 293, .inl f)), (aq, .inl (E.2.1, 13, .inl vq)), (af, .inl (E.2.1, 21, .inl vf)), (ad, .inl (E.2.1, 63, .inl vd)), (aw, .inl (E.2.1, 63, .inl vw)), (al, .inl (E.2.1, 63, .inl vl)), (ar, .inl (E.2.1, 63, .inl vr))] H := hP
  refine lv_iload_n hx hb dL_isShot_100 rfl (lv_at hl 3 rfl) ?_
  refine lv_aload hx hb dL_isShot_101 (lv_at hl 6 rfl) ?_
  refine lv_aload hx hb dL_isShot_103 (lv_at hl 11 rfl) ?_
  refine rwS3 (rest := [.int (fOf f n (nI k) (nI 3))]) S (c_L_isBad l E k aq ar vq vr (by omega)) cd_L_isBad bw_410 ⟨Nat.le_of_ble_eq_true rfl, Nat.le_of_ble_eq_true rfl⟩ ⟨Nat.zero_le _, Nat.zero_le _⟩ hP (hDa.to rfl) hE hA hS [3, 8] rfl rfl [aq, ar] rfl rfl (Nat.le_of_ble_eq_true rfl) hl.1 dL_isShot_105 (fun H locs hP _ hS => ?_)
  have hP : va_P E.1 vwCl [(xo, .inr (4, [.ref r, .ref r2, .ref r3, .ref d, .ref y, .ref q2, .int sf])), (r, .inr (2, [.ref rc])), (rc, .inl (E.2.1, 293, .inl f)), (aq, .inl (E.2.1, 13, .inl vq)), (af, .inl (E.2.1, 21, .inl vf)), (ad, .inl (E.2.1, 63, .inl vd)), (aw, .inl (E.2.1, 63, .inl vw)), (al, .inl (E.2.1, 63, .inl vl)), (ar, .inl (E.2.1, 63, .inl vr))] H := hP
  refine (fun (hj : ∀ (H : Heap) (locs : List Loc), va_P E.1 vwCl [(xo, .inr (4, [.ref r, .ref r2, .ref r3, .ref d, .ref y, .ref q2, .int sf])), (r, .inr (2, [.ref rc])), (rc, .inl (E.2.1, 293, .inl f)), (aq, .inl (E.2.1, 13, .inl vq)), (af, .inl (E.2.1, 21, .inl vf)), (ad, .inl (E.2.1, 63, .inl vd)), (aw, .inl (E.2.1, 63, .inl vw)), (al, .inl (E.2.1, 63, .inl vl)), (ar, .inl (E.2.1, 63, .inl vr))] H → va_S A s.heap H locs → W pg l e (rq 7) s m ([.ref xo, .int (nI k), .int (nI co), .int x, .ref aq, .ref af, .ref ad, .ref aw, .ref al, .ref ar] : List Value).toArray below meth c H locs 0 0 Q (F0 m 116 ls [.int (if lBa vq vr k = 0 then nI 0 else nI 1), .int (fOf f n (nI k) (nI 3))])) => ?_) ?_
  · refine lv_if_eq (tgt := 115) hx hb dL_isShot_108 (by decide) (fun c_5 => ?_) (fun c_5 => ?_)
    · refine lv_iconst (v := nI 0) hx hb dL_isShot_115 (by decide) ?_
      have hj9 := hj _ _ hP hS
      rw [if_pos c_5] at hj9
      exact hj9
    · refine lv_iconst (v := nI 1) hx hb dL_isShot_111 (by decide) ?_
      refine lv_goto (tgt := 116) hx hb dL_isShot_112 (by decide) ?_
      have hj9 := hj _ _ hP hS
      rw [if_neg c_5] at hj9
      exact hj9
  intro H locs hP hS
  refine lv_icmp_ne (tgt := 150) hx hb dL_isShot_116 (by decide) (fun c9 => absurd e_4 c9) (fun _ => ?_)
  refine lv_aload_n hx hb dL_isShot_119 rfl (lv_at hl 2 rfl) ?_
  refine lv_iload_n hx hb dL_isShot_120 rfl (lv_at hl 3 rfl) ?_
  refine lv_iconst (v := nI 4) hx hb dL_isShot_121 (by decide) ?_
  refine rwV2 (rest := []) S (c_X7_of l E xo r r2 r3 d y q2 sf rc f n (nI k) (nI 4) hf hn) cd_X7_of bw_455 ⟨Nat.le_of_ble_eq_true rfl, Nat.le_of_ble_eq_true rfl⟩ ⟨Nat.zero_le _, Nat.zero_le _⟩ hP (hDa.to rfl) hE hA hS [0, 1, 2] rfl rfl [xo, r, rc] rfl rfl (ci := 4) rfl (q0 := 0) rfl (Nat.le_of_ble_eq_true rfl) hl.1 dL_isShot_122 (fun H locs hP _ hS => ?_)
  have hP : va_P E.1 vwCl [(xo, .inr (4, [.ref r, .ref r2, .ref r3, .ref d, .ref y, .ref q2, .int sf])), (r, .inr (2, [.ref rc])), (rc, .inl (E.2.1, 293, .inl f)), (aq, .inl (E.2.1, 13, .inl vq)), (af, .inl (E.2.1, 21, .inl vf)), (ad, .inl (E.2.1, 63, .inl vd)), (aw, .inl (E.2.1, 63, .inl vw)), (al, .inl (E.2.1, 63, .inl vl)), (ar, .inl (E.2.1, 63, .inl vr))] H := hP
  refine lv_iload_n hx hb dL_isShot_125 rfl (lv_at hl 3 rfl) ?_
  refine lv_aload hx hb dL_isShot_126 (lv_at hl 6 rfl) ?_
  refine lv_aload hx hb dL_isShot_128 (lv_at hl 8 rfl) ?_
  refine lv_aload hx hb dL_isShot_130 (lv_at hl 10 rfl) ?_
  refine rwS4 (rest := [.int (fOf f n (nI k) (nI 4))]) S (c_L_jumps l E k aq ad al vq vd vl n hq hn hk) cd_L_jumps bw_416 ⟨Nat.le_of_ble_eq_true rfl, Nat.le_of_ble_eq_true rfl⟩ ⟨Nat.zero_le _, Nat.zero_le _⟩ hP (hDa.to rfl) hE hA hS [3, 5, 7] rfl rfl [aq, ad, al] rfl rfl (Nat.le_of_ble_eq_true rfl) hl.1 dL_isShot_132 (fun H locs hP _ hS => ?_)
  have hP : va_P E.1 vwCl [(xo, .inr (4, [.ref r, .ref r2, .ref r3, .ref d, .ref y, .ref q2, .int sf])), (r, .inr (2, [.ref rc])), (rc, .inl (E.2.1, 293, .inl f)), (aq, .inl (E.2.1, 13, .inl vq)), (af, .inl (E.2.1, 21, .inl vf)), (ad, .inl (E.2.1, 63, .inl vd)), (aw, .inl (E.2.1, 63, .inl vw)), (al, .inl (E.2.1, 63, .inl vl)), (ar, .inl (E.2.1, 63, .inl vr))] H := hP
  refine (fun (hj : ∀ (H : Heap) (locs : List Loc), va_P E.1 vwCl [(xo, .inr (4, [.ref r, .ref r2, .ref r3, .ref d, .ref y, .ref q2, .int sf])), (r, .inr (2, [.ref rc])), (rc, .inl (E.2.1, 293, .inl f)), (aq, .inl (E.2.1, 13, .inl vq)), (af, .inl (E.2.1, 21, .inl vf)), (ad, .inl (E.2.1, 63, .inl vd)), (aw, .inl (E.2.1, 63, .inl vw)), (al, .inl (E.2.1, 63, .inl vl)), (ar, .inl (E.2.1, 63, .inl vr))] H → va_S A s.heap H locs → W pg l e (rq 7) s m ([.ref xo, .int (nI k), .int (nI co), .int x, .ref aq, .ref af, .ref ad, .ref aw, .ref al, .ref ar] : List Value).toArray below meth c H locs 0 0 Q (F0 m 143 ls [.int (if lJu vq vd vl n k = 0 then nI 0 else nI 1), .int (fOf f n (nI k) (nI 4))])) => ?_) ?_
  · refine lv_if_eq (tgt := 142) hx hb dL_isShot_135 (by decide) (fun c_7 => ?_) (fun c_7 => ?_)
    · refine lv_iconst (v := nI 0) hx hb dL_isShot_142 (by decide) ?_
      have hj9 := hj _ _ hP hS
      rw [if_pos c_7] at hj9
      exact hj9
    · refine lv_iconst (v := nI 1) hx hb dL_isShot_138 (by decide) ?_
      refine lv_goto (tgt := 143) hx hb dL_isShot_139 (by decide) ?_
      have hj9 := hj _ _ hP hS
      rw [if_neg c_7] at hj9
      exact hj9
  intro H locs hP hS
  refine lv_icmp_ne (tgt := 150) hx hb dL_isShot_143 (by decide) (fun c9 => absurd e_5 c9) (fun _ => ?_)
  refine lv_iconst (v := nI 1) hx hb dL_isShot_146 (by decide) ?_
  refine lv_goto (tgt := 151) hx hb dL_isShot_147 (by decide) ?_
  refine lv_istore (lv' := [(12, .int (nI 1)), (11, .int (vw (3 * k + co) + (vd (3 * k + co)) + (((vq (7 + co)) * (vq 3)) / (nI 100)) - (vq (10 + co)))), (10, .int (nI (3 * k + co))), (0, .ref xo), (1, .int (nI k)), (2, .int (nI co)), (3, .int x), (4, .ref aq), (5, .ref af), (6, .ref ad), (7, .ref aw), (8, .ref al), (9, .ref ar)]) hx hb dL_isShot_151 hl (by decide) rfl (fun ls hl => ?_)
  refine lv_iload hx hb dL_isShot_153 (lv_at hl 0 rfl) ?_
  refine lv_if_eq (tgt := 292) hx hb dL_isShot_155 (by decide) (fun c9 => by first | exact absurd c9 (by decide) | exact absurd (by decide) c9) (fun _ => ?_)
  refine lv_aload_n hx hb dL_isShot_158 rfl (lv_at hl 3 rfl) ?_
  refine lv_iload_n hx hb dL_isShot_159 rfl (lv_at hl 4 rfl) ?_
  refine lv_iload_n hx hb dL_isShot_160 rfl (lv_at hl 5 rfl) ?_
  refine lv_iconst (v := nI 0) hx hb dL_isShot_161 (by decide) ?_
  refine rwV3 (rest := []) S (c_X7_inColour l E xo r r2 r3 d y q2 sf rc f n (nI k) (nI co) (nI 0) hf hn) cd_X7_inColour bw_484 ⟨Nat.le_of_ble_eq_true rfl, Nat.le_of_ble_eq_true rfl⟩ ⟨Nat.zero_le _, Nat.zero_le _⟩ hP (hDa.to rfl) hE hA hS [0, 1, 2] rfl rfl [xo, r, rc] rfl rfl (ci := 4) rfl (q0 := 0) rfl (Nat.le_of_ble_eq_true rfl) hl.1 dL_isShot_162 (fun H locs hP _ hS => ?_)
  have hP : va_P E.1 vwCl [(xo, .inr (4, [.ref r, .ref r2, .ref r3, .ref d, .ref y, .ref q2, .int sf])), (r, .inr (2, [.ref rc])), (rc, .inl (E.2.1, 293, .inl f)), (aq, .inl (E.2.1, 13, .inl vq)), (af, .inl (E.2.1, 21, .inl vf)), (ad, .inl (E.2.1, 63, .inl vd)), (aw, .inl (E.2.1, 63, .inl vw)), (al, .inl (E.2.1, 63, .inl vl)), (ar, .inl (E.2.1, 63, .inl vr))] H := hP
  refine lv_aload hx hb dL_isShot_165 (lv_at hl 9 rfl) ?_
  refine lv_iload hx hb dL_isShot_167 (lv_at hl 2 rfl) ?_
  refine rn_iald (i := 3 * k + co) hx hb hK hP 5 0 rfl rfl (by omega) (by omega) dL_isShot_169 ?_
  refine lv_icmp_ne (tgt := 292) hx hb dL_isShot_170 (by decide) (fun c9 => absurd e_6 c9) (fun _ => ?_)
  refine lv_aload_n hx hb dL_isShot_173 rfl (lv_at hl 3 rfl) ?_
  refine lv_iload_n hx hb dL_isShot_174 rfl (lv_at hl 4 rfl) ?_
  refine lv_iload_n hx hb dL_isShot_175 rfl (lv_at hl 5 rfl) ?_
  refine lv_iconst (v := nI 1) hx hb dL_isShot_176 (by decide) ?_
  refine rwV3 (rest := []) S (c_X7_inColour l E xo r r2 r3 d y q2 sf rc f n (nI k) (nI co) (nI 1) hf hn) cd_X7_inColour bw_484 ⟨Nat.le_of_ble_eq_true rfl, Nat.le_of_ble_eq_true rfl⟩ ⟨Nat.zero_le _, Nat.zero_le _⟩ hP (hDa.to rfl) hE hA hS [0, 1, 2] rfl rfl [xo, r, rc] rfl rfl (ci := 4) rfl (q0 := 0) rfl (Nat.le_of_ble_eq_true rfl) hl.1 dL_isShot_177 (fun H locs hP _ hS => ?_)
  have hP : va_P E.1 vwCl [(xo, .inr (4, [.ref r, .ref r2, .ref r3, .ref d, .ref y, .ref q2, .int sf])), (r, .inr (2, [.ref rc])), (rc, .inl (E.2.1, 293, .inl f)), (aq, .inl (E.2.1, 13, .inl vq)), (af, .inl (E.2.1, 21, .inl vf)), (ad, .inl (E.2.1, 63, .inl vd)), (aw, .inl (E.2.1, 63, .inl vw)), (al, .inl (E.2.1, 63, .inl vl)), (ar, .inl (E.2.1, 63, .inl vr))] H := hP
  refine lv_aload hx hb dL_isShot_180 (lv_at hl 10 rfl) ?_
  refine lv_iload hx hb dL_isShot_182 (lv_at hl 2 rfl) ?_
  refine rn_iald (i := 3 * k + co) hx hb hK hP 6 0 rfl rfl (by omega) (by omega) dL_isShot_184 ?_
  refine lv_bipush (v := nI 10) hx hb dL_isShot_185 (by decide) ?_
  refine lv_iadd hx hb dL_isShot_187 ?_
  refine lv_icmp_ne (tgt := 292) hx hb dL_isShot_188 (by decide) (fun c9 => absurd e_7 c9) (fun _ => ?_)
  refine lv_aload_n hx hb dL_isShot_191 rfl (lv_at hl 3 rfl) ?_
  refine lv_iload_n hx hb dL_isShot_192 rfl (lv_at hl 4 rfl) ?_
  refine lv_iload_n hx hb dL_isShot_193 rfl (lv_at hl 5 rfl) ?_
  refine lv_iconst (v := nI 2) hx hb dL_isShot_194 (by decide) ?_
  refine rwV3 (rest := []) S (c_X7_inColour l E xo r r2 r3 d y q2 sf rc f n (nI k) (nI co) (nI 2) hf hn) cd_X7_inColour bw_484 ⟨Nat.le_of_ble_eq_true rfl, Nat.le_of_ble_eq_true rfl⟩ ⟨Nat.zero_le _, Nat.zero_le _⟩ hP (hDa.to rfl) hE hA hS [0, 1, 2] rfl rfl [xo, r, rc] rfl rfl (ci := 4) rfl (q0 := 0) rfl (Nat.le_of_ble_eq_true rfl) hl.1 dL_isShot_195 (fun H locs hP _ hS => ?_)
  have hP : va_P E.1 vwCl [(xo, .inr (4, [.ref r, .ref r2, .ref r3, .ref d, .ref y, .ref q2, .int sf])), (r, .inr (2, [.ref rc])), (rc, .inl (E.2.1, 293, .inl f)), (aq, .inl (E.2.1, 13, .inl vq)), (af, .inl (E.2.1, 21, .inl vf)), (ad, .inl (E.2.1, 63, .inl vd)), (aw, .inl (E.2.1, 63, .inl vw)), (al, .inl (E.2.1, 63, .inl vl)), (ar, .inl (E.2.1, 63, .inl vr))] H := hP
  refine lv_aload hx hb dL_isShot_198 (lv_at hl 11 rfl) ?_
  refine lv_iload hx hb dL_isShot_200 (lv_at hl 2 rfl) ?_
  refine rn_iald (i := 3 * k + co) hx hb hK hP 7 0 rfl rfl (by omega) (by omega) dL_isShot_202 ?_
  refine lv_icmp_ne (tgt := 292) hx hb dL_isShot_203 (by decide) (fun c9 => absurd e_8 c9) (fun _ => ?_)
  refine lv_aload_n hx hb dL_isShot_206 rfl (lv_at hl 3 rfl) ?_
  refine lv_iload_n hx hb dL_isShot_207 rfl (lv_at hl 4 rfl) ?_
  refine lv_iload_n hx hb dL_isShot_208 rfl (lv_at hl 5 rfl) ?_
  refine lv_iconst (v := nI 3) hx hb dL_isShot_209 (by decide) ?_
  refine rwV3 (rest := []) S (c_X7_inColour l E xo r r2 r3 d y q2 sf rc f n (nI k) (nI co) (nI 3) hf hn) cd_X7_inColour bw_484 ⟨Nat.le_of_ble_eq_true rfl, Nat.le_of_ble_eq_true rfl⟩ ⟨Nat.zero_le _, Nat.zero_le _⟩ hP (hDa.to rfl) hE hA hS [0, 1, 2] rfl rfl [xo, r, rc] rfl rfl (ci := 4) rfl (q0 := 0) rfl (Nat.le_of_ble_eq_true rfl) hl.1 dL_isShot_210 (fun H locs hP _ hS => ?_)
  have hP : va_P E.1 vwCl [(xo, .inr (4, [.ref r, .ref r2, .ref r3, .ref d, .ref y, .ref q2, .int sf])), (r, .inr (2, [.ref rc])), (rc, .inl (E.2.1, 293, .inl f)), (aq, .inl (E.2.1, 13, .inl vq)), (af, .inl (E.2.1, 21, .inl vf)), (ad, .inl (E.2.1, 63, .inl vd)), (aw, .inl (E.2.1, 63, .inl vw)), (al, .inl (E.2.1, 63, .inl vl)), (ar, .inl (E.2.1, 63, .inl vr))] H := hP
  refine lv_iload_n hx hb dL_isShot_213 rfl (lv_at hl 4 rfl) ?_
  refine lv_iload_n hx hb dL_isShot_214 rfl (lv_at hl 5 rfl) ?_
  refine lv_aload hx hb dL_isShot_215 (lv_at hl 11 rfl) ?_
  refine lv_iload hx hb dL_isShot_217 (lv_at hl 2 rfl) ?_
  refine rn_iald (i := 3 * k + co) hx hb hK hP 7 0 rfl rfl (by omega) (by omega) dL_isShot_219 ?_
  refine lv_aload hx hb dL_isShot_220 (lv_at hl 7 rfl) ?_
  refine lv_aload hx hb dL_isShot_222 (lv_at hl 9 rfl) ?_
  refine rwS5 (rest := [.int (fIn f n (nI k) (nI co) (nI 3))]) S (c_L_prints l E k co (vl (3 * k + co)) aq ad vq vd (by omega) hco) cd_L_prints bw_407 ⟨Nat.le_of_ble_eq_true rfl, Nat.le_of_ble_eq_true rfl⟩ ⟨Nat.zero_le _, Nat.zero_le _⟩ hP (hDa.to rfl) hE hA hS [3, 5] rfl rfl [aq, ad] rfl rfl (Nat.le_of_ble_eq_true rfl) hl.1 dL_isShot_224 (fun H locs hP _ hS => ?_)
  have hP : va_P E.1 vwCl [(xo, .inr (4, [.ref r, .ref r2, .ref r3, .ref d, .ref y, .ref q2, .int sf])), (r, .inr (2, [.ref rc])), (rc, .inl (E.2.1, 293, .inl f)), (aq, .inl (E.2.1, 13, .inl vq)), (af, .inl (E.2.1, 21, .inl vf)), (ad, .inl (E.2.1, 63, .inl vd)), (aw, .inl (E.2.1, 63, .inl vw)), (al, .inl (E.2.1, 63, .inl vl)), (ar, .inl (E.2.1, 63, .inl vr))] H := hP
  refine lv_icmp_ne (tgt := 292) hx hb dL_isShot_227 (by decide) (fun c9 => absurd e_9 c9) (fun _ => ?_)
  refine lv_aload_n hx hb dL_isShot_230 rfl (lv_at hl 3 rfl) ?_
  refine lv_iload_n hx hb dL_isShot_231 rfl (lv_at hl 4 rfl) ?_
  refine lv_iload_n hx hb dL_isShot_232 rfl (lv_at hl 5 rfl) ?_
  refine lv_iconst (v := nI 4) hx hb dL_isShot_233 (by decide) ?_
  refine rwV3 (rest := []) S (c_X7_inColour l E xo r r2 r3 d y q2 sf rc f n (nI k) (nI co) (nI 4) hf hn) cd_X7_inColour bw_484 ⟨Nat.le_of_ble_eq_true rfl, Nat.le_of_ble_eq_true rfl⟩ ⟨Nat.zero_le _, Nat.zero_le _⟩ hP (hDa.to rfl) hE hA hS [0, 1, 2] rfl rfl [xo, r, rc] rfl rfl (ci := 4) rfl (q0 := 0) rfl (Nat.le_of_ble_eq_true rfl) hl.1 dL_isShot_234 (fun H locs hP _ hS => ?_)
  have hP : va_P E.1 vwCl [(xo, .inr (4, [.ref r, .ref r2, .ref r3, .ref d, .ref y, .ref q2, .int sf])), (r, .inr (2, [.ref rc])), (rc, .inl (E.2.1, 293, .inl f)), (aq, .inl (E.2.1, 13, .inl vq)), (af, .inl (E.2.1, 21, .inl vf)), (ad, .inl (E.2.1, 63, .inl vd)), (aw, .inl (E.2.1, 63, .inl vw)), (al, .inl (E.2.1, 63, .inl vl)), (ar, .inl (E.2.1, 63, .inl vr))] H := hP
  refine lv_iload_n hx hb dL_isShot_237 rfl (lv_at hl 4 rfl) ?_
  refine lv_iload_n hx hb dL_isShot_238 rfl (lv_at hl 5 rfl) ?_
  refine lv_aload hx hb dL_isShot_239 (lv_at hl 7 rfl) ?_
  refine lv_aload hx hb dL_isShot_241 (lv_at hl 9 rfl) ?_
  refine lv_aload hx hb dL_isShot_243 (lv_at hl 10 rfl) ?_
  refine lv_aload hx hb dL_isShot_245 (lv_at hl 11 rfl) ?_
  refine rwS6 (rest := [.int (fIn f n (nI k) (nI co) (nI 4))]) S (c_L_off l E k co aq ad aw al vq vd vw vl (by omega) hco) cd_L_off bw_404 ⟨Nat.le_of_ble_eq_true rfl, Nat.le_of_ble_eq_true rfl⟩ ⟨Nat.zero_le _, Nat.zero_le _⟩ hP (hDa.to rfl) hE hA hS [3, 5, 6, 7] rfl rfl [aq, ad, aw, al] rfl rfl (Nat.le_of_ble_eq_true rfl) hl.1 dL_isShot_247 (fun H locs hP _ hS => ?_)
  have hP : va_P E.1 vwCl [(xo, .inr (4, [.ref r, .ref r2, .ref r3, .ref d, .ref y, .ref q2, .int sf])), (r, .inr (2, [.ref rc])), (rc, .inl (E.2.1, 293, .inl f)), (aq, .inl (E.2.1, 13, .inl vq)), (af, .inl (E.2.1, 21, .inl vf)), (ad, .inl (E.2.1, 63, .inl vd)), (aw, .inl (E.2.1, 63, .inl vw)), (al, .inl (E.2.1, 63, .inl vl)), (ar, .inl (E.2.1, 63, .inl vr))] H := hP
  refine lv_bipush (v := nI 100) hx hb dL_isShot_250 (by decide) ?_
  refine lv_iadd hx hb dL_isShot_252 ?_
  refine lv_icmp_ne (tgt := 292) hx hb dL_isShot_253 (by decide) (fun c9 => absurd e_10 c9) (fun _ => ?_)
  refine lv_aload_n hx hb dL_isShot_256 rfl (lv_at hl 3 rfl) ?_
  refine lv_iload_n hx hb dL_isShot_257 rfl (lv_at hl 4 rfl) ?_
  refine lv_iload_n hx hb dL_isShot_258 rfl (lv_at hl 5 rfl) ?_
  refine lv_iconst (v := nI 5) hx hb dL_isShot_259 (by decide) ?_
  refine rwV3 (rest := []) S (c_X7_inColour l E xo r r2 r3 d y q2 sf rc f n (nI k) (nI co) (nI 5) hf hn) cd_X7_inColour bw_484 ⟨Nat.le_of_ble_eq_true rfl, Nat.le_of_ble_eq_true rfl⟩ ⟨Nat.zero_le _, Nat.zero_le _⟩ hP (hDa.to rfl) hE hA hS [0, 1, 2] rfl rfl [xo, r, rc] rfl rfl (ci := 4) rfl (q0 := 0) rfl (Nat.le_of_ble_eq_true rfl) hl.1 dL_isShot_260 (fun H locs hP _ hS => ?_)
  have hP : va_P E.1 vwCl [(xo, .inr (4, [.ref r, .ref r2, .ref r3, .ref d, .ref y, .ref q2, .int sf])), (r, .inr (2, [.ref rc])), (rc, .inl (E.2.1, 293, .inl f)), (aq, .inl (E.2.1, 13, .inl vq)), (af, .inl (E.2.1, 21, .inl vf)), (ad, .inl (E.2.1, 63, .inl vd)), (aw, .inl (E.2.1, 63, .inl vw)), (al, .inl (E.2.1, 63, .inl vl)), (ar, .inl (E.2.1, 63, .inl vr))] H := hP
  refine lv_aload hx hb dL_isShot_263 (lv_at hl 12 rfl) ?_
  refine lv_iload hx hb dL_isShot_265 (lv_at hl 2 rfl) ?_
  refine rn_iald (i := 3 * k + co) hx hb hK hP 8 0 rfl rfl (by omega) (by omega) dL_isShot_267 ?_
  refine (fun (hj : ∀ (H : Heap) (locs : List Loc), va_P E.1 vwCl [(xo, .inr (4, [.ref r, .ref r2, .ref r3, .ref d, .ref y, .ref q2, .int sf])), (r, .inr (2, [.ref rc])), (rc, .inl (E.2.1, 293, .inl f)), (aq, .inl (E.2.1, 13, .inl vq)), (af, .inl (E.2.1, 21, .inl vf)), (ad, .inl (E.2.1, 63, .inl vd)), (aw, .inl (E.2.1, 63, .inl vw)), (al, .inl (E.2.1, 63, .inl vl)), (ar, .inl (E.2.1, 63, .inl vr))] H → va_S A s.heap H locs → W pg l e (rq 7) s m ([.ref xo, .int (nI k), .int (nI co), .int x, .ref aq, .ref af, .ref ad, .ref aw, .ref al, .ref ar] : List Value).toArray below meth c H locs 0 0 Q (F0 m 285 ls [.int (if vr (3 * k + co) ≤ 0 then (-6) else vr (3 * k + co) - (nI 900)), .int (fIn f n (nI k) (nI co) (nI 5))])) => ?_) ?_
  · refine lv_if_le (tgt := 283) hx hb dL_isShot_268 (by decide) (fun c_14 => ?_) (fun c_14 => ?_)
    · refine lv_bipush (v := (-6)) hx hb dL_isShot_283 (by decide) ?_
      have hj9 := hj _ _ hP hS
      rw [if_pos c_14] at hj9
      exact hj9
    · refine lv_aload hx hb dL_isShot_271 (lv_at hl 12 rfl) ?_
      refine lv_iload hx hb dL_isShot_273 (lv_at hl 2 rfl) ?_
      refine rn_iald (i := 3 * k + co) hx hb hK hP 8 0 rfl rfl (by omega) (by omega) dL_isShot_275 ?_
      refine lv_sipush (v := nI 900) hx hb dL_isShot_276 (by decide) ?_
      refine lv_isub hx hb dL_isShot_279 ?_
      refine lv_goto (tgt := 285) hx hb dL_isShot_280 (by decide) ?_
      have hj9 := hj _ _ hP hS
      rw [if_neg c_14] at hj9
      exact hj9
  intro H locs hP hS
  refine lv_icmp_ne (tgt := 292) hx hb dL_isShot_285 (by decide) (fun c9 => absurd e_11 c9) (fun _ => ?_)
  refine lv_iconst (v := nI 1) hx hb dL_isShot_288 (by decide) ?_
  refine lv_goto (tgt := 293) hx hb dL_isShot_289 (by decide) ?_
  refine lv_istore (lv' := [(12, .int (nI 1)), (11, .int (vw (3 * k + co) + (vd (3 * k + co)) + (((vq (7 + co)) * (vq 3)) / (nI 100)) - (vq (10 + co)))), (10, .int (nI (3 * k + co))), (0, .ref xo), (1, .int (nI k)), (2, .int (nI co)), (3, .int x), (4, .ref aq), (5, .ref af), (6, .ref ad), (7, .ref aw), (8, .ref al), (9, .ref ar)]) hx hb dL_isShot_293 hl (by decide) rfl (fun ls hl => ?_)
  refine lv_iload hx hb dL_isShot_295 (lv_at hl 0 rfl) ?_
  refine lv_if_eq (tgt := 362) hx hb dL_isShot_297 (by decide) (fun c9 => by first | exact absurd c9 (by decide) | exact absurd (by decide) c9) (fun _ => ?_)
  refine lv_aload_n hx hb dL_isShot_300 rfl (lv_at hl 3 rfl) ?_
  refine lv_iload_n hx hb dL_isShot_301 rfl (lv_at hl 4 rfl) ?_
  refine lv_iload_n hx hb dL_isShot_302 rfl (lv_at hl 5 rfl) ?_
  refine rwV2 (rest := []) S (c_X7_needs l E xo r r2 r3 d y q2 sf rc f n (nI k) (nI co) hf hn) cd_X7_needs bw_492 ⟨Nat.le_of_ble_eq_true rfl, Nat.le_of_ble_eq_true rfl⟩ ⟨Nat.zero_le _, Nat.zero_le _⟩ hP (hDa.to rfl) hE hA hS [0, 1, 2] rfl rfl [xo, r, rc] rfl rfl (ci := 4) rfl (q0 := 0) rfl (Nat.le_of_ble_eq_true rfl) hl.1 dL_isShot_303 (fun H locs hP _ hS => ?_)
  have hP : va_P E.1 vwCl [(xo, .inr (4, [.ref r, .ref r2, .ref r3, .ref d, .ref y, .ref q2, .int sf])), (r, .inr (2, [.ref rc])), (rc, .inl (E.2.1, 293, .inl f)), (aq, .inl (E.2.1, 13, .inl vq)), (af, .inl (E.2.1, 21, .inl vf)), (ad, .inl (E.2.1, 63, .inl vd)), (aw, .inl (E.2.1, 63, .inl vw)), (al, .inl (E.2.1, 63, .inl vl)), (ar, .inl (E.2.1, 63, .inl vr))] H := hP
  refine lv_iload hx hb dL_isShot_306 (lv_at hl 1 rfl) ?_
  refine (fun (hj : ∀ (H : Heap) (locs : List Loc), va_P E.1 vwCl [(xo, .inr (4, [.ref r, .ref r2, .ref r3, .ref d, .ref y, .ref q2, .int sf])), (r, .inr (2, [.ref rc])), (rc, .inl (E.2.1, 293, .inl f)), (aq, .inl (E.2.1, 13, .inl vq)), (af, .inl (E.2.1, 21, .inl vf)), (ad, .inl (E.2.1, 63, .inl vd)), (aw, .inl (E.2.1, 63, .inl vw)), (al, .inl (E.2.1, 63, .inl vl)), (ar, .inl (E.2.1, 63, .inl vr))] H → va_S A s.heap H locs → W pg l e (rq 7) s m ([.ref xo, .int (nI k), .int (nI co), .int x, .ref aq, .ref af, .ref ad, .ref aw, .ref al, .ref ar] : List Value).toArray below meth c H locs 0 0 Q (F0 m 325 ls [.int (if vw (3 * k + co) + (vd (3 * k + co)) + (((vq (7 + co)) * (vq 3)) / (nI 100)) - (vq (10 + co)) < 0 then (-6) else if vw (3 * k + co) + (vd (3 * k + co)) + (((vq (7 + co)) * (vq 3)) / (nI 100)) - (vq (10 + co)) ≤ nI 50 then vw (3 * k + co) + (vd (3 * k + co)) + (((vq (7 + co)) * (vq 3)) / (nI 100)) - (vq (10 + co)) else (-6)), .int (fNe f n (nI k) (nI co))])) => ?_) ?_
  · refine lv_if_lt (tgt := 318) hx hb dL_isShot_308 (by decide) (fun c_16 => ?_) (fun c_16 => ?_)
    · refine lv_bipush (v := (-6)) hx hb dL_isShot_318 (by decide) ?_
      refine lv_goto (tgt := 325) hx hb dL_isShot_320 (by decide) ?_
      have hj9 := hj _ _ hP hS
      rw [if_pos c_16] at hj9
      exact hj9
    · refine lv_iload hx hb dL_isShot_311 (lv_at hl 1 rfl) ?_
      refine lv_bipush (v := nI 50) hx hb dL_isShot_313 (by decide) ?_
      refine lv_icmp_le (tgt := 323) hx hb dL_isShot_315 (by decide) (fun c_17 => ?_) (fun c_17 => ?_)
      · refine lv_iload hx hb dL_isShot_323 (lv_at hl 1 rfl) ?_
        have hj9 := hj _ _ hP hS
        rw [if_neg c_16, if_pos c_17] at hj9
        exact hj9
      · refine lv_bipush (v := (-6)) hx hb dL_isShot_318 (by decide) ?_
        refine lv_goto (tgt := 325) hx hb dL_isShot_320 (by decide) ?_
        have hj9 := hj _ _ hP hS
        rw [if_neg c_16, if_neg c_17] at hj9
        exact hj9
  intro H locs hP hS
  refine lv_icmp_ne (tgt := 362) hx hb dL_isShot_325 (by decide) (fun c9 => absurd e_12 c9) (fun _ => ?_)
  refine lv_aload_n hx hb dL_isShot_328 rfl (lv_at hl 3 rfl) ?_
  refine lv_iload_n hx hb dL_isShot_329 rfl (lv_at hl 4 rfl) ?_
  refine lv_iload_n hx hb dL_isShot_330 rfl (lv_at hl 5 rfl) ?_
  refine lv_iload_n hx hb dL_isShot_331 rfl (lv_at hl 6 rfl) ?_
  refine lv_bipush (v := nI 51) hx hb dL_isShot_332 (by decide) ?_
  refine rwS2 (rest := [.int (nI co), .int (nI k), .ref xo]) S (c_L_low l E x 51 (by omega) (by omega)) cd_L_low bw_140 ⟨Nat.le_of_ble_eq_true rfl, Nat.le_of_ble_eq_true rfl⟩ ⟨Nat.zero_le _, Nat.zero_le _⟩ hP (hDa.to rfl) hE hA hS [] rfl rfl [] rfl rfl (Nat.le_of_ble_eq_true rfl) hl.1 dL_isShot_334 (fun H locs hP _ hS => ?_)
  have hP : va_P E.1 vwCl [(xo, .inr (4, [.ref r, .ref r2, .ref r3, .ref d, .ref y, .ref q2, .int sf])), (r, .inr (2, [.ref rc])), (rc, .inl (E.2.1, 293, .inl f)), (aq, .inl (E.2.1, 13, .inl vq)), (af, .inl (E.2.1, 21, .inl vf)), (ad, .inl (E.2.1, 63, .inl vd)), (aw, .inl (E.2.1, 63, .inl vw)), (al, .inl (E.2.1, 63, .inl vl)), (ar, .inl (E.2.1, 63, .inl vr))] H := hP
  refine rwV3 (rest := []) S (c_X7_ifLight l E xo r r2 r3 d y q2 sf rc f n (nI k) (nI co) (nI (lowN x 51)) hf hn) cd_X7_ifLight bw_502 ⟨Nat.le_of_ble_eq_true rfl, Nat.le_of_ble_eq_true rfl⟩ ⟨Nat.zero_le _, Nat.zero_le _⟩ hP (hDa.to rfl) hE hA hS [0, 1, 2] rfl rfl [xo, r, rc] rfl rfl (ci := 4) rfl (q0 := 0) rfl (Nat.le_of_ble_eq_true rfl) hl.1 dL_isShot_337 (fun H locs hP _ hS => ?_)
  have hP : va_P E.1 vwCl [(xo, .inr (4, [.ref r, .ref r2, .ref r3, .ref d, .ref y, .ref q2, .int sf])), (r, .inr (2, [.ref rc])), (rc, .inl (E.2.1, 293, .inl f)), (aq, .inl (E.2.1, 13, .inl vq)), (af, .inl (E.2.1, 21, .inl vf)), (ad, .inl (E.2.1, 63, .inl vd)), (aw, .inl (E.2.1, 63, .inl vw)), (al, .inl (E.2.1, 63, .inl vl)), (ar, .inl (E.2.1, 63, .inl vr))] H := hP
  refine lv_iload_n hx hb dL_isShot_340 rfl (lv_at hl 4 rfl) ?_
  refine lv_iload_n hx hb dL_isShot_341 rfl (lv_at hl 5 rfl) ?_
  refine lv_iload_n hx hb dL_isShot_342 rfl (lv_at hl 6 rfl) ?_
  refine lv_bipush (v := nI 51) hx hb dL_isShot_343 (by decide) ?_
  refine rwS2 (rest := [.int (nI co), .int (nI k), .int (fIf f n (nI k) (nI co) (nI (lowN x 51)))]) S (c_L_low l E x 51 (by omega) (by omega)) cd_L_low bw_140 ⟨Nat.le_of_ble_eq_true rfl, Nat.le_of_ble_eq_true rfl⟩ ⟨Nat.zero_le _, Nat.zero_le _⟩ hP (hDa.to rfl) hE hA hS [] rfl rfl [] rfl rfl (Nat.le_of_ble_eq_true rfl) hl.1 dL_isShot_345 (fun H locs hP _ hS => ?_)
  have hP : va_P E.1 vwCl [(xo, .inr (4, [.ref r, .ref r2, .ref r3, .ref d, .ref y, .ref q2, .int sf])), (r, .inr (2, [.ref rc])), (rc, .inl (E.2.1, 293, .inl f)), (aq, .inl (E.2.1, 13, .inl vq)), (af, .inl (E.2.1, 21, .inl vf)), (ad, .inl (E.2.1, 63, .inl vd)), (aw, .inl (E.2.1, 63, .inl vw)), (al, .inl (E.2.1, 63, .inl vl)), (ar, .inl (E.2.1, 63, .inl vr))] H := hP
  refine lv_aload hx hb dL_isShot_348 (lv_at hl 7 rfl) ?_
  refine lv_aload hx hb dL_isShot_350 (lv_at hl 9 rfl) ?_
  refine rwS5 (rest := [.int (fIf f n (nI k) (nI co) (nI (lowN x 51)))]) S (c_L_prints l E k co (nI (lowN x 51)) aq ad vq vd (by omega) hco) cd_L_prints bw_407 ⟨Nat.le_of_ble_eq_true rfl, Nat.le_of_ble_eq_true rfl⟩ ⟨Nat.zero_le _, Nat.zero_le _⟩ hP (hDa.to rfl) hE hA hS [3, 5] rfl rfl [aq, ad] rfl rfl (Nat.le_of_ble_eq_true rfl) hl.1 dL_isShot_352 (fun H locs hP _ hS => ?_)
  have hP : va_P E.1 vwCl [(xo, .inr (4, [.ref r, .ref r2, .ref r3, .ref d, .ref y, .ref q2, .int sf])), (r, .inr (2, [.ref rc])), (rc, .inl (E.2.1, 293, .inl f)), (aq, .inl (E.2.1, 13, .inl vq)), (af, .inl (E.2.1, 21, .inl vf)), (ad, .inl (E.2.1, 63, .inl vd)), (aw, .inl (E.2.1, 63, .inl vw)), (al, .inl (E.2.1, 63, .inl vl)), (ar, .inl (E.2.1, 63, .inl vr))] H := hP
  refine lv_icmp_ne (tgt := 362) hx hb dL_isShot_355 (by decide) (fun c9 => absurd e_13 c9) (fun _ => ?_)
  refine lv_iconst (v := nI 1) hx hb dL_isShot_358 (by decide) ?_
  refine lv_goto (tgt := 363) hx hb dL_isShot_359 (by decide) ?_
  exact hret _ _ _ _ _ _ rfl rfl (by decide) hP hS dL_isShot_363

