theorem cd_L_due : cdS yL_due cL_due 13 (some .int) 10 := ⟨⟨bw_379, bw_1, by decide, by decide, by decide +kernel⟩, bw_378⟩
def u0V (vq : Nat → Int32) (vf : Nat → Int32) (vd : Nat → Int32) (vw : Nat → Int32) (vl : Nat → Int32) (vr : Nat → Int32) (n : Nat) (a : Nat) (b : Nat) (x : Int32) : Int32 := if n < a then (-1) else if n = 20 then (-4) else nI (n + 1)
def u0Q (vq : Nat → Int32) (vf : Nat → Int32) (vd : Nat → Int32) (vw : Nat → Int32) (vl : Nat → Int32) (vr : Nat → Int32) (n : Nat) (a : Nat) (b : Nat) (x : Int32) : Nat → Int32 := if n < a then vq else if n = 20 then vq else upd vq 4 (nI (n + 1))
def u0F (vq : Nat → Int32) (vf : Nat → Int32) (vd : Nat → Int32) (vw : Nat → Int32) (vl : Nat → Int32) (vr : Nat → Int32) (n : Nat) (a : Nat) (b : Nat) (x : Int32) : Nat → Int32 := if n < a then vf else if n = 20 then vf else upd (su1 vf n a) a (nI (1 + lowN x 99))
def u0D (vq : Nat → Int32) (vf : Nat → Int32) (vd : Nat → Int32) (vw : Nat → Int32) (vl : Nat → Int32) (vr : Nat → Int32) (n : Nat) (a : Nat) (b : Nat) (x : Int32) : Nat → Int32 := if n < a then vd else if n = 20 then vd else upd (upd (upd (su3 vd n a) (3 * a + 0) (nI (lowN (x >>> (nI 7 &&& 31)) 51))) (3 * a + 1) (nI (lowN (x >>> (nI 9 &&& 31)) 51))) (3 * a + 2) (nI (lowN (x >>> (nI 11 &&& 31)) 51))
def u0W (vq : Nat → Int32) (vf : Nat → Int32) (vd : Nat → Int32) (vw : Nat → Int32) (vl : Nat → Int32) (vr : Nat → Int32) (n : Nat) (a : Nat) (b : Nat) (x : Int32) : Nat → Int32 := if n < a then vw else if n = 20 then vw else upd (upd (upd (su3 vw n a) (3 * a + 0) (nI 0)) (3 * a + 1) (nI 0)) (3 * a + 2) (nI 0)
def u0L (vq : Nat → Int32) (vf : Nat → Int32) (vd : Nat → Int32) (vw : Nat → Int32) (vl : Nat → Int32) (vr : Nat → Int32) (n : Nat) (a : Nat) (b : Nat) (x : Int32) : Nat → Int32 := if n < a then vl else if n = 20 then vl else upd (upd (upd (su3 vl n a) (3 * a + 0) (nI 25)) (3 * a + 1) (nI 25)) (3 * a + 2) (nI 25)
def u0R (vq : Nat → Int32) (vf : Nat → Int32) (vd : Nat → Int32) (vw : Nat → Int32) (vl : Nat → Int32) (vr : Nat → Int32) (n : Nat) (a : Nat) (b : Nat) (x : Int32) : Nat → Int32 := if n < a then vr else if n = 20 then vr else fo3 (su3 vr n a) a
set_option maxHeartbeats 4000000 in
set_option maxRecDepth 100000 in
theorem c_L_due_0 (l : Launch) (E : EV) (a : Nat) (b : Nat) (x : Int32) (aq : Nat) (af : Nat) (ad : Nat) (aw : Nat) (al : Nat) (ar : Nat) (vq : Nat → Int32) (vf : Nat → Int32) (vd : Nat → Int32) (vw : Nat → Int32) (vl : Nat → Int32) (vr : Nat → Int32) (n : Nat) (hf : vq 4 = nI n) (hn : n ≤ 20) (ha9 : a < 21) : rcI l E yL_due cL_due 13 .int 4 [.int (nI 0), .int (nI a), .int (nI b), .int x, .ref aq, .ref af, .ref ad, .ref aw, .ref al, .ref ar] [(aq, .inl (E.2.1, 13, .inl vq)), (af, .inl (E.2.1, 21, .inl vf)), (ad, .inl (E.2.1, 63, .inl vd)), (aw, .inl (E.2.1, 63, .inl vw)), (al, .inl (E.2.1, 63, .inl vl)), (ar, .inl (E.2.1, 63, .inl vr))] (u0V vq vf vd vw vl vr n a b x) [(aq, .inl (E.2.1, 13, .inl (u0Q vq vf vd vw vl vr n a b x))), (af, .inl (E.2.1, 21, .inl (u0F vq vf vd vw vl vr n a b x))), (ad, .inl (E.2.1, 63, .inl (u0D vq vf vd vw vl vr n a b x))), (aw, .inl (E.2.1, 63, .inl (u0W vq vf vd vw vl vr n a b x))), (al, .inl (E.2.1, 63, .inl (u0L vq vf vd vw vl vr n a b x))), (ar, .inl (E.2.1, 63, .inl (u0R vq vf vd vw vl vr n a b x)))] := by
  refine rcI_of (by decide) (Nat.le_of_ble_eq_true rfl) ?_
  intro pg e s m below meth c Q A ls S hP hD0 hE hA hl hret
  have hx := S.1
  have hb := S.2.1
  have hown := S.2.2.2.1
  have hts := S.2.2.2.2
  have hK := hE.1
  have hS : va_S A s.heap s.heap [] := va_S.rf
  have hDa : va_Da A [aq, af, ad, aw, al, ar] := ⟨_, hD0, rfl⟩
  have hl : lv_has ls 13 [(0, .int (nI 0)), (1, .int (nI a)), (2, .int (nI b)), (3, .int x), (4, .ref aq), (5, .ref af), (6, .ref ad), (7, .ref aw), (8, .ref al), (9, .ref ar)] := hl
  refine lv_iload_n hx hb dL_due_0 rfl (lv_at hl 0 rfl) ?_
  refine lv_if_ne (tgt := 135) hx hb dL_due_1 (by decide) (fun c9 => by first | exact absurd c9 (by decide) | exact absurd (by decide) c9) (fun _ => ?_)
  refine lv_iload_n hx hb dL_due_4 rfl (lv_at hl 1 rfl) ?_
  refine lv_aload hx hb dL_due_5 (lv_at hl 4 rfl) ?_
  refine lv_iconst (v := nI 4) hx hb dL_due_7 (by decide) ?_
  refine rn_iald (i := 4) hx hb hK hP 0 0 rfl rfl (by omega) (by omega) dL_due_8 ?_
  refine W.eq (congrArg (fun z9 => F0 m 9 ls (.int z9 :: [.int (nI a)])) (show vq 4 = nI n from hf)) ?_
  refine rn_icmp_gt (a := a) (b := n) (tgt := 21) hx hb (by omega) (by omega) dL_due_9 (by decide) (fun c_1 => ?_) (fun c_1 => ?_)
  · refine lv_iload_n hx hb dL_due_21 rfl (lv_at hl 1 rfl) ?_
    refine lv_aload hx hb dL_due_22 (lv_at hl 4 rfl) ?_
    refine lv_iconst (v := nI 4) hx hb dL_due_24 (by decide) ?_
    refine rn_iald (i := 4) hx hb hK hP 0 0 rfl rfl (by omega) (by omega) dL_due_25 ?_
    refine W.eq (congrArg (fun z9 => F0 m 26 ls (.int z9 :: [.int (nI a)])) (show vq 4 = nI n from hf)) ?_
    refine rn_icmp_le (a := a) (b := n) (tgt := 33) hx hb (by omega) (by omega) dL_due_26 (by decide) (fun c_2 => absurd c_2 (by omega)) (fun c_2 => ?_)
    refine lv_iconst (v := (-1)) hx hb dL_due_29 (by decide) ?_
    refine lv_goto (tgt := 35) hx hb dL_due_30 (by decide) ?_
    exact hret _ _ _ _ _ _ (by rw [u0V, if_pos c_1]) (by rw [show u0Q vq vf vd vw vl vr n a b x = vq from by rw [u0Q, if_pos c_1], show u0F vq vf vd vw vl vr n a b x = vf from by rw [u0F, if_pos c_1], show u0D vq vf vd vw vl vr n a b x = vd from by rw [u0D, if_pos c_1], show u0W vq vf vd vw vl vr n a b x = vw from by rw [u0W, if_pos c_1], show u0L vq vf vd vw vl vr n a b x = vl from by rw [u0L, if_pos c_1], show u0R vq vf vd vw vl vr n a b x = vr from by rw [u0R, if_pos c_1]]) rfl hP hS dL_due_35
  · refine lv_aload hx hb dL_due_12 (lv_at hl 4 rfl) ?_
    refine lv_iconst (v := nI 4) hx hb dL_due_14 (by decide) ?_
    refine rn_iald (i := 4) hx hb hK hP 0 0 rfl rfl (by omega) (by omega) dL_due_15 ?_
    refine W.eq (congrArg (fun z9 => F0 m 16 ls (.int z9 :: [])) (show vq 4 = nI n from hf)) ?_
    refine lv_bipush (v := nI 20) hx hb dL_due_16 (by decide) ?_
    refine rn_icmp_ne (a := n) (b := 20) (tgt := 36) hx hb (by omega) (by omega) dL_due_18 (by decide) (fun c_3 => ?_) (fun c_3 => ?_)
    · refine lv_iload_n hx hb dL_due_36 rfl (lv_at hl 1 rfl) ?_
      refine lv_iconst (v := nI 1) hx hb dL_due_37 (by decide) ?_
      refine lv_aload hx hb dL_due_38 (lv_at hl 4 rfl) ?_
      refine lv_aload hx hb dL_due_40 (lv_at hl 5 rfl) ?_
      refine lv_aload hx hb dL_due_42 (lv_at hl 6 rfl) ?_
      refine lv_aload hx hb dL_due_44 (lv_at hl 7 rfl) ?_
      refine lv_aload hx hb dL_due_46 (lv_at hl 8 rfl) ?_
      refine lv_aload hx hb dL_due_48 (lv_at hl 9 rfl) ?_
      refine rwSv8 (rest := []) S (c_L_shift_u l E a aq af ad aw al ar vq vf vd vw vl vr n hf hn (by omega)) cd_L_shift bw_380 ⟨Nat.le_of_ble_eq_true rfl, Nat.le_of_ble_eq_true rfl⟩ ⟨Nat.zero_le _, Nat.zero_le _⟩ hP (hDa.to rfl) hE hA hS [0, 1, 2, 3, 4, 5] rfl rfl [aq, af, ad, aw, al, ar] rfl rfl (Nat.le_of_ble_eq_true rfl) hl.1 dL_due_50 (fun H locs hP _ hS => ?_)
      have hP : va_P E.1 vwCl [(aq, .inl (E.2.1, 13, .inl (upd vq 4 (nI (n + 1))))), (af, .inl (E.2.1, 21, .inl (su1 vf n a))), (ad, .inl (E.2.1, 63, .inl (su3 vd n a))), (aw, .inl (E.2.1, 63, .inl (su3 vw n a))), (al, .inl (E.2.1, 63, .inl (su3 vl n a))), (ar, .inl (E.2.1, 63, .inl (su3 vr n a)))] H := hP
      refine lv_aload hx hb dL_due_53 (lv_at hl 5 rfl) ?_
      refine lv_iload_n hx hb dL_due_55 rfl (lv_at hl 1 rfl) ?_
      refine lv_iconst (v := nI 1) hx hb dL_due_56 (by decide) ?_
      refine lv_iload_n hx hb dL_due_57 rfl (lv_at hl 3 rfl) ?_
      refine lv_bipush (v := nI 99) hx hb dL_due_58 (by decide) ?_
      refine rwS2 (rest := [.int (nI 1), .int (nI a), .ref af]) S (c_L_low l E x 99 (by omega) (by omega)) cd_L_low bw_140 ⟨Nat.le_of_ble_eq_true rfl, Nat.le_of_ble_eq_true rfl⟩ ⟨Nat.zero_le _, Nat.zero_le _⟩ hP (hDa.to rfl) hE hA hS [] rfl rfl [] rfl rfl (Nat.le_of_ble_eq_true rfl) hl.1 dL_due_60 (fun H locs hP _ hS => ?_)
      have hP : va_P E.1 vwCl [(aq, .inl (E.2.1, 13, .inl (upd vq 4 (nI (n + 1))))), (af, .inl (E.2.1, 21, .inl (su1 vf n a))), (ad, .inl (E.2.1, 63, .inl (su3 vd n a))), (aw, .inl (E.2.1, 63, .inl (su3 vw n a))), (al, .inl (E.2.1, 63, .inl (su3 vl n a))), (ar, .inl (E.2.1, 63, .inl (su3 vr n a)))] H := hP
      refine rn_add (a := 1) (b := lowN x 99) hx hb dL_due_63 ?_
      refine rn_iast (i := a) hx hb hK hP (hDa.to rfl) hS 1 0 rfl rfl (by omega) (by omega) dL_due_64 (fun H locs hP _ hS => ?_)
      have hP : va_P E.1 vwCl [(aq, .inl (E.2.1, 13, .inl (upd vq 4 (nI (n + 1))))), (af, .inl (E.2.1, 21, .inl (upd (su1 vf n a) a (nI (1 + lowN x 99))))), (ad, .inl (E.2.1, 63, .inl (su3 vd n a))), (aw, .inl (E.2.1, 63, .inl (su3 vw n a))), (al, .inl (E.2.1, 63, .inl (su3 vl n a))), (ar, .inl (E.2.1, 63, .inl (su3 vr n a)))] H := hP
      refine lv_iconst (v := nI 0) hx hb dL_due_65 (by decide) ?_
      refine lv_istore (lv' := [(10, .int (nI 0)), (0, .int (nI 0)), (1, .int (nI a)), (2, .int (nI b)), (3, .int x), (4, .ref aq), (5, .ref af), (6, .ref ad), (7, .ref aw), (8, .ref al), (9, .ref ar)]) hx hb dL_due_66 hl (by decide) rfl (fun ls hl => ?_)
      refine lv_iload hx hb dL_due_68 (lv_at hl 0 rfl) ?_
      refine lv_iconst (v := nI 3) hx hb dL_due_70 (by decide) ?_
      refine rn_icmp_ge (a := 0) (b := 3) (tgt := 124) hx hb (by omega) (by omega) dL_due_71 (by decide) (fun c_4 => absurd c_4 (by omega)) (fun c_4 => ?_)
      refine lv_aload hx hb dL_due_74 (lv_at hl 7 rfl) ?_
      refine lv_iconst (v := nI 3) hx hb dL_due_76 (by decide) ?_
      refine lv_iload_n hx hb dL_due_77 rfl (lv_at hl 2 rfl) ?_
      refine rn_mul (a := 3) (b := a) hx hb dL_due_78 ?_
      refine lv_iload hx hb dL_due_79 (lv_at hl 0 rfl) ?_
      refine rn_add (a := 3 * a) (b := 0) hx hb dL_due_81 ?_
      refine lv_iload_n hx hb dL_due_82 rfl (lv_at hl 4 rfl) ?_
      refine lv_bipush (v := nI 7) hx hb dL_due_83 (by decide) ?_
      refine lv_iconst (v := nI 2) hx hb dL_due_85 (by decide) ?_
      refine lv_iload hx hb dL_due_86 (lv_at hl 0 rfl) ?_
      refine rn_mul (a := 2) (b := 0) hx hb dL_due_88 ?_
      refine rn_add (a := 7) (b := 0) hx hb dL_due_89 ?_
      refine lv_ishr hx hb dL_due_90 ?_
      refine lv_bipush (v := nI 51) hx hb dL_due_91 (by decide) ?_
      refine rwS2 (rest := [.int (nI (3 * a + 0)), .ref ad]) S (c_L_low l E (x >>> (nI 7 &&& 31)) 51 (by omega) (by omega)) cd_L_low bw_140 ⟨Nat.le_of_ble_eq_true rfl, Nat.le_of_ble_eq_true rfl⟩ ⟨Nat.zero_le _, Nat.zero_le _⟩ hP (hDa.to rfl) hE hA hS [] rfl rfl [] rfl rfl (Nat.le_of_ble_eq_true rfl) hl.1 dL_due_93 (fun H locs hP _ hS => ?_)
      have hP : va_P E.1 vwCl [(aq, .inl (E.2.1, 13, .inl (upd vq 4 (nI (n + 1))))), (af, .inl (E.2.1, 21, .inl (upd (su1 vf n a) a (nI (1 + lowN x 99))))), (ad, .inl (E.2.1, 63, .inl (su3 vd n a))), (aw, .inl (E.2.1, 63, .inl (su3 vw n a))), (al, .inl (E.2.1, 63, .inl (su3 vl n a))), (ar, .inl (E.2.1, 63, .inl (su3 vr n a)))] H := hP
      refine rn_iast (i := 3 * a + 0) hx hb hK hP (hDa.to rfl) hS 2 0 rfl rfl (by omega) (by omega) dL_due_96 (fun H locs hP _ hS => ?_)
      have hP : va_P E.1 vwCl [(aq, .inl (E.2.1, 13, .inl (upd vq 4 (nI (n + 1))))), (af, .inl (E.2.1, 21, .inl (upd (su1 vf n a) a (nI (1 + lowN x 99))))), (ad, .inl (E.2.1, 63, .inl (upd (su3 vd n a) (3 * a + 0) (nI (lowN (x >>> (nI 7 &&& 31)) 51))))), (aw, .inl (E.2.1, 63, .inl (su3 vw n a))), (al, .inl (E.2.1, 63, .inl (su3 vl n a))), (ar, .inl (E.2.1, 63, .inl (su3 vr n a)))] H := hP
      refine lv_aload hx hb dL_due_97 (lv_at hl 8 rfl) ?_
      refine lv_iconst (v := nI 3) hx hb dL_due_99 (by decide) ?_
      refine lv_iload_n hx hb dL_due_100 rfl (lv_at hl 2 rfl) ?_
      refine rn_mul (a := 3) (b := a) hx hb dL_due_101 ?_
      refine lv_iload hx hb dL_due_102 (lv_at hl 0 rfl) ?_
      refine rn_add (a := 3 * a) (b := 0) hx hb dL_due_104 ?_
      refine lv_iconst (v := nI 0) hx hb dL_due_105 (by decide) ?_
      refine rn_iast (i := 3 * a + 0) hx hb hK hP (hDa.to rfl) hS 3 0 rfl rfl (by omega) (by omega) dL_due_106 (fun H locs hP _ hS => ?_)
      have hP : va_P E.1 vwCl [(aq, .inl (E.2.1, 13, .inl (upd vq 4 (nI (n + 1))))), (af, .inl (E.2.1, 21, .inl (upd (su1 vf n a) a (nI (1 + lowN x 99))))), (ad, .inl (E.2.1, 63, .inl (upd (su3 vd n a) (3 * a + 0) (nI (lowN (x >>> (nI 7 &&& 31)) 51))))), (aw, .inl (E.2.1, 63, .inl (upd (su3 vw n a) (3 * a + 0) (nI 0)))), (al, .inl (E.2.1, 63, .inl (su3 vl n a))), (ar, .inl (E.2.1, 63, .inl (su3 vr n a)))] H := hP
      refine lv_aload hx hb dL_due_107 (lv_at hl 9 rfl) ?_
      refine lv_iconst (v := nI 3) hx hb dL_due_109 (by decide) ?_
      refine lv_iload_n hx hb dL_due_110 rfl (lv_at hl 2 rfl) ?_
      refine rn_mul (a := 3) (b := a) hx hb dL_due_111 ?_
      refine lv_iload hx hb dL_due_112 (lv_at hl 0 rfl) ?_
      refine rn_add (a := 3 * a) (b := 0) hx hb dL_due_114 ?_
      refine lv_bipush (v := nI 25) hx hb dL_due_115 (by decide) ?_
      refine rn_iast (i := 3 * a + 0) hx hb hK hP (hDa.to rfl) hS 4 0 rfl rfl (by omega) (by omega) dL_due_117 (fun H locs hP _ hS => ?_)
      have hP : va_P E.1 vwCl [(aq, .inl (E.2.1, 13, .inl (upd vq 4 (nI (n + 1))))), (af, .inl (E.2.1, 21, .inl (upd (su1 vf n a) a (nI (1 + lowN x 99))))), (ad, .inl (E.2.1, 63, .inl (upd (su3 vd n a) (3 * a + 0) (nI (lowN (x >>> (nI 7 &&& 31)) 51))))), (aw, .inl (E.2.1, 63, .inl (upd (su3 vw n a) (3 * a + 0) (nI 0)))), (al, .inl (E.2.1, 63, .inl (upd (su3 vl n a) (3 * a + 0) (nI 25)))), (ar, .inl (E.2.1, 63, .inl (su3 vr n a)))] H := hP
      refine rn_inc (a := 0) (d := 1) (lv' := [(10, .int (nI 1)), (0, .int (nI 0)), (1, .int (nI a)), (2, .int (nI b)), (3, .int x), (4, .ref aq), (5, .ref af), (6, .ref ad), (7, .ref aw), (8, .ref al), (9, .ref ar)]) hx hb dL_due_118 hl (k := 0) rfl (by decide) (by decide) rfl (fun ls hl => ?_)
      refine lv_goto (tgt := 68) hx hb dL_due_121 (by decide) ?_
      refine lv_iload hx hb dL_due_68 (lv_at hl 0 rfl) ?_
      refine lv_iconst (v := nI 3) hx hb dL_due_70 (by decide) ?_
      refine rn_icmp_ge (a := 1) (b := 3) (tgt := 124) hx hb (by omega) (by omega) dL_due_71 (by decide) (fun c_5 => absurd c_5 (by omega)) (fun c_5 => ?_)
      refine lv_aload hx hb dL_due_74 (lv_at hl 7 rfl) ?_
      refine lv_iconst (v := nI 3) hx hb dL_due_76 (by decide) ?_
      refine lv_iload_n hx hb dL_due_77 rfl (lv_at hl 2 rfl) ?_
      refine rn_mul (a := 3) (b := a) hx hb dL_due_78 ?_
      refine lv_iload hx hb dL_due_79 (lv_at hl 0 rfl) ?_
      refine rn_add (a := 3 * a) (b := 1) hx hb dL_due_81 ?_
      refine lv_iload_n hx hb dL_due_82 rfl (lv_at hl 4 rfl) ?_
      refine lv_bipush (v := nI 7) hx hb dL_due_83 (by decide) ?_
      refine lv_iconst (v := nI 2) hx hb dL_due_85 (by decide) ?_
      refine lv_iload hx hb dL_due_86 (lv_at hl 0 rfl) ?_
      refine rn_mul (a := 2) (b := 1) hx hb dL_due_88 ?_
      refine rn_add (a := 7) (b := 2) hx hb dL_due_89 ?_
      refine lv_ishr hx hb dL_due_90 ?_
      refine lv_bipush (v := nI 51) hx hb dL_due_91 (by decide) ?_
      refine rwS2 (rest := [.int (nI (3 * a + 1)), .ref ad]) S (c_L_low l E (x >>> (nI 9 &&& 31)) 51 (by omega) (by omega)) cd_L_low bw_140 ⟨Nat.le_of_ble_eq_true rfl, Nat.le_of_ble_eq_true rfl⟩ ⟨Nat.zero_le _, Nat.zero_le _⟩ hP (hDa.to rfl) hE hA hS [] rfl rfl [] rfl rfl (Nat.le_of_ble_eq_true rfl) hl.1 dL_due_93 (fun H locs hP _ hS => ?_)
      have hP : va_P E.1 vwCl [(aq, .inl (E.2.1, 13, .inl (upd vq 4 (nI (n + 1))))), (af, .inl (E.2.1, 21, .inl (upd (su1 vf n a) a (nI (1 + lowN x 99))))), (ad, .inl (E.2.1, 63, .inl (upd (su3 vd n a) (3 * a + 0) (nI (lowN (x >>> (nI 7 &&& 31)) 51))))), (aw, .inl (E.2.1, 63, .inl (upd (su3 vw n a) (3 * a + 0) (nI 0)))), (al, .inl (E.2.1, 63, .inl (upd (su3 vl n a) (3 * a + 0) (nI 25)))), (ar, .inl (E.2.1, 63, .inl (su3 vr n a)))] H := hP
      refine rn_iast (i := 3 * a + 1) hx hb hK hP (hDa.to rfl) hS 2 0 rfl rfl (by omega) (by omega) dL_due_96 (fun H locs hP _ hS => ?_)
      have hP : va_P E.1 vwCl [(aq, .inl (E.2.1, 13, .inl (upd vq 4 (nI (n + 1))))), (af, .inl (E.2.1, 21, .inl (upd (su1 vf n a) a (nI (1 + lowN x 99))))), (ad, .inl (E.2.1, 63, .inl (upd (upd (su3 vd n a) (3 * a + 0) (nI (lowN (x >>> (nI 7 &&& 31)) 51))) (3 * a + 1) (nI (lowN (x >>> (nI 9 &&& 31)) 51))))), (aw, .inl (E.2.1, 63, .inl (upd (su3 vw n a) (3 * a + 0) (nI 0)))), (al, .inl (E.2.1, 63, .inl (upd (su3 vl n a) (3 * a + 0) (nI 25)))), (ar, .inl (E.2.1, 63, .inl (su3 vr n a)))] H := hP
      refine lv_aload hx hb dL_due_97 (lv_at hl 8 rfl) ?_
      refine lv_iconst (v := nI 3) hx hb dL_due_99 (by decide) ?_
      refine lv_iload_n hx hb dL_due_100 rfl (lv_at hl 2 rfl) ?_
      refine rn_mul (a := 3) (b := a) hx hb dL_due_101 ?_
      refine lv_iload hx hb dL_due_102 (lv_at hl 0 rfl) ?_
      refine rn_add (a := 3 * a) (b := 1) hx hb dL_due_104 ?_
      refine lv_iconst (v := nI 0) hx hb dL_due_105 (by decide) ?_
      refine rn_iast (i := 3 * a + 1) hx hb hK hP (hDa.to rfl) hS 3 0 rfl rfl (by omega) (by omega) dL_due_106 (fun H locs hP _ hS => ?_)
      have hP : va_P E.1 vwCl [(aq, .inl (E.2.1, 13, .inl (upd vq 4 (nI (n + 1))))), (af, .inl (E.2.1, 21, .inl (upd (su1 vf n a) a (nI (1 + lowN x 99))))), (ad, .inl (E.2.1, 63, .inl (upd (upd (su3 vd n a) (3 * a + 0) (nI (lowN (x >>> (nI 7 &&& 31)) 51))) (3 * a + 1) (nI (lowN (x >>> (nI 9 &&& 31)) 51))))), (aw, .inl (E.2.1, 63, .inl (upd (upd (su3 vw n a) (3 * a + 0) (nI 0)) (3 * a + 1) (nI 0)))), (al, .inl (E.2.1, 63, .inl (upd (su3 vl n a) (3 * a + 0) (nI 25)))), (ar, .inl (E.2.1, 63, .inl (su3 vr n a)))] H := hP
      refine lv_aload hx hb dL_due_107 (lv_at hl 9 rfl) ?_
      refine lv_iconst (v := nI 3) hx hb dL_due_109 (by decide) ?_
      refine lv_iload_n hx hb dL_due_110 rfl (lv_at hl 2 rfl) ?_
      refine rn_mul (a := 3) (b := a) hx hb dL_due_111 ?_
      refine lv_iload hx hb dL_due_112 (lv_at hl 0 rfl) ?_
      refine rn_add (a := 3 * a) (b := 1) hx hb dL_due_114 ?_
      refine lv_bipush (v := nI 25) hx hb dL_due_115 (by decide) ?_
      refine rn_iast (i := 3 * a + 1) hx hb hK hP (hDa.to rfl) hS 4 0 rfl rfl (by omega) (by omega) dL_due_117 (fun H locs hP _ hS => ?_)
      have hP : va_P E.1 vwCl [(aq, .inl (E.2.1, 13, .inl (upd vq 4 (nI (n + 1))))), (af, .inl (E.2.1, 21, .inl (upd (su1 vf n a) a (nI (1 + lowN x 99))))), (ad, .inl (E.2.1, 63, .inl (upd (upd (su3 vd n a) (3 * a + 0) (nI (lowN (x >>> (nI 7 &&& 31)) 51))) (3 * a + 1) (nI (lowN (x >>> (nI 9 &&& 31)) 51))))), (aw, .inl (E.2.1, 63, .inl (upd (upd (su3 vw n a) (3 * a + 0) (nI 0)) (3 * a + 1) (nI 0)))), (al, .inl (E.2.1, 63, .inl (upd (upd (su3 vl n a) (3 * a + 0) (nI 25)) (3 * a + 1) (nI 25)))), (ar, .inl (E.2.1, 63, .inl (su3 vr n a)))] H := hP
      refine rn_inc (a := 1) (d := 1) (lv' := [(10, .int (nI 2)), (0, .int (nI 0)), (1, .int (nI a)), (2, .int (nI b)), (3, .int x), (4, .ref aq), (5, .ref af), (6, .ref ad), (7, .ref aw), (8, .ref al), (9, .ref ar)]) hx hb dL_due_118 hl (k := 0) rfl (by decide) (by decide) rfl (fun ls hl => ?_)
      refine lv_goto (tgt := 68) hx hb dL_due_121 (by decide) ?_
      refine lv_iload hx hb dL_due_68 (lv_at hl 0 rfl) ?_
      refine lv_iconst (v := nI 3) hx hb dL_due_70 (by decide) ?_
      refine rn_icmp_ge (a := 2) (b := 3) (tgt := 124) hx hb (by omega) (by omega) dL_due_71 (by decide) (fun c_6 => absurd c_6 (by omega)) (fun c_6 => ?_)
      refine lv_aload hx hb dL_due_74 (lv_at hl 7 rfl) ?_
      refine lv_iconst (v := nI 3) hx hb dL_due_76 (by decide) ?_
      refine lv_iload_n hx hb dL_due_77 rfl (lv_at hl 2 rfl) ?_
      refine rn_mul (a := 3) (b := a) hx hb dL_due_78 ?_
      refine lv_iload hx hb dL_due_79 (lv_at hl 0 rfl) ?_
      refine rn_add (a := 3 * a) (b := 2) hx hb dL_due_81 ?_
      refine lv_iload_n hx hb dL_due_82 rfl (lv_at hl 4 rfl) ?_
      refine lv_bipush (v := nI 7) hx hb dL_due_83 (by decide) ?_
      refine lv_iconst (v := nI 2) hx hb dL_due_85 (by decide) ?_
      refine lv_iload hx hb dL_due_86 (lv_at hl 0 rfl) ?_
      refine rn_mul (a := 2) (b := 2) hx hb dL_due_88 ?_
      refine rn_add (a := 7) (b := 4) hx hb dL_due_89 ?_
      refine lv_ishr hx hb dL_due_90 ?_
      refine lv_bipush (v := nI 51) hx hb dL_due_91 (by decide) ?_
      refine rwS2 (rest := [.int (nI (3 * a + 2)), .ref ad]) S (c_L_low l E (x >>> (nI 11 &&& 31)) 51 (by omega) (by omega)) cd_L_low bw_140 ⟨Nat.le_of_ble_eq_true rfl, Nat.le_of_ble_eq_true rfl⟩ ⟨Nat.zero_le _, Nat.zero_le _⟩ hP (hDa.to rfl) hE hA hS [] rfl rfl [] rfl rfl (Nat.le_of_ble_eq_true rfl) hl.1 dL_due_93 (fun H locs hP _ hS => ?_)
      have hP : va_P E.1 vwCl [(aq, .inl (E.2.1, 13, .inl (upd vq 4 (nI (n + 1))))), (af, .inl (E.2.1, 21, .inl (upd (su1 vf n a) a (nI (1 + lowN x 99))))), (ad, .inl (E.2.1, 63, .inl (upd (upd (su3 vd n a) (3 * a + 0) (nI (lowN (x >>> (nI 7 &&& 31)) 51))) (3 * a + 1) (nI (lowN (x >>> (nI 9 &&& 31)) 51))))), (aw, .inl (E.2.1, 63, .inl (upd (upd (su3 vw n a) (3 * a + 0) (nI 0)) (3 * a + 1) (nI 0)))), (al, .inl (E.2.1, 63, .inl (upd (upd (su3 vl n a) (3 * a + 0) (nI 25)) (3 * a + 1) (nI 25)))), (ar, .inl (E.2.1, 63, .inl (su3 vr n a)))] H := hP
      refine rn_iast (i := 3 * a + 2) hx hb hK hP (hDa.to rfl) hS 2 0 rfl rfl (by omega) (by omega) dL_due_96 (fun H locs hP _ hS => ?_)
      have hP : va_P E.1 vwCl [(aq, .inl (E.2.1, 13, .inl (upd vq 4 (nI (n + 1))))), (af, .inl (E.2.1, 21, .inl (upd (su1 vf n a) a (nI (1 + lowN x 99))))), (ad, .inl (E.2.1, 63, .inl (upd (upd (upd (su3 vd n a) (3 * a + 0) (nI (lowN (x >>> (nI 7 &&& 31)) 51))) (3 * a + 1) (nI (lowN (x >>> (nI 9 &&& 31)) 51))) (3 * a + 2) (nI (lowN (x >>> (nI 11 &&& 31)) 51))))), (aw, .inl (E.2.1, 63, .inl (upd (upd (su3 vw n a) (3 * a + 0) (nI 0)) (3 * a + 1) (nI 0)))), (al, .inl (E.2.1, 63, .inl (upd (upd (su3 vl n a) (3 * a + 0) (nI 25)) (3 * a + 1) (nI 25)))), (ar, .inl (E.2.1, 63, .inl (su3 vr n a)))] H := hP
      refine lv_aload hx hb dL_due_97 (lv_at hl 8 rfl) ?_
      refine lv_iconst (v := nI 3) hx hb dL_due_99 (by decide) ?_
      refine lv_iload_n hx hb dL_due_100 rfl (lv_at hl 2 rfl) ?_
      refine rn_mul (a := 3) (b := a) hx hb dL_due_101 ?_
      refine lv_iload hx hb dL_due_102 (lv_at hl 0 rfl) ?_
      refine rn_add (a := 3 * a) (b := 2) hx hb dL_due_104 ?_
      refine lv_iconst (v := nI 0) hx hb dL_due_105 (by decide) ?_
      refine rn_iast (i := 3 * a + 2) hx hb hK hP (hDa.to rfl) hS 3 0 rfl rfl (by omega) (by omega) dL_due_106 (fun H locs hP _ hS => ?_)
      have hP : va_P E.1 vwCl [(aq, .inl (E.2.1, 13, .inl (upd vq 4 (nI (n + 1))))), (af, .inl (E.2.1, 21, .inl (upd (su1 vf n a) a (nI (1 + lowN x 99))))), (ad, .inl (E.2.1, 63, .inl (upd (upd (upd (su3 vd n a) (3 * a + 0) (nI (lowN (x >>> (nI 7 &&& 31)) 51))) (3 * a + 1) (nI (lowN (x >>> (nI 9 &&& 31)) 51))) (3 * a + 2) (nI (lowN (x >>> (nI 11 &&& 31)) 51))))), (aw, .inl (E.2.1, 63, .inl (upd (upd (upd (su3 vw n a) (3 * a + 0) (nI 0)) (3 * a + 1) (nI 0)) (3 * a + 2) (nI 0)))), (al, .inl (E.2.1, 63, .inl (upd (upd (su3 vl n a) (3 * a + 0) (nI 25)) (3 * a + 1) (nI 25)))), (ar, .inl (E.2.1, 63, .inl (su3 vr n a)))] H := hP
      refine lv_aload hx hb dL_due_107 (lv_at hl 9 rfl) ?_
      refine lv_iconst (v := nI 3) hx hb dL_due_109 (by decide) ?_
      refine lv_iload_n hx hb dL_due_110 rfl (lv_at hl 2 rfl) ?_
      refine rn_mul (a := 3) (b := a) hx hb dL_due_111 ?_
      refine lv_iload hx hb dL_due_112 (lv_at hl 0 rfl) ?_
      refine rn_add (a := 3 * a) (b := 2) hx hb dL_due_114 ?_
      refine lv_bipush (v := nI 25) hx hb dL_due_115 (by decide) ?_
      refine rn_iast (i := 3 * a + 2) hx hb hK hP (hDa.to rfl) hS 4 0 rfl rfl (by omega) (by omega) dL_due_117 (fun H locs hP _ hS => ?_)
      have hP : va_P E.1 vwCl [(aq, .inl (E.2.1, 13, .inl (upd vq 4 (nI (n + 1))))), (af, .inl (E.2.1, 21, .inl (upd (su1 vf n a) a (nI (1 + lowN x 99))))), (ad, .inl (E.2.1, 63, .inl (upd (upd (upd (su3 vd n a) (3 * a + 0) (nI (lowN (x >>> (nI 7 &&& 31)) 51))) (3 * a + 1) (nI (lowN (x >>> (nI 9 &&& 31)) 51))) (3 * a + 2) (nI (lowN (x >>> (nI 11 &&& 31)) 51))))), (aw, .inl (E.2.1, 63, .inl (upd (upd (upd (su3 vw n a) (3 * a + 0) (nI 0)) (3 * a + 1) (nI 0)) (3 * a + 2) (nI 0)))), (al, .inl (E.2.1, 63, .inl (upd (upd (upd (su3 vl n a) (3 * a + 0) (nI 25)) (3 * a + 1) (nI 25)) (3 * a + 2) (nI 25)))), (ar, .inl (E.2.1, 63, .inl (su3 vr n a)))] H := hP
      refine rn_inc (a := 2) (d := 1) (lv' := [(10, .int (nI 3)), (0, .int (nI 0)), (1, .int (nI a)), (2, .int (nI b)), (3, .int x), (4, .ref aq), (5, .ref af), (6, .ref ad), (7, .ref aw), (8, .ref al), (9, .ref ar)]) hx hb dL_due_118 hl (k := 0) rfl (by decide) (by decide) rfl (fun ls hl => ?_)
      refine lv_goto (tgt := 68) hx hb dL_due_121 (by decide) ?_
      refine lv_iload hx hb dL_due_68 (lv_at hl 0 rfl) ?_
      refine lv_iconst (v := nI 3) hx hb dL_due_70 (by decide) ?_
      refine rn_icmp_ge (a := 3) (b := 3) (tgt := 124) hx hb (by omega) (by omega) dL_due_71 (by decide) (fun c_7 => ?_) (fun c_7 => absurd c_7 (by omega))
      refine lv_iload_n hx hb dL_due_124 rfl (lv_at hl 2 rfl) ?_
      refine lv_aload hx hb dL_due_125 (lv_at hl 10 rfl) ?_
      refine rwSv2 (rest := []) S (c_L_forget l E a ar (su3 vr n a) ha9) cd_L_forget bw_386 ⟨Nat.le_of_ble_eq_true rfl, Nat.le_of_ble_eq_true rfl⟩ ⟨Nat.zero_le _, Nat.zero_le _⟩ hP (hDa.to rfl) hE hA hS [5] rfl rfl [ar] rfl rfl (Nat.le_of_ble_eq_true rfl) hl.1 dL_due_127 (fun H locs hP _ hS => ?_)
      have hP : va_P E.1 vwCl [(aq, .inl (E.2.1, 13, .inl (upd vq 4 (nI (n + 1))))), (af, .inl (E.2.1, 21, .inl (upd (su1 vf n a) a (nI (1 + lowN x 99))))), (ad, .inl (E.2.1, 63, .inl (upd (upd (upd (su3 vd n a) (3 * a + 0) (nI (lowN (x >>> (nI 7 &&& 31)) 51))) (3 * a + 1) (nI (lowN (x >>> (nI 9 &&& 31)) 51))) (3 * a + 2) (nI (lowN (x >>> (nI 11 &&& 31)) 51))))), (aw, .inl (E.2.1, 63, .inl (upd (upd (upd (su3 vw n a) (3 * a + 0) (nI 0)) (3 * a + 1) (nI 0)) (3 * a + 2) (nI 0)))), (al, .inl (E.2.1, 63, .inl (upd (upd (upd (su3 vl n a) (3 * a + 0) (nI 25)) (3 * a + 1) (nI 25)) (3 * a + 2) (nI 25)))), (ar, .inl (E.2.1, 63, .inl (fo3 (su3 vr n a) a)))] H := hP
      refine lv_aload hx hb dL_due_130 (lv_at hl 5 rfl) ?_
      refine lv_iconst (v := nI 4) hx hb dL_due_132 (by decide) ?_
      refine rn_iald (i := 4) hx hb hK hP 0 0 rfl rfl (by omega) (by omega) dL_due_133 ?_
      refine W.eq (congrArg (fun z9 => F0 m 134 ls (.int z9 :: [])) (show (upd vq 4 (nI (n + 1))) 4 = nI (n + 1) from pk_us)) ?_
      exact hret _ _ _ _ _ _ (by rw [u0V, if_neg c_1, if_neg c_3]) (by rw [show u0Q vq vf vd vw vl vr n a b x = upd vq 4 (nI (n + 1)) from by rw [u0Q, if_neg c_1, if_neg c_3], show u0F vq vf vd vw vl vr n a b x = upd (su1 vf n a) a (nI (1 + lowN x 99)) from by rw [u0F, if_neg c_1, if_neg c_3], show u0D vq vf vd vw vl vr n a b x = upd (upd (upd (su3 vd n a) (3 * a + 0) (nI (lowN (x >>> (nI 7 &&& 31)) 51))) (3 * a + 1) (nI (lowN (x >>> (nI 9 &&& 31)) 51))) (3 * a + 2) (nI (lowN (x >>> (nI 11 &&& 31)) 51)) from by rw [u0D, if_neg c_1, if_neg c_3], show u0W vq vf vd vw vl vr n a b x = upd (upd (upd (su3 vw n a) (3 * a + 0) (nI 0)) (3 * a + 1) (nI 0)) (3 * a + 2) (nI 0) from by rw [u0W, if_neg c_1, if_neg c_3], show u0L vq vf vd vw vl vr n a b x = upd (upd (upd (su3 vl n a) (3 * a + 0) (nI 25)) (3 * a + 1) (nI 25)) (3 * a + 2) (nI 25) from by rw [u0L, if_neg c_1, if_neg c_3], show u0R vq vf vd vw vl vr n a b x = fo3 (su3 vr n a) a from by rw [u0R, if_neg c_1, if_neg c_3]]) rfl hP hS dL_due_134
    · refine lv_iload_n hx hb dL_due_21 rfl (lv_at hl 1 rfl) ?_
      refine lv_aload hx hb dL_due_22 (lv_at hl 4 rfl) ?_
      refine lv_iconst (v := nI 4) hx hb dL_due_24 (by decide) ?_
      refine rn_iald (i := 4) hx hb hK hP 0 0 rfl rfl (by omega) (by omega) dL_due_25 ?_
      refine W.eq (congrArg (fun z9 => F0 m 26 ls (.int z9 :: [.int (nI a)])) (show vq 4 = nI n from hf)) ?_
      refine rn_icmp_le (a := a) (b := n) (tgt := 33) hx hb (by omega) (by omega) dL_due_26 (by decide) (fun c_8 => ?_) (fun c_8 => absurd c_8 (by omega))
      refine lv_bipush (v := (-4)) hx hb dL_due_33 (by decide) ?_
      exact hret _ _ _ _ _ _ (by rw [u0V, if_neg c_1, if_pos c_3]) (by rw [show u0Q vq vf vd vw vl vr n a b x = vq from by rw [u0Q, if_neg c_1, if_pos c_3], show u0F vq vf vd vw vl vr n a b x = vf from by rw [u0F, if_neg c_1, if_pos c_3], show u0D vq vf vd vw vl vr n a b x = vd from by rw [u0D, if_neg c_1, if_pos c_3], show u0W vq vf vd vw vl vr n a b x = vw from by rw [u0W, if_neg c_1, if_pos c_3], show u0L vq vf vd vw vl vr n a b x = vl from by rw [u0L, if_neg c_1, if_pos c_3], show u0R vq vf vd vw vl vr n a b x = vr from by rw [u0R, if_neg c_1, if_pos c_3]]) rfl hP hS dL_due_35

