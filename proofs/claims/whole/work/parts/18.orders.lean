/-! the orders of a text carried out -/
theorem cd_X7_carryOutOrder : cdV RX7 yX7_carryOutOrder cX7_carryOutOrder 3 (some .int) 0 := ⟨⟨bw_658, bw_58, by decide, by decide, by decide +kernel⟩, bw_657, bw_8⟩
def doV (f : Nat → Int32) (n : Nat) (le : Int32) (co : Int32) (mi : Int32) (u : Nat → Int32) : Int32 := if le = nI 97 then cZv f n else if le = nI 98 then (-3) else if le = nI 99 then cCv f n (u 0) else if le = nI 100 then (-3) else if le = nI 101 then (-3) else if le = nI 102 then (-3) else if le = nI 103 then (-3) else if le = nI 104 then (-3) else if le = nI 105 then (-3) else if le = nI 106 then (-3) else if le = nI 107 then cTv f else if le = nI 108 then cLv f n (u 0) co (u 1) else if le = nI 109 then cMv f n (u 0) (u 1) else if le = nI 110 then (-3) else if le = nI 111 then (-3) else if le = nI 112 then cKv f n else if le = nI 113 then (-3) else if le = nI 114 then (-3) else if le = nI 115 then cAv f n (nI n) (u 0) (u 1) (u 2) (u 3) else if le = nI 116 then (-3) else if le = nI 117 then (-3) else if le = nI 118 then (-3) else if le = nI 119 then if mi = 0 then cWv f n (u 0) co (u 1) else cWv f n (u 0) co (-(u 1)) else (-3)
def doW (f : Nat → Int32) (n : Nat) (le : Int32) (co : Int32) (mi : Int32) (u : Nat → Int32) : Nat → Int32 := if le = nI 97 then cZw f n else if le = nI 98 then f else if le = nI 99 then cCw f n (u 0) else if le = nI 100 then f else if le = nI 101 then f else if le = nI 102 then f else if le = nI 103 then f else if le = nI 104 then f else if le = nI 105 then f else if le = nI 106 then f else if le = nI 107 then cTw f else if le = nI 108 then cLw f n (u 0) co (u 1) else if le = nI 109 then cMw f n (u 0) (u 1) else if le = nI 110 then f else if le = nI 111 then f else if le = nI 112 then cKw f n else if le = nI 113 then f else if le = nI 114 then f else if le = nI 115 then cAw f n (nI n) (u 0) (u 1) (u 2) (u 3) else if le = nI 116 then f else if le = nI 117 then f else if le = nI 118 then f else if le = nI 119 then if mi = 0 then cWw f n (u 0) co (u 1) else cWw f n (u 0) co (-(u 1)) else f
set_option maxHeartbeats 4000000 in
set_option maxRecDepth 100000 in
theorem c_X7_carryOutOrder (l : Launch) (E : EV) (xo : Nat) (r : Nat) (r2 : Nat) (r3 : Nat) (d : Nat) (y : Nat) (q2 : Nat) (sf : Int32) (rc : Nat) (f : Nat → Int32) (ch : Nat) (nu : Nat) (L : Nat) (a : Int32) (b : Int32) (le : Int32) (co : Int32) (mi : Int32) (t : Nat → Int32) (u : Nat → Int32) (n : Nat) (hf : f 12 = nI n) (hn : n ≤ 20) (hmi : narrow .boolean (.int mi) = .int mi) : rcI l E yX7_carryOutOrder cX7_carryOutOrder 3 .int 7 [.ref xo] [(xo, .inr (4, [.ref r, .ref r2, .ref r3, .ref d, .ref y, .ref q2, .int sf])), (r, .inr (2, [.ref rc])), (rc, .inl (E.2.1, 293, .inl f)), (d, .inr (1, [.ref ch, .ref nu, .int (nI L), .int a, .int b, .int le, .int co, .int mi])), (ch, .inl (E.2.2.1, 80, .inl t)), (nu, .inl (E.2.1, 4, .inl u))] (doV f n le co mi u) [(xo, .inr (4, [.ref r, .ref r2, .ref r3, .ref d, .ref y, .ref q2, .int sf])), (r, .inr (2, [.ref rc])), (rc, .inl (E.2.1, 293, .inl (doW f n le co mi u))), (d, .inr (1, [.ref ch, .ref nu, .int (nI L), .int a, .int b, .int le, .int co, .int mi])), (ch, .inl (E.2.2.1, 80, .inl t)), (nu, .inl (E.2.1, 4, .inl u))] := by
  refine rcI_of (by decide) (Nat.le_of_ble_eq_true rfl) ?_
  intro pg e s m below meth c Q A ls S hP hD0 hE hA hl hret
  have hx := S.1
  have hb := S.2.1
  have hown := S.2.2.2.1
  have hts := S.2.2.2.2
  have hK := hE.1
  have hS : va_S A s.heap s.heap [] := va_S.rf
  have hDa : va_Da A [xo, r, rc, d, ch, nu] := ⟨_, hD0, rfl⟩
  have hl : lv_has ls 3 [(0, .ref xo)] := hl
  refine lv_aload_n hx hb dX7_carryOutOrder_0 rfl (lv_at hl 0 rfl) ?_
  refine va_get (D := E.1) (ci := 4) (v := .ref d) (C := RX7) (T := TX7) (N := 7) hx hb hts inb_X7 hown hK hP 0 rfl rfl 3 (by decide) (hts _ bw_163) (fun _ h9 => h9) rfl dX7_carryOutOrder_1 ?_
  refine lv_iconst (v := nI 0) hx hb dX7_carryOutOrder_4 (by decide) ?_
  refine rwV1 (rest := []) S (c_X2_number l E d ch nu L a b le co mi t u 0 (by omega)) cd_X2_number bw_659 ⟨Nat.le_of_ble_eq_true rfl, Nat.le_of_ble_eq_true rfl⟩ ⟨Nat.zero_le _, Nat.zero_le _⟩ hP (hDa.to rfl) hE hA hS [3, 4, 5] rfl rfl [d, ch, nu] rfl rfl (ci := 1) rfl (q0 := 0) rfl (Nat.le_of_ble_eq_true rfl) hl.1 dX7_carryOutOrder_5 (fun H locs hP _ hS => ?_)
  have hP : va_P E.1 vwCl [(xo, .inr (4, [.ref r, .ref r2, .ref r3, .ref d, .ref y, .ref q2, .int sf])), (r, .inr (2, [.ref rc])), (rc, .inl (E.2.1, 293, .inl f)), (d, .inr (1, [.ref ch, .ref nu, .int (nI L), .int a, .int b, .int le, .int co, .int mi])), (ch, .inl (E.2.2.1, 80, .inl t)), (nu, .inl (E.2.1, 4, .inl u))] H := hP
  refine lv_istore_n (lv' := [(1, .int (u 0)), (0, .ref xo)]) hx hb dX7_carryOutOrder_8 rfl hl (by decide) rfl (fun ls hl => ?_)
  refine lv_aload_n hx hb dX7_carryOutOrder_9 rfl (lv_at hl 1 rfl) ?_
  refine va_get (D := E.1) (ci := 4) (v := .ref d) (C := RX7) (T := TX7) (N := 7) hx hb hts inb_X7 hown hK hP 0 rfl rfl 3 (by decide) (hts _ bw_163) (fun _ h9 => h9) rfl dX7_carryOutOrder_10 ?_
  refine lv_iconst (v := nI 1) hx hb dX7_carryOutOrder_13 (by decide) ?_
  refine rwV1 (rest := []) S (c_X2_number l E d ch nu L a b le co mi t u 1 (by omega)) cd_X2_number bw_659 ⟨Nat.le_of_ble_eq_true rfl, Nat.le_of_ble_eq_true rfl⟩ ⟨Nat.zero_le _, Nat.zero_le _⟩ hP (hDa.to rfl) hE hA hS [3, 4, 5] rfl rfl [d, ch, nu] rfl rfl (ci := 1) rfl (q0 := 0) rfl (Nat.le_of_ble_eq_true rfl) hl.1 dX7_carryOutOrder_14 (fun H locs hP _ hS => ?_)
  have hP : va_P E.1 vwCl [(xo, .inr (4, [.ref r, .ref r2, .ref r3, .ref d, .ref y, .ref q2, .int sf])), (r, .inr (2, [.ref rc])), (rc, .inl (E.2.1, 293, .inl f)), (d, .inr (1, [.ref ch, .ref nu, .int (nI L), .int a, .int b, .int le, .int co, .int mi])), (ch, .inl (E.2.2.1, 80, .inl t)), (nu, .inl (E.2.1, 4, .inl u))] H := hP
  refine lv_istore_n (lv' := [(2, .int (u 1)), (1, .int (u 0)), (0, .ref xo)]) hx hb dX7_carryOutOrder_17 rfl hl (by decide) rfl (fun ls hl => ?_)
  refine lv_aload_n hx hb dX7_carryOutOrder_18 rfl (lv_at hl 2 rfl) ?_
  refine va_get (D := E.1) (ci := 4) (v := .ref d) (C := RX7) (T := TX7) (N := 7) hx hb hts inb_X7 hown hK hP 0 rfl rfl 3 (by decide) (hts _ bw_163) (fun _ h9 => h9) rfl dX7_carryOutOrder_19 ?_
  refine rwV0 (rest := []) S (c_X2_letter l E d ch nu L a b le co mi t u) cd_X2_letter bw_663 ⟨Nat.le_of_ble_eq_true rfl, Nat.le_of_ble_eq_true rfl⟩ ⟨Nat.zero_le _, Nat.zero_le _⟩ hP (hDa.to rfl) hE hA hS [3, 4, 5] rfl rfl [d, ch, nu] rfl rfl (ci := 1) rfl (q0 := 0) rfl (Nat.le_of_ble_eq_true rfl) hl.1 dX7_carryOutOrder_22 (fun H locs hP _ hS => ?_)
  have hP : va_P E.1 vwCl [(xo, .inr (4, [.ref r, .ref r2, .ref r3, .ref d, .ref y, .ref q2, .int sf])), (r, .inr (2, [.ref rc])), (rc, .inl (E.2.1, 293, .inl f)), (d, .inr (1, [.ref ch, .ref nu, .int (nI L), .int a, .int b, .int le, .int co, .int mi])), (ch, .inl (E.2.2.1, 80, .inl t)), (nu, .inl (E.2.1, 4, .inl u))] H := hP
  by_cases c_1 : le = nI 97
  · refine lv_tableIn (tgt := 241) hx hb dX7_carryOutOrder_25 (by rw [c_1]; decide) (by rw [c_1]; decide) (by rw [c_1]; rfl) (by decide) ?_
    refine lv_aload_n hx hb dX7_carryOutOrder_241 rfl (lv_at hl 2 rfl) ?_
    refine va_get (D := E.1) (ci := 4) (v := .ref r) (C := RX7) (T := TX7) (N := 7) hx hb hts inb_X7 hown hK hP 0 rfl rfl 0 (by decide) (hts _ bw_160) (fun _ h9 => h9) rfl dX7_carryOutOrder_242 ?_
    refine rwS1 (rest := []) S (c_X0_correctBadShots l E r rc f n hf hn) cd_X0_correctBadShots bw_385 ⟨Nat.le_of_ble_eq_true rfl, Nat.le_of_ble_eq_true rfl⟩ ⟨Nat.zero_le _, Nat.zero_le _⟩ hP (hDa.to rfl) hE hA hS [1, 2] rfl rfl [r, rc] rfl rfl (Nat.le_of_ble_eq_true rfl) hl.1 dX7_carryOutOrder_245 (fun H locs hP _ hS => ?_)
    have hP : va_P E.1 vwCl [(xo, .inr (4, [.ref r, .ref r2, .ref r3, .ref d, .ref y, .ref q2, .int sf])), (r, .inr (2, [.ref rc])), (rc, .inl (E.2.1, 293, .inl (cZw f n))), (d, .inr (1, [.ref ch, .ref nu, .int (nI L), .int a, .int b, .int le, .int co, .int mi])), (ch, .inl (E.2.2.1, 80, .inl t)), (nu, .inl (E.2.1, 4, .inl u))] H := hP
    exact hret _ _ _ _ _ _ (by rw [doV, if_pos c_1]) (by rw [doW, if_pos c_1]) rfl hP hS dX7_carryOutOrder_248
  by_cases c_2 : le = nI 98
  · refine lv_tableIn (tgt := 257) hx hb dX7_carryOutOrder_25 (by rw [c_2]; decide) (by rw [c_2]; decide) (by rw [c_2]; rfl) (by decide) ?_
    refine lv_bipush (v := (-3)) hx hb dX7_carryOutOrder_257 (by decide) ?_
    exact hret _ _ _ _ _ _ (by rw [doV, if_neg c_1, if_pos c_2]) (by rw [doW, if_neg c_1, if_pos c_2]) rfl hP hS dX7_carryOutOrder_259
  by_cases c_3 : le = nI 99
  · refine lv_tableIn (tgt := 232) hx hb dX7_carryOutOrder_25 (by rw [c_3]; decide) (by rw [c_3]; decide) (by rw [c_3]; rfl) (by decide) ?_
    refine lv_aload_n hx hb dX7_carryOutOrder_232 rfl (lv_at hl 2 rfl) ?_
    refine va_get (D := E.1) (ci := 4) (v := .ref r) (C := RX7) (T := TX7) (N := 7) hx hb hts inb_X7 hown hK hP 0 rfl rfl 0 (by decide) (hts _ bw_160) (fun _ h9 => h9) rfl dX7_carryOutOrder_233 ?_
    refine lv_iload_n hx hb dX7_carryOutOrder_236 rfl (lv_at hl 1 rfl) ?_
    refine rwS2 (rest := []) S (c_X0_correctShot l E r rc f n (u 0) hf hn) cd_X0_correctShot bw_372 ⟨Nat.le_of_ble_eq_true rfl, Nat.le_of_ble_eq_true rfl⟩ ⟨Nat.zero_le _, Nat.zero_le _⟩ hP (hDa.to rfl) hE hA hS [1, 2] rfl rfl [r, rc] rfl rfl (Nat.le_of_ble_eq_true rfl) hl.1 dX7_carryOutOrder_237 (fun H locs hP _ hS => ?_)
    have hP : va_P E.1 vwCl [(xo, .inr (4, [.ref r, .ref r2, .ref r3, .ref d, .ref y, .ref q2, .int sf])), (r, .inr (2, [.ref rc])), (rc, .inl (E.2.1, 293, .inl (cCw f n (u 0)))), (d, .inr (1, [.ref ch, .ref nu, .int (nI L), .int a, .int b, .int le, .int co, .int mi])), (ch, .inl (E.2.2.1, 80, .inl t)), (nu, .inl (E.2.1, 4, .inl u))] H := hP
    exact hret _ _ _ _ _ _ (by rw [doV, if_neg c_1, if_neg c_2, if_pos c_3]) (by rw [doW, if_neg c_1, if_neg c_2, if_pos c_3]) rfl hP hS dX7_carryOutOrder_240
  by_cases c_4 : le = nI 100
  · refine lv_tableIn (tgt := 257) hx hb dX7_carryOutOrder_25 (by rw [c_4]; decide) (by rw [c_4]; decide) (by rw [c_4]; rfl) (by decide) ?_
    refine lv_bipush (v := (-3)) hx hb dX7_carryOutOrder_257 (by decide) ?_
    exact hret _ _ _ _ _ _ (by rw [doV, if_neg c_1, if_neg c_2, if_neg c_3, if_pos c_4]) (by rw [doW, if_neg c_1, if_neg c_2, if_neg c_3, if_pos c_4]) rfl hP hS dX7_carryOutOrder_259
  by_cases c_5 : le = nI 101
  · refine lv_tableIn (tgt := 257) hx hb dX7_carryOutOrder_25 (by rw [c_5]; decide) (by rw [c_5]; decide) (by rw [c_5]; rfl) (by decide) ?_
    refine lv_bipush (v := (-3)) hx hb dX7_carryOutOrder_257 (by decide) ?_
    exact hret _ _ _ _ _ _ (by rw [doV, if_neg c_1, if_neg c_2, if_neg c_3, if_neg c_4, if_pos c_5]) (by rw [doW, if_neg c_1, if_neg c_2, if_neg c_3, if_neg c_4, if_pos c_5]) rfl hP hS dX7_carryOutOrder_259
  by_cases c_6 : le = nI 102
  · refine lv_tableIn (tgt := 257) hx hb dX7_carryOutOrder_25 (by rw [c_6]; decide) (by rw [c_6]; decide) (by rw [c_6]; rfl) (by decide) ?_
    refine lv_bipush (v := (-3)) hx hb dX7_carryOutOrder_257 (by decide) ?_
    exact hret _ _ _ _ _ _ (by rw [doV, if_neg c_1, if_neg c_2, if_neg c_3, if_neg c_4, if_neg c_5, if_pos c_6]) (by rw [doW, if_neg c_1, if_neg c_2, if_neg c_3, if_neg c_4, if_neg c_5, if_pos c_6]) rfl hP hS dX7_carryOutOrder_259
  by_cases c_7 : le = nI 103
  · refine lv_tableIn (tgt := 257) hx hb dX7_carryOutOrder_25 (by rw [c_7]; decide) (by rw [c_7]; decide) (by rw [c_7]; rfl) (by decide) ?_
    refine lv_bipush (v := (-3)) hx hb dX7_carryOutOrder_257 (by decide) ?_
    exact hret _ _ _ _ _ _ (by rw [doV, if_neg c_1, if_neg c_2, if_neg c_3, if_neg c_4, if_neg c_5, if_neg c_6, if_pos c_7]) (by rw [doW, if_neg c_1, if_neg c_2, if_neg c_3, if_neg c_4, if_neg c_5, if_neg c_6, if_pos c_7]) rfl hP hS dX7_carryOutOrder_259
  by_cases c_8 : le = nI 104
  · refine lv_tableIn (tgt := 257) hx hb dX7_carryOutOrder_25 (by rw [c_8]; decide) (by rw [c_8]; decide) (by rw [c_8]; rfl) (by decide) ?_
    refine lv_bipush (v := (-3)) hx hb dX7_carryOutOrder_257 (by decide) ?_
    exact hret _ _ _ _ _ _ (by rw [doV, if_neg c_1, if_neg c_2, if_neg c_3, if_neg c_4, if_neg c_5, if_neg c_6, if_neg c_7, if_pos c_8]) (by rw [doW, if_neg c_1, if_neg c_2, if_neg c_3, if_neg c_4, if_neg c_5, if_neg c_6, if_neg c_7, if_pos c_8]) rfl hP hS dX7_carryOutOrder_259
  by_cases c_9 : le = nI 105
  · refine lv_tableIn (tgt := 257) hx hb dX7_carryOutOrder_25 (by rw [c_9]; decide) (by rw [c_9]; decide) (by rw [c_9]; rfl) (by decide) ?_
    refine lv_bipush (v := (-3)) hx hb dX7_carryOutOrder_257 (by decide) ?_
    exact hret _ _ _ _ _ _ (by rw [doV, if_neg c_1, if_neg c_2, if_neg c_3, if_neg c_4, if_neg c_5, if_neg c_6, if_neg c_7, if_neg c_8, if_pos c_9]) (by rw [doW, if_neg c_1, if_neg c_2, if_neg c_3, if_neg c_4, if_neg c_5, if_neg c_6, if_neg c_7, if_neg c_8, if_pos c_9]) rfl hP hS dX7_carryOutOrder_259
  by_cases c_10 : le = nI 106
  · refine lv_tableIn (tgt := 257) hx hb dX7_carryOutOrder_25 (by rw [c_10]; decide) (by rw [c_10]; decide) (by rw [c_10]; rfl) (by decide) ?_
    refine lv_bipush (v := (-3)) hx hb dX7_carryOutOrder_257 (by decide) ?_
    exact hret _ _ _ _ _ _ (by rw [doV, if_neg c_1, if_neg c_2, if_neg c_3, if_neg c_4, if_neg c_5, if_neg c_6, if_neg c_7, if_neg c_8, if_neg c_9, if_pos c_10]) (by rw [doW, if_neg c_1, if_neg c_2, if_neg c_3, if_neg c_4, if_neg c_5, if_neg c_6, if_neg c_7, if_neg c_8, if_neg c_9, if_pos c_10]) rfl hP hS dX7_carryOutOrder_259
  by_cases c_11 : le = nI 107
  · refine lv_tableIn (tgt := 249) hx hb dX7_carryOutOrder_25 (by rw [c_11]; decide) (by rw [c_11]; decide) (by rw [c_11]; rfl) (by decide) ?_
    refine lv_aload_n hx hb dX7_carryOutOrder_249 rfl (lv_at hl 2 rfl) ?_
    refine va_get (D := E.1) (ci := 4) (v := .ref r) (C := RX7) (T := TX7) (N := 7) hx hb hts inb_X7 hown hK hP 0 rfl rfl 0 (by decide) (hts _ bw_160) (fun _ h9 => h9) rfl dX7_carryOutOrder_250 ?_
    refine rwS1 (rest := []) S (c_X0_setByCard l E r rc f) cd_X0_setByCard bw_393 ⟨Nat.le_of_ble_eq_true rfl, Nat.le_of_ble_eq_true rfl⟩ ⟨Nat.zero_le _, Nat.zero_le _⟩ hP (hDa.to rfl) hE hA hS [1, 2] rfl rfl [r, rc] rfl rfl (Nat.le_of_ble_eq_true rfl) hl.1 dX7_carryOutOrder_253 (fun H locs hP _ hS => ?_)
    have hP : va_P E.1 vwCl [(xo, .inr (4, [.ref r, .ref r2, .ref r3, .ref d, .ref y, .ref q2, .int sf])), (r, .inr (2, [.ref rc])), (rc, .inl (E.2.1, 293, .inl (cTw f))), (d, .inr (1, [.ref ch, .ref nu, .int (nI L), .int a, .int b, .int le, .int co, .int mi])), (ch, .inl (E.2.2.1, 80, .inl t)), (nu, .inl (E.2.1, 4, .inl u))] H := hP
    exact hret _ _ _ _ _ _ (by rw [doV, if_neg c_1, if_neg c_2, if_neg c_3, if_neg c_4, if_neg c_5, if_neg c_6, if_neg c_7, if_neg c_8, if_neg c_9, if_neg c_10, if_pos c_11]) (by rw [doW, if_neg c_1, if_neg c_2, if_neg c_3, if_neg c_4, if_neg c_5, if_neg c_6, if_neg c_7, if_neg c_8, if_neg c_9, if_neg c_10, if_pos c_11]) rfl hP hS dX7_carryOutOrder_256
  by_cases c_12 : le = nI 108
  · refine lv_tableIn (tgt := 165) hx hb dX7_carryOutOrder_25 (by rw [c_12]; decide) (by rw [c_12]; decide) (by rw [c_12]; rfl) (by decide) ?_
    refine lv_aload_n hx hb dX7_carryOutOrder_165 rfl (lv_at hl 2 rfl) ?_
    refine va_get (D := E.1) (ci := 4) (v := .ref r) (C := RX7) (T := TX7) (N := 7) hx hb hts inb_X7 hown hK hP 0 rfl rfl 0 (by decide) (hts _ bw_160) (fun _ h9 => h9) rfl dX7_carryOutOrder_166 ?_
    refine lv_iload_n hx hb dX7_carryOutOrder_169 rfl (lv_at hl 1 rfl) ?_
    refine lv_aload_n hx hb dX7_carryOutOrder_170 rfl (lv_at hl 2 rfl) ?_
    refine va_get (D := E.1) (ci := 4) (v := .ref d) (C := RX7) (T := TX7) (N := 7) hx hb hts inb_X7 hown hK hP 0 rfl rfl 3 (by decide) (hts _ bw_163) (fun _ h9 => h9) rfl dX7_carryOutOrder_171 ?_
    refine rwV0 (rest := [.int (u 0), .ref r]) S (c_X2_colour l E d ch nu L a b le co mi t u) cd_X2_colour bw_667 ⟨Nat.le_of_ble_eq_true rfl, Nat.le_of_ble_eq_true rfl⟩ ⟨Nat.zero_le _, Nat.zero_le _⟩ hP (hDa.to rfl) hE hA hS [3, 4, 5] rfl rfl [d, ch, nu] rfl rfl (ci := 1) rfl (q0 := 0) rfl (Nat.le_of_ble_eq_true rfl) hl.1 dX7_carryOutOrder_174 (fun H locs hP _ hS => ?_)
    have hP : va_P E.1 vwCl [(xo, .inr (4, [.ref r, .ref r2, .ref r3, .ref d, .ref y, .ref q2, .int sf])), (r, .inr (2, [.ref rc])), (rc, .inl (E.2.1, 293, .inl f)), (d, .inr (1, [.ref ch, .ref nu, .int (nI L), .int a, .int b, .int le, .int co, .int mi])), (ch, .inl (E.2.2.1, 80, .inl t)), (nu, .inl (E.2.1, 4, .inl u))] H := hP
    refine lv_iload_n hx hb dX7_carryOutOrder_177 rfl (lv_at hl 0 rfl) ?_
    refine rwS4 (rest := []) S (c_X0_changeLight l E r rc f n (u 0) co (u 1) hf hn) cd_X0_changeLight bw_284 ⟨Nat.le_of_ble_eq_true rfl, Nat.le_of_ble_eq_true rfl⟩ ⟨Nat.zero_le _, Nat.zero_le _⟩ hP (hDa.to rfl) hE hA hS [1, 2] rfl rfl [r, rc] rfl rfl (Nat.le_of_ble_eq_true rfl) hl.1 dX7_carryOutOrder_178 (fun H locs hP _ hS => ?_)
    have hP : va_P E.1 vwCl [(xo, .inr (4, [.ref r, .ref r2, .ref r3, .ref d, .ref y, .ref q2, .int sf])), (r, .inr (2, [.ref rc])), (rc, .inl (E.2.1, 293, .inl (cLw f n (u 0) co (u 1)))), (d, .inr (1, [.ref ch, .ref nu, .int (nI L), .int a, .int b, .int le, .int co, .int mi])), (ch, .inl (E.2.2.1, 80, .inl t)), (nu, .inl (E.2.1, 4, .inl u))] H := hP
    exact hret _ _ _ _ _ _ (by rw [doV, if_neg c_1, if_neg c_2, if_neg c_3, if_neg c_4, if_neg c_5, if_neg c_6, if_neg c_7, if_neg c_8, if_neg c_9, if_neg c_10, if_neg c_11, if_pos c_12]) (by rw [doW, if_neg c_1, if_neg c_2, if_neg c_3, if_neg c_4, if_neg c_5, if_neg c_6, if_neg c_7, if_neg c_8, if_neg c_9, if_neg c_10, if_neg c_11, if_pos c_12]) rfl hP hS dX7_carryOutOrder_181
  by_cases c_13 : le = nI 109
  · refine lv_tableIn (tgt := 214) hx hb dX7_carryOutOrder_25 (by rw [c_13]; decide) (by rw [c_13]; decide) (by rw [c_13]; rfl) (by decide) ?_
    refine lv_aload_n hx hb dX7_carryOutOrder_214 rfl (lv_at hl 2 rfl) ?_
    refine va_get (D := E.1) (ci := 4) (v := .ref r) (C := RX7) (T := TX7) (N := 7) hx hb hts inb_X7 hown hK hP 0 rfl rfl 0 (by decide) (hts _ bw_160) (fun _ h9 => h9) rfl dX7_carryOutOrder_215 ?_
    refine lv_iload_n hx hb dX7_carryOutOrder_218 rfl (lv_at hl 1 rfl) ?_
    refine lv_iload_n hx hb dX7_carryOutOrder_219 rfl (lv_at hl 0 rfl) ?_
    refine rwS3 (rest := []) S (c_X0_moveShot l E r rc f n (u 0) (u 1) hf hn) cd_X0_moveShot bw_302 ⟨Nat.le_of_ble_eq_true rfl, Nat.le_of_ble_eq_true rfl⟩ ⟨Nat.zero_le _, Nat.zero_le _⟩ hP (hDa.to rfl) hE hA hS [1, 2] rfl rfl [r, rc] rfl rfl (Nat.le_of_ble_eq_true rfl) hl.1 dX7_carryOutOrder_220 (fun H locs hP _ hS => ?_)
    have hP : va_P E.1 vwCl [(xo, .inr (4, [.ref r, .ref r2, .ref r3, .ref d, .ref y, .ref q2, .int sf])), (r, .inr (2, [.ref rc])), (rc, .inl (E.2.1, 293, .inl (cMw f n (u 0) (u 1)))), (d, .inr (1, [.ref ch, .ref nu, .int (nI L), .int a, .int b, .int le, .int co, .int mi])), (ch, .inl (E.2.2.1, 80, .inl t)), (nu, .inl (E.2.1, 4, .inl u))] H := hP
    exact hret _ _ _ _ _ _ (by rw [doV, if_neg c_1, if_neg c_2, if_neg c_3, if_neg c_4, if_neg c_5, if_neg c_6, if_neg c_7, if_neg c_8, if_neg c_9, if_neg c_10, if_neg c_11, if_neg c_12, if_pos c_13]) (by rw [doW, if_neg c_1, if_neg c_2, if_neg c_3, if_neg c_4, if_neg c_5, if_neg c_6, if_neg c_7, if_neg c_8, if_neg c_9, if_neg c_10, if_neg c_11, if_neg c_12, if_pos c_13]) rfl hP hS dX7_carryOutOrder_223
  by_cases c_14 : le = nI 110
  · refine lv_tableIn (tgt := 257) hx hb dX7_carryOutOrder_25 (by rw [c_14]; decide) (by rw [c_14]; decide) (by rw [c_14]; rfl) (by decide) ?_
    refine lv_bipush (v := (-3)) hx hb dX7_carryOutOrder_257 (by decide) ?_
    exact hret _ _ _ _ _ _ (by rw [doV, if_neg c_1, if_neg c_2, if_neg c_3, if_neg c_4, if_neg c_5, if_neg c_6, if_neg c_7, if_neg c_8, if_neg c_9, if_neg c_10, if_neg c_11, if_neg c_12, if_neg c_13, if_pos c_14]) (by rw [doW, if_neg c_1, if_neg c_2, if_neg c_3, if_neg c_4, if_neg c_5, if_neg c_6, if_neg c_7, if_neg c_8, if_neg c_9, if_neg c_10, if_neg c_11, if_neg c_12, if_neg c_13, if_pos c_14]) rfl hP hS dX7_carryOutOrder_259
  by_cases c_15 : le = nI 111
  · refine lv_tableIn (tgt := 257) hx hb dX7_carryOutOrder_25 (by rw [c_15]; decide) (by rw [c_15]; decide) (by rw [c_15]; rfl) (by decide) ?_
    refine lv_bipush (v := (-3)) hx hb dX7_carryOutOrder_257 (by decide) ?_
    exact hret _ _ _ _ _ _ (by rw [doV, if_neg c_1, if_neg c_2, if_neg c_3, if_neg c_4, if_neg c_5, if_neg c_6, if_neg c_7, if_neg c_8, if_neg c_9, if_neg c_10, if_neg c_11, if_neg c_12, if_neg c_13, if_neg c_14, if_pos c_15]) (by rw [doW, if_neg c_1, if_neg c_2, if_neg c_3, if_neg c_4, if_neg c_5, if_neg c_6, if_neg c_7, if_neg c_8, if_neg c_9, if_neg c_10, if_neg c_11, if_neg c_12, if_neg c_13, if_neg c_14, if_pos c_15]) rfl hP hS dX7_carryOutOrder_259
  by_cases c_16 : le = nI 112
  · refine lv_tableIn (tgt := 224) hx hb dX7_carryOutOrder_25 (by rw [c_16]; decide) (by rw [c_16]; decide) (by rw [c_16]; rfl) (by decide) ?_
    refine lv_aload_n hx hb dX7_carryOutOrder_224 rfl (lv_at hl 2 rfl) ?_
    refine va_get (D := E.1) (ci := 4) (v := .ref r) (C := RX7) (T := TX7) (N := 7) hx hb hts inb_X7 hown hK hP 0 rfl rfl 0 (by decide) (hts _ bw_160) (fun _ h9 => h9) rfl dX7_carryOutOrder_225 ?_
    refine rwS1 (rest := []) S (c_X0_makePrint l E r rc f n hf hn) cd_X0_makePrint bw_333 ⟨Nat.le_of_ble_eq_true rfl, Nat.le_of_ble_eq_true rfl⟩ ⟨Nat.zero_le _, Nat.zero_le _⟩ hP (hDa.to rfl) hE hA hS [1, 2] rfl rfl [r, rc] rfl rfl (Nat.le_of_ble_eq_true rfl) hl.1 dX7_carryOutOrder_228 (fun H locs hP _ hS => ?_)
    have hP : va_P E.1 vwCl [(xo, .inr (4, [.ref r, .ref r2, .ref r3, .ref d, .ref y, .ref q2, .int sf])), (r, .inr (2, [.ref rc])), (rc, .inl (E.2.1, 293, .inl (cKw f n))), (d, .inr (1, [.ref ch, .ref nu, .int (nI L), .int a, .int b, .int le, .int co, .int mi])), (ch, .inl (E.2.2.1, 80, .inl t)), (nu, .inl (E.2.1, 4, .inl u))] H := hP
    exact hret _ _ _ _ _ _ (by rw [doV, if_neg c_1, if_neg c_2, if_neg c_3, if_neg c_4, if_neg c_5, if_neg c_6, if_neg c_7, if_neg c_8, if_neg c_9, if_neg c_10, if_neg c_11, if_neg c_12, if_neg c_13, if_neg c_14, if_neg c_15, if_pos c_16]) (by rw [doW, if_neg c_1, if_neg c_2, if_neg c_3, if_neg c_4, if_neg c_5, if_neg c_6, if_neg c_7, if_neg c_8, if_neg c_9, if_neg c_10, if_neg c_11, if_neg c_12, if_neg c_13, if_neg c_14, if_neg c_15, if_pos c_16]) rfl hP hS dX7_carryOutOrder_231
  by_cases c_17 : le = nI 113
  · refine lv_tableIn (tgt := 257) hx hb dX7_carryOutOrder_25 (by rw [c_17]; decide) (by rw [c_17]; decide) (by rw [c_17]; rfl) (by decide) ?_
    refine lv_bipush (v := (-3)) hx hb dX7_carryOutOrder_257 (by decide) ?_
    exact hret _ _ _ _ _ _ (by rw [doV, if_neg c_1, if_neg c_2, if_neg c_3, if_neg c_4, if_neg c_5, if_neg c_6, if_neg c_7, if_neg c_8, if_neg c_9, if_neg c_10, if_neg c_11, if_neg c_12, if_neg c_13, if_neg c_14, if_neg c_15, if_neg c_16, if_pos c_17]) (by rw [doW, if_neg c_1, if_neg c_2, if_neg c_3, if_neg c_4, if_neg c_5, if_neg c_6, if_neg c_7, if_neg c_8, if_neg c_9, if_neg c_10, if_neg c_11, if_neg c_12, if_neg c_13, if_neg c_14, if_neg c_15, if_neg c_16, if_pos c_17]) rfl hP hS dX7_carryOutOrder_259
  by_cases c_18 : le = nI 114
  · refine lv_tableIn (tgt := 257) hx hb dX7_carryOutOrder_25 (by rw [c_18]; decide) (by rw [c_18]; decide) (by rw [c_18]; rfl) (by decide) ?_
    refine lv_bipush (v := (-3)) hx hb dX7_carryOutOrder_257 (by decide) ?_
    exact hret _ _ _ _ _ _ (by rw [doV, if_neg c_1, if_neg c_2, if_neg c_3, if_neg c_4, if_neg c_5, if_neg c_6, if_neg c_7, if_neg c_8, if_neg c_9, if_neg c_10, if_neg c_11, if_neg c_12, if_neg c_13, if_neg c_14, if_neg c_15, if_neg c_16, if_neg c_17, if_pos c_18]) (by rw [doW, if_neg c_1, if_neg c_2, if_neg c_3, if_neg c_4, if_neg c_5, if_neg c_6, if_neg c_7, if_neg c_8, if_neg c_9, if_neg c_10, if_neg c_11, if_neg c_12, if_neg c_13, if_neg c_14, if_neg c_15, if_neg c_16, if_neg c_17, if_pos c_18]) rfl hP hS dX7_carryOutOrder_259
  by_cases c_19 : le = nI 115
  · refine lv_tableIn (tgt := 132) hx hb dX7_carryOutOrder_25 (by rw [c_19]; decide) (by rw [c_19]; decide) (by rw [c_19]; rfl) (by decide) ?_
    refine lv_aload_n hx hb dX7_carryOutOrder_132 rfl (lv_at hl 2 rfl) ?_
    refine va_get (D := E.1) (ci := 4) (v := .ref r) (C := RX7) (T := TX7) (N := 7) hx hb hts inb_X7 hown hK hP 0 rfl rfl 0 (by decide) (hts _ bw_160) (fun _ h9 => h9) rfl dX7_carryOutOrder_133 ?_
    refine lv_aload_n hx hb dX7_carryOutOrder_136 rfl (lv_at hl 2 rfl) ?_
    refine va_get (D := E.1) (ci := 4) (v := .ref r) (C := RX7) (T := TX7) (N := 7) hx hb hts inb_X7 hown hK hP 0 rfl rfl 0 (by decide) (hts _ bw_160) (fun _ h9 => h9) rfl dX7_carryOutOrder_137 ?_
    refine rwV0 (rest := [.ref r]) S (c_X3_shots l E r rc f n hf) cd_X3_shots bw_448 ⟨Nat.le_of_ble_eq_true rfl, Nat.le_of_ble_eq_true rfl⟩ ⟨Nat.zero_le _, Nat.zero_le _⟩ hP (hDa.to rfl) hE hA hS [1, 2] rfl rfl [r, rc] rfl rfl (ci := 2) rfl (q0 := 0) rfl (Nat.le_of_ble_eq_true rfl) hl.1 dX7_carryOutOrder_140 (fun H locs hP _ hS => ?_)
    have hP : va_P E.1 vwCl [(xo, .inr (4, [.ref r, .ref r2, .ref r3, .ref d, .ref y, .ref q2, .int sf])), (r, .inr (2, [.ref rc])), (rc, .inl (E.2.1, 293, .inl f)), (d, .inr (1, [.ref ch, .ref nu, .int (nI L), .int a, .int b, .int le, .int co, .int mi])), (ch, .inl (E.2.2.1, 80, .inl t)), (nu, .inl (E.2.1, 4, .inl u))] H := hP
    refine lv_iload_n hx hb dX7_carryOutOrder_143 rfl (lv_at hl 1 rfl) ?_
    refine lv_iload_n hx hb dX7_carryOutOrder_144 rfl (lv_at hl 0 rfl) ?_
    refine lv_aload_n hx hb dX7_carryOutOrder_145 rfl (lv_at hl 2 rfl) ?_
    refine va_get (D := E.1) (ci := 4) (v := .ref d) (C := RX7) (T := TX7) (N := 7) hx hb hts inb_X7 hown hK hP 0 rfl rfl 3 (by decide) (hts _ bw_163) (fun _ h9 => h9) rfl dX7_carryOutOrder_146 ?_
    refine lv_iconst (v := nI 2) hx hb dX7_carryOutOrder_149 (by decide) ?_
    refine rwV1 (rest := [.int (u 1), .int (u 0), .int (nI n), .ref r]) S (c_X2_number l E d ch nu L a b le co mi t u 2 (by omega)) cd_X2_number bw_659 ⟨Nat.le_of_ble_eq_true rfl, Nat.le_of_ble_eq_true rfl⟩ ⟨Nat.zero_le _, Nat.zero_le _⟩ hP (hDa.to rfl) hE hA hS [3, 4, 5] rfl rfl [d, ch, nu] rfl rfl (ci := 1) rfl (q0 := 0) rfl (Nat.le_of_ble_eq_true rfl) hl.1 dX7_carryOutOrder_150 (fun H locs hP _ hS => ?_)
    have hP : va_P E.1 vwCl [(xo, .inr (4, [.ref r, .ref r2, .ref r3, .ref d, .ref y, .ref q2, .int sf])), (r, .inr (2, [.ref rc])), (rc, .inl (E.2.1, 293, .inl f)), (d, .inr (1, [.ref ch, .ref nu, .int (nI L), .int a, .int b, .int le, .int co, .int mi])), (ch, .inl (E.2.2.1, 80, .inl t)), (nu, .inl (E.2.1, 4, .inl u))] H := hP
    refine lv_aload_n hx hb dX7_carryOutOrder_153 rfl (lv_at hl 2 rfl) ?_
    refine va_get (D := E.1) (ci := 4) (v := .ref d) (C := RX7) (T := TX7) (N := 7) hx hb hts inb_X7 hown hK hP 0 rfl rfl 3 (by decide) (hts _ bw_163) (fun _ h9 => h9) rfl dX7_carryOutOrder_154 ?_
    refine lv_iconst (v := nI 3) hx hb dX7_carryOutOrder_157 (by decide) ?_
    refine rwV1 (rest := [.int (u 2), .int (u 1), .int (u 0), .int (nI n), .ref r]) S (c_X2_number l E d ch nu L a b le co mi t u 3 (by omega)) cd_X2_number bw_659 ⟨Nat.le_of_ble_eq_true rfl, Nat.le_of_ble_eq_true rfl⟩ ⟨Nat.zero_le _, Nat.zero_le _⟩ hP (hDa.to rfl) hE hA hS [3, 4, 5] rfl rfl [d, ch, nu] rfl rfl (ci := 1) rfl (q0 := 0) rfl (Nat.le_of_ble_eq_true rfl) hl.1 dX7_carryOutOrder_158 (fun H locs hP _ hS => ?_)
    have hP : va_P E.1 vwCl [(xo, .inr (4, [.ref r, .ref r2, .ref r3, .ref d, .ref y, .ref q2, .int sf])), (r, .inr (2, [.ref rc])), (rc, .inl (E.2.1, 293, .inl f)), (d, .inr (1, [.ref ch, .ref nu, .int (nI L), .int a, .int b, .int le, .int co, .int mi])), (ch, .inl (E.2.2.1, 80, .inl t)), (nu, .inl (E.2.1, 4, .inl u))] H := hP
    refine rwS6 (rest := []) S (c_X0_addShot l E r rc f n (nI n) (u 0) (u 1) (u 2) (u 3) hf hn) cd_X0_addShot bw_231 ⟨Nat.le_of_ble_eq_true rfl, Nat.le_of_ble_eq_true rfl⟩ ⟨Nat.zero_le _, Nat.zero_le _⟩ hP (hDa.to rfl) hE hA hS [1, 2] rfl rfl [r, rc] rfl rfl (Nat.le_of_ble_eq_true rfl) hl.1 dX7_carryOutOrder_161 (fun H locs hP _ hS => ?_)
    have hP : va_P E.1 vwCl [(xo, .inr (4, [.ref r, .ref r2, .ref r3, .ref d, .ref y, .ref q2, .int sf])), (r, .inr (2, [.ref rc])), (rc, .inl (E.2.1, 293, .inl (cAw f n (nI n) (u 0) (u 1) (u 2) (u 3)))), (d, .inr (1, [.ref ch, .ref nu, .int (nI L), .int a, .int b, .int le, .int co, .int mi])), (ch, .inl (E.2.2.1, 80, .inl t)), (nu, .inl (E.2.1, 4, .inl u))] H := hP
    exact hret _ _ _ _ _ _ (by rw [doV, if_neg c_1, if_neg c_2, if_neg c_3, if_neg c_4, if_neg c_5, if_neg c_6, if_neg c_7, if_neg c_8, if_neg c_9, if_neg c_10, if_neg c_11, if_neg c_12, if_neg c_13, if_neg c_14, if_neg c_15, if_neg c_16, if_neg c_17, if_neg c_18, if_pos c_19]) (by rw [doW, if_neg c_1, if_neg c_2, if_neg c_3, if_neg c_4, if_neg c_5, if_neg c_6, if_neg c_7, if_neg c_8, if_neg c_9, if_neg c_10, if_neg c_11, if_neg c_12, if_neg c_13, if_neg c_14, if_neg c_15, if_neg c_16, if_neg c_17, if_neg c_18, if_pos c_19]) rfl hP hS dX7_carryOutOrder_164
  by_cases c_20 : le = nI 116
  · refine lv_tableIn (tgt := 257) hx hb dX7_carryOutOrder_25 (by rw [c_20]; decide) (by rw [c_20]; decide) (by rw [c_20]; rfl) (by decide) ?_
    refine lv_bipush (v := (-3)) hx hb dX7_carryOutOrder_257 (by decide) ?_
    exact hret _ _ _ _ _ _ (by rw [doV, if_neg c_1, if_neg c_2, if_neg c_3, if_neg c_4, if_neg c_5, if_neg c_6, if_neg c_7, if_neg c_8, if_neg c_9, if_neg c_10, if_neg c_11, if_neg c_12, if_neg c_13, if_neg c_14, if_neg c_15, if_neg c_16, if_neg c_17, if_neg c_18, if_neg c_19, if_pos c_20]) (by rw [doW, if_neg c_1, if_neg c_2, if_neg c_3, if_neg c_4, if_neg c_5, if_neg c_6, if_neg c_7, if_neg c_8, if_neg c_9, if_neg c_10, if_neg c_11, if_neg c_12, if_neg c_13, if_neg c_14, if_neg c_15, if_neg c_16, if_neg c_17, if_neg c_18, if_neg c_19, if_pos c_20]) rfl hP hS dX7_carryOutOrder_259
  by_cases c_21 : le = nI 117
  · refine lv_tableIn (tgt := 257) hx hb dX7_carryOutOrder_25 (by rw [c_21]; decide) (by rw [c_21]; decide) (by rw [c_21]; rfl) (by decide) ?_
    refine lv_bipush (v := (-3)) hx hb dX7_carryOutOrder_257 (by decide) ?_
    exact hret _ _ _ _ _ _ (by rw [doV, if_neg c_1, if_neg c_2, if_neg c_3, if_neg c_4, if_neg c_5, if_neg c_6, if_neg c_7, if_neg c_8, if_neg c_9, if_neg c_10, if_neg c_11, if_neg c_12, if_neg c_13, if_neg c_14, if_neg c_15, if_neg c_16, if_neg c_17, if_neg c_18, if_neg c_19, if_neg c_20, if_pos c_21]) (by rw [doW, if_neg c_1, if_neg c_2, if_neg c_3, if_neg c_4, if_neg c_5, if_neg c_6, if_neg c_7, if_neg c_8, if_neg c_9, if_neg c_10, if_neg c_11, if_neg c_12, if_neg c_13, if_neg c_14, if_neg c_15, if_neg c_16, if_neg c_17, if_neg c_18, if_neg c_19, if_neg c_20, if_pos c_21]) rfl hP hS dX7_carryOutOrder_259
  by_cases c_22 : le = nI 118
  · refine lv_tableIn (tgt := 257) hx hb dX7_carryOutOrder_25 (by rw [c_22]; decide) (by rw [c_22]; decide) (by rw [c_22]; rfl) (by decide) ?_
    refine lv_bipush (v := (-3)) hx hb dX7_carryOutOrder_257 (by decide) ?_
    exact hret _ _ _ _ _ _ (by rw [doV, if_neg c_1, if_neg c_2, if_neg c_3, if_neg c_4, if_neg c_5, if_neg c_6, if_neg c_7, if_neg c_8, if_neg c_9, if_neg c_10, if_neg c_11, if_neg c_12, if_neg c_13, if_neg c_14, if_neg c_15, if_neg c_16, if_neg c_17, if_neg c_18, if_neg c_19, if_neg c_20, if_neg c_21, if_pos c_22]) (by rw [doW, if_neg c_1, if_neg c_2, if_neg c_3, if_neg c_4, if_neg c_5, if_neg c_6, if_neg c_7, if_neg c_8, if_neg c_9, if_neg c_10, if_neg c_11, if_neg c_12, if_neg c_13, if_neg c_14, if_neg c_15, if_neg c_16, if_neg c_17, if_neg c_18, if_neg c_19, if_neg c_20, if_neg c_21, if_pos c_22]) rfl hP hS dX7_carryOutOrder_259
  by_cases c_23 : le = nI 119
  · refine lv_tableIn (tgt := 182) hx hb dX7_carryOutOrder_25 (by rw [c_23]; decide) (by rw [c_23]; decide) (by rw [c_23]; rfl) (by decide) ?_
    refine lv_aload_n hx hb dX7_carryOutOrder_182 rfl (lv_at hl 2 rfl) ?_
    refine va_get (D := E.1) (ci := 4) (v := .ref r) (C := RX7) (T := TX7) (N := 7) hx hb hts inb_X7 hown hK hP 0 rfl rfl 0 (by decide) (hts _ bw_160) (fun _ h9 => h9) rfl dX7_carryOutOrder_183 ?_
    refine lv_iload_n hx hb dX7_carryOutOrder_186 rfl (lv_at hl 1 rfl) ?_
    refine lv_aload_n hx hb dX7_carryOutOrder_187 rfl (lv_at hl 2 rfl) ?_
    refine va_get (D := E.1) (ci := 4) (v := .ref d) (C := RX7) (T := TX7) (N := 7) hx hb hts inb_X7 hown hK hP 0 rfl rfl 3 (by decide) (hts _ bw_163) (fun _ h9 => h9) rfl dX7_carryOutOrder_188 ?_
    refine rwV0 (rest := [.int (u 0), .ref r]) S (c_X2_colour l E d ch nu L a b le co mi t u) cd_X2_colour bw_667 ⟨Nat.le_of_ble_eq_true rfl, Nat.le_of_ble_eq_true rfl⟩ ⟨Nat.zero_le _, Nat.zero_le _⟩ hP (hDa.to rfl) hE hA hS [3, 4, 5] rfl rfl [d, ch, nu] rfl rfl (ci := 1) rfl (q0 := 0) rfl (Nat.le_of_ble_eq_true rfl) hl.1 dX7_carryOutOrder_191 (fun H locs hP _ hS => ?_)
    have hP : va_P E.1 vwCl [(xo, .inr (4, [.ref r, .ref r2, .ref r3, .ref d, .ref y, .ref q2, .int sf])), (r, .inr (2, [.ref rc])), (rc, .inl (E.2.1, 293, .inl f)), (d, .inr (1, [.ref ch, .ref nu, .int (nI L), .int a, .int b, .int le, .int co, .int mi])), (ch, .inl (E.2.2.1, 80, .inl t)), (nu, .inl (E.2.1, 4, .inl u))] H := hP
    refine lv_aload_n hx hb dX7_carryOutOrder_194 rfl (lv_at hl 2 rfl) ?_
    refine va_get (D := E.1) (ci := 4) (v := .ref d) (C := RX7) (T := TX7) (N := 7) hx hb hts inb_X7 hown hK hP 0 rfl rfl 3 (by decide) (hts _ bw_163) (fun _ h9 => h9) rfl dX7_carryOutOrder_195 ?_
    refine rwV0 (rest := [.int co, .int (u 0), .ref r]) S (c_X2_isMinus l E d ch nu L a b le co mi t u hmi) cd_X2_isMinus bw_671 ⟨Nat.le_of_ble_eq_true rfl, Nat.le_of_ble_eq_true rfl⟩ ⟨Nat.zero_le _, Nat.zero_le _⟩ hP (hDa.to rfl) hE hA hS [3, 4, 5] rfl rfl [d, ch, nu] rfl rfl (ci := 1) rfl (q0 := 0) rfl (Nat.le_of_ble_eq_true rfl) hl.1 dX7_carryOutOrder_198 (fun H locs hP _ hS => ?_)
    have hP : va_P E.1 vwCl [(xo, .inr (4, [.ref r, .ref r2, .ref r3, .ref d, .ref y, .ref q2, .int sf])), (r, .inr (2, [.ref rc])), (rc, .inl (E.2.1, 293, .inl f)), (d, .inr (1, [.ref ch, .ref nu, .int (nI L), .int a, .int b, .int le, .int co, .int mi])), (ch, .inl (E.2.2.1, 80, .inl t)), (nu, .inl (E.2.1, 4, .inl u))] H := hP
    refine lv_if_eq (tgt := 209) hx hb dX7_carryOutOrder_201 (by decide) (fun c_24 => ?_) (fun c_24 => ?_)
    · refine lv_iload_n hx hb dX7_carryOutOrder_209 rfl (lv_at hl 0 rfl) ?_
      refine rwS4 (rest := []) S (c_X0_changeWish l E r rc f n (u 0) co (u 1) hf hn) cd_X0_changeWish bw_295 ⟨Nat.le_of_ble_eq_true rfl, Nat.le_of_ble_eq_true rfl⟩ ⟨Nat.zero_le _, Nat.zero_le _⟩ hP (hDa.to rfl) hE hA hS [1, 2] rfl rfl [r, rc] rfl rfl (Nat.le_of_ble_eq_true rfl) hl.1 dX7_carryOutOrder_210 (fun H locs hP _ hS => ?_)
      have hP : va_P E.1 vwCl [(xo, .inr (4, [.ref r, .ref r2, .ref r3, .ref d, .ref y, .ref q2, .int sf])), (r, .inr (2, [.ref rc])), (rc, .inl (E.2.1, 293, .inl (cWw f n (u 0) co (u 1)))), (d, .inr (1, [.ref ch, .ref nu, .int (nI L), .int a, .int b, .int le, .int co, .int mi])), (ch, .inl (E.2.2.1, 80, .inl t)), (nu, .inl (E.2.1, 4, .inl u))] H := hP
      exact hret _ _ _ _ _ _ (by rw [doV, if_neg c_1, if_neg c_2, if_neg c_3, if_neg c_4, if_neg c_5, if_neg c_6, if_neg c_7, if_neg c_8, if_neg c_9, if_neg c_10, if_neg c_11, if_neg c_12, if_neg c_13, if_neg c_14, if_neg c_15, if_neg c_16, if_neg c_17, if_neg c_18, if_neg c_19, if_neg c_20, if_neg c_21, if_neg c_22, if_pos c_23, if_pos c_24]) (by rw [doW, if_neg c_1, if_neg c_2, if_neg c_3, if_neg c_4, if_neg c_5, if_neg c_6, if_neg c_7, if_neg c_8, if_neg c_9, if_neg c_10, if_neg c_11, if_neg c_12, if_neg c_13, if_neg c_14, if_neg c_15, if_neg c_16, if_neg c_17, if_neg c_18, if_neg c_19, if_neg c_20, if_neg c_21, if_neg c_22, if_pos c_23, if_pos c_24]) rfl hP hS dX7_carryOutOrder_213
    · refine lv_iload_n hx hb dX7_carryOutOrder_204 rfl (lv_at hl 0 rfl) ?_
      refine lv_ineg hx hb dX7_carryOutOrder_205 ?_
      refine lv_goto (tgt := 210) hx hb dX7_carryOutOrder_206 (by decide) ?_
      refine rwS4 (rest := []) S (c_X0_changeWish l E r rc f n (u 0) co (-(u 1)) hf hn) cd_X0_changeWish bw_295 ⟨Nat.le_of_ble_eq_true rfl, Nat.le_of_ble_eq_true rfl⟩ ⟨Nat.zero_le _, Nat.zero_le _⟩ hP (hDa.to rfl) hE hA hS [1, 2] rfl rfl [r, rc] rfl rfl (Nat.le_of_ble_eq_true rfl) hl.1 dX7_carryOutOrder_210 (fun H locs hP _ hS => ?_)
      have hP : va_P E.1 vwCl [(xo, .inr (4, [.ref r, .ref r2, .ref r3, .ref d, .ref y, .ref q2, .int sf])), (r, .inr (2, [.ref rc])), (rc, .inl (E.2.1, 293, .inl (cWw f n (u 0) co (-(u 1))))), (d, .inr (1, [.ref ch, .ref nu, .int (nI L), .int a, .int b, .int le, .int co, .int mi])), (ch, .inl (E.2.2.1, 80, .inl t)), (nu, .inl (E.2.1, 4, .inl u))] H := hP
      exact hret _ _ _ _ _ _ (by rw [doV, if_neg c_1, if_neg c_2, if_neg c_3, if_neg c_4, if_neg c_5, if_neg c_6, if_neg c_7, if_neg c_8, if_neg c_9, if_neg c_10, if_neg c_11, if_neg c_12, if_neg c_13, if_neg c_14, if_neg c_15, if_neg c_16, if_neg c_17, if_neg c_18, if_neg c_19, if_neg c_20, if_neg c_21, if_neg c_22, if_pos c_23, if_neg c_24]) (by rw [doW, if_neg c_1, if_neg c_2, if_neg c_3, if_neg c_4, if_neg c_5, if_neg c_6, if_neg c_7, if_neg c_8, if_neg c_9, if_neg c_10, if_neg c_11, if_neg c_12, if_neg c_13, if_neg c_14, if_neg c_15, if_neg c_16, if_neg c_17, if_neg c_18, if_neg c_19, if_neg c_20, if_neg c_21, if_neg c_22, if_pos c_23, if_neg c_24]) rfl hP hS dX7_carryOutOrder_213
  refine lv_tableOut (tgt := 257) hx hb dX7_carryOutOrder_25 (sw_out (lo := 97) (n := 23) ((lt_s (lt_s (lt_s (lt_s (lt_s (lt_s (lt_s (lt_s (lt_s (lt_s (lt_s (lt_s (lt_s (lt_s (lt_s (lt_s (lt_s (lt_s (lt_s (lt_s (lt_s (lt_s (lt_s lt_0 c_1) c_2) c_3) c_4) c_5) c_6) c_7) c_8) c_9) c_10) c_11) c_12) c_13) c_14) c_15) c_16) c_17) c_18) c_19) c_20) c_21) c_22) c_23 : ∀ a, a < 23 → (fun a => ¬ le = nI (97 + a)) a))) (by decide) ?_
  refine lv_bipush (v := (-3)) hx hb dX7_carryOutOrder_257 (by decide) ?_
  exact hret _ _ _ _ _ _ (by rw [doV, if_neg c_1, if_neg c_2, if_neg c_3, if_neg c_4, if_neg c_5, if_neg c_6, if_neg c_7, if_neg c_8, if_neg c_9, if_neg c_10, if_neg c_11, if_neg c_12, if_neg c_13, if_neg c_14, if_neg c_15, if_neg c_16, if_neg c_17, if_neg c_18, if_neg c_19, if_neg c_20, if_neg c_21, if_neg c_22, if_neg c_23]) (by rw [doW, if_neg c_1, if_neg c_2, if_neg c_3, if_neg c_4, if_neg c_5, if_neg c_6, if_neg c_7, if_neg c_8, if_neg c_9, if_neg c_10, if_neg c_11, if_neg c_12, if_neg c_13, if_neg c_14, if_neg c_15, if_neg c_16, if_neg c_17, if_neg c_18, if_neg c_19, if_neg c_20, if_neg c_21, if_neg c_22, if_neg c_23]) rfl hP hS dX7_carryOutOrder_259

theorem swN_12 (f : Nat → Int32) (a b j : Nat) : swN f a b j 12 = f 12 := by
  unfold swN
  rw [if_neg (by omega), if_neg (by omega)]
theorem mvU_12 (f : Nat → Int32) (p : Nat) : ∀ d, mvU f p d 12 = f 12
  | 0 => rfl
  | d + 1 => (swN_12 _ _ _ _).trans (mvU_12 f p d)
theorem mvD_12 (f : Nat → Int32) (p : Nat) : ∀ d, mvD f p d 12 = f 12
  | 0 => rfl
  | d + 1 => (swN_12 _ _ _ _).trans (mvD_12 f p d)
theorem cAw_ok {f : Nat → Int32} {n : Nat} (hf : f 12 = nI n) (hn : n ≤ 20) (x ft re gr bl : Int32) : ∃ k, k ≤ 20 ∧ cAw f n x ft re gr bl 12 = nI k := by
  unfold cAw
  repeat' split
  all_goals first | exact ⟨n, hn, hf⟩ | exact ⟨n + 1, by omega, (pk_un (by omega)).trans ((pk_un (by omega)).trans ((pk_un (by omega)).trans ((pk_un (by omega)).trans ((pk_un (by omega)).trans ((pk_un (by omega)).trans ((pk_un (by omega)).trans ((pk_un (by omega)).trans ((pk_un (by omega)).trans ((pk_un (by omega)).trans ((pk_un (by omega)).trans pk_us))))))))))⟩
theorem cLw_12 (f : Nat → Int32) (n : Nat) (x y z : Int32) : cLw f n x y z 12 = f 12 := by
  unfold cLw
  repeat' split
  all_goals first | rfl | exact pk_un (by omega)
theorem cWw_12 (f : Nat → Int32) (n : Nat) (x y z : Int32) : cWw f n x y z 12 = f 12 := by
  unfold cWw
  repeat' split
  all_goals first | rfl | exact pk_un (by omega)
theorem cMw_12 (f : Nat → Int32) (n : Nat) (x y : Int32) : cMw f n x y 12 = f 12 := by
  unfold cMw
  repeat' split
  all_goals first | rfl | exact (mvD_12 _ _ _).trans (mvU_12 _ _ _)
theorem cKw_12 (f : Nat → Int32) (n : Nat) : cKw f n 12 = f 12 := by
  unfold cKw
  repeat' split
  all_goals first | rfl | exact cRw_12 _ _
theorem cCw_12 (f : Nat → Int32) (n : Nat) (x : Int32) : cCw f n x 12 = f 12 := by
  unfold cCw
  repeat' split
  all_goals first | rfl | exact (pk_un (by omega)).trans ((pk_un (by omega)).trans ((cGw_12 _ _ _).trans ((cGw_12 _ _ _).trans (cGw_12 _ _ _))))
theorem cTw_12 (f : Nat → Int32) : cTw f 12 = f 12 := (pk_un (by omega)).trans ((pk_un (by omega)).trans (pk_un (by omega)))
def ok12 (g : Nat → Int32) : Prop := ∃ k, k ≤ 20 ∧ g 12 = nI k
theorem ok_ite {c : Prop} [Decidable c] {a b : Nat → Int32} (ha : ok12 a) (hb : ok12 b) : ok12 (if c then a else b) := by
  split
  · exact ha
  · exact hb
theorem doW_ok {f : Nat → Int32} {n : Nat} (hf : f 12 = nI n) (hn : n ≤ 20) (le co mi : Int32) (u : Nat → Int32) : ok12 (doW f n le co mi u) := by
  unfold doW
  repeat' (with_reducible apply ok_ite)
  all_goals unfold ok12
  all_goals first | with_reducible exact ⟨n, hn, hf⟩ | with_reducible exact cAw_ok hf hn _ _ _ _ _ | with_reducible exact ⟨n, hn, (cLw_12 _ _ _ _ _).trans hf⟩ | with_reducible exact ⟨n, hn, (cWw_12 _ _ _ _ _).trans hf⟩ | with_reducible exact ⟨n, hn, (cMw_12 _ _ _ _).trans hf⟩ | with_reducible exact ⟨n, hn, (cKw_12 _ _).trans hf⟩ | with_reducible exact ⟨n, hn, (cCw_12 _ _ _).trans hf⟩ | with_reducible exact ⟨n, hn, (cZw_12 _ _).trans hf⟩ | with_reducible exact ⟨n, hn, (cTw_12 _).trans hf⟩
def bz (x : Int32) : Prop := narrow .boolean (.int x) = .int x
theorem rpM_z {t : Nat → Int32} {L : Nat} {a b co mi : Int32} {u : Nat → Int32} {x : Int32} (h : bz mi) : bz (rpM t L a b co mi u x) := by
  unfold rpM
  repeat' split
  all_goals first | exact h | (unfold bz; decide)
theorem noS_z {t : Nat → Int32} {L i : Nat} {σ : PS} (h : bz σ.2.2.2.1) : ∀ k, bz (noS t L i σ k).2.2.2.1
  | 0 => h
  | k + 1 => by rw [noS4]; exact rpM_z (noS_z h k)
theorem nx2_z {t : Nat → Int32} {L i : Nat} {le : Int32} {σ : PS} (h : bz σ.2.2.2.1) : bz (nx2 t L i le σ).2.2.2.2.2.1 := by
  unfold nx2
  split
  · exact noS_z h _
  · exact noS_z h _
theorem nx1_z {t : Nat → Int32} {L : Nat} {a co mi : Int32} {u : Nat → Int32} (h : bz mi) : bz (nx1 t L a co mi u).2.2.2.2.2.1 := by
  unfold nx1
  exact nx2_z (σ := (a, nI 0, co, mi, u)) h
theorem nx_z2 {t : Nat → Int32} {L : Nat} {a b le co mi : Int32} {u : Nat → Int32} (h : bz mi) : bz (nx t L a b le co mi u).2.2.2.2.2.1 := by
  unfold nx
  split
  · exact nx1_z h
  · split
    · exact h
    · exact nx1_z h
theorem foS_z {t : Nat → Int32} {L : Nat} {σ : SX} (h : bz σ.2.2.2.2.1) : ∀ k, bz (foS t L σ k).2.2.2.2.1
  | 0 => by rw [foS]; exact h
  | k + 1 => by rw [foS_s]; exact nx_z2 (foS_z h k)
theorem foX_z {t : Nat → Int32} {L : Nat} {σ : SX} (h : bz σ.2.2.2.2.1) (k : Nat) : bz (foX t L σ k).2.2.2.2.2.1 := nx_z2 (foS_z h k)
theorem ftS_z {t : Nat → Int32} {L : Nat} {σ : SX} (h : bz σ.2.2.2.2.1) : bz (ftS t L σ).2.2.2.2.1 := by
  unfold ftS
  split
  · exact foX_z h _
  · exact foS_z h _
/-- the pad as the orders are read from its begin on -/
def crS (t : Nat → Int32) (L : Nat) (σ : SX) : SX := (nI 0, (ftS t L σ).2)
/-- the reel behind k orders; order k: its answer -/
def coG (t : Nat → Int32) (L : Nat) (σ : SX) (f : Nat → Int32) : Nat → Nat → Int32
  | 0 => f
  | k + 1 => doW (coG t L σ f k) (ix (coG t L σ f k 12)) (foX t L σ k).2.2.2.1 (foX t L σ k).2.2.2.2.1 (foX t L σ k).2.2.2.2.2.1 (foX t L σ k).2.2.2.2.2.2
termination_by k => k
theorem coG_s (t : Nat → Int32) (L : Nat) (σ : SX) (f : Nat → Int32) (k : Nat) : coG t L σ f (k + 1) = doW (coG t L σ f k) (ix (coG t L σ f k 12)) (foX t L σ k).2.2.2.1 (foX t L σ k).2.2.2.2.1 (foX t L σ k).2.2.2.2.2.1 (foX t L σ k).2.2.2.2.2.2 := by rw [coG]
def coA (t : Nat → Int32) (L : Nat) (σ : SX) (f : Nat → Int32) (k : Nat) : Int32 := doV (coG t L σ f k) (ix (coG t L σ f k 12)) (foX t L σ k).2.2.2.1 (foX t L σ k).2.2.2.2.1 (foX t L σ k).2.2.2.2.2.1 (foX t L σ k).2.2.2.2.2.2
def g12 (g : Nat → Int32) : Prop := g 12 = nI (ix (g 12)) ∧ ix (g 12) ≤ 20
theorem g12_of {g : Nat → Int32} {n : Nat} (h : g 12 = nI n) (hn : n ≤ 20) : g12 g := by
  have e : ix (g 12) = n := by rw [h]; exact ix_nI (by omega)
  exact ⟨by rw [e]; exact h, by omega⟩
theorem coG_ok {t : Nat → Int32} {L : Nat} {σ : SX} {f : Nat → Int32} (h : g12 f) : ∀ k, g12 (coG t L σ f k)
  | 0 => by rw [coG]; exact h
  | k + 1 => by
    obtain ⟨n, hn, e⟩ := doW_ok (coG_ok (t := t) (L := L) (σ := σ) h k).1 (coG_ok (t := t) (L := L) (σ := σ) h k).2 (foX t L σ k).2.2.2.1 (foX t L σ k).2.2.2.2.1 (foX t L σ k).2.2.2.2.2.1 (foX t L σ k).2.2.2.2.2.2
    rw [coG_s]; exact g12_of e hn
/-- 0 where the orders end -/
def coK (t : Nat → Int32) (L : Nat) (σ : SX) (f : Nat → Int32) (k : Nat) : Int32 := if (foX t L σ k).1 = 0 then 0 else if coA t L σ f k < 0 then 0 else 1
theorem coK_0 {t : Nat → Int32} {L : Nat} {σ : SX} {f : Nat → Int32} {k : Nat} (h : (foX t L σ k).1 = 0) : coK t L σ f k = 0 := if_pos h
theorem coK_1 {t : Nat → Int32} {L : Nat} {σ : SX} {f : Nat → Int32} {k : Nat} (h : ¬ (foX t L σ k).1 = 0) (h2 : coA t L σ f k < 0) : coK t L σ f k = 0 := (if_neg h).trans (if_pos h2)
theorem coK_n {t : Nat → Int32} {L : Nat} {σ : SX} {f : Nat → Int32} {k : Nat} (h : ¬ (foX t L σ k).1 = 0) (h2 : ¬ coA t L σ f k < 0) : ¬ coK t L σ f k = 0 := by
  rw [coK, if_neg h, if_neg h2]; decide
def coN (t : Nat → Int32) (L : Nat) (σ : SX) (f : Nat → Int32) : Nat := ffz (coK t L σ f) 80
def coW (t : Nat → Int32) (L : Nat) (σ : SX) (f : Nat → Int32) : Nat → Int32 := if coN t L σ f < 80 then (if (foX t L σ (coN t L σ f)).1 = 0 then coG t L σ f (coN t L σ f) else coG t L σ f (coN t L σ f + 1)) else coG t L σ f 80
def coP (t : Nat → Int32) (L : Nat) (σ : SX) (f : Nat → Int32) : SX := if coN t L σ f < 80 then (foX t L σ (coN t L σ f)).2 else foS t L σ 80
/-- carryOut(): nothing where the text has a fault -/
def crV (t : Nat → Int32) (L : Nat) (σ : SX) (f : Nat → Int32) : Int32 := if ftV t L σ = -6 then nI (coN t L (crS t L σ) f) else -3
def crF (t : Nat → Int32) (L : Nat) (σ : SX) (f : Nat → Int32) : Nat → Int32 := if ftV t L σ = -6 then coW t L (crS t L σ) f else f
def crP (t : Nat → Int32) (L : Nat) (σ : SX) (f : Nat → Int32) : SX := if ftV t L σ = -6 then coP t L (crS t L σ) f else ftS t L σ
def crL (t : Nat → Int32) (L : Nat) (σ : SX) : Nat := if ftV t L σ = -6 then 0 else L
def crB (t : Nat → Int32) (L : Nat) (σ : SX) (f fb : Nat → Int32) : Nat → Int32 := if ftV t L σ = -6 then cp293 f fb else fb
