/-! the face of the class -/
set_option maxHeartbeats 4000000 in
set_option maxRecDepth 100000 in
theorem c_X3_shots_i (l : Launch) (E : EV) (r : Nat) (rc : Nat) (f : Nat → Int32)  : rcI l E yX3_shots cX3_shots 1 .int 1 [.ref r] [(r, .inr (2, [.ref rc])), (rc, .inl (E.2.1, 293, .inl f))] (f 12) [(r, .inr (2, [.ref rc])), (rc, .inl (E.2.1, 293, .inl f))] := by
  refine rcI_of (by decide) (Nat.le_of_ble_eq_true rfl) ?_
  intro pg e s m below meth c Q A ls S hP hD0 hE hA hl hret
  have hx := S.1
  have hb := S.2.1
  have hown := S.2.2.2.1
  have hts := S.2.2.2.2
  have hK := hE.1
  have hS : va_S A s.heap s.heap [] := va_S.rf
  have hDa : va_Da A [r, rc] := ⟨_, hD0, rfl⟩
  have hl : lv_has ls 1 [(0, .ref r)] := hl
  refine lv_aload_n hx hb dX3_shots_0 rfl (lv_at hl 0 rfl) ?_
  refine lv_bipush (v := nI 12) hx hb dX3_shots_1 (by decide) ?_
  refine rwV1 (rest := []) S (c_X3_read l E r rc f 12 (by omega)) cd_X3_read bw_162 ⟨Nat.le_of_ble_eq_true rfl, Nat.le_of_ble_eq_true rfl⟩ ⟨Nat.zero_le _, Nat.zero_le _⟩ hP (hDa.to rfl) hE hA hS [0, 1] rfl rfl [r, rc] rfl rfl (ci := 2) rfl (q0 := 0) rfl (Nat.le_of_ble_eq_true rfl) hl.1 dX3_shots_3 (fun H locs hP _ hS => ?_)
  have hP : va_P E.1 vwCl [(r, .inr (2, [.ref rc])), (rc, .inl (E.2.1, 293, .inl f))] H := hP
  exact hret _ _ _ _ _ _ rfl rfl rfl hP hS dX3_shots_6

def recO (v : Int32) (o z : Nat) : Nat := if v < 0 then o else hiO o z
def recZ (v : Int32) (z : Nat) : Nat := if v < 0 then z else hiZ z
def recH (v : Int32) (fb h : Nat → Int32) (o z : Nat) : Nat → Int32 := if v < 0 then h else va_cpy fb h 0 ((o + z) % 6 * 293) 293
theorem cd_X7_recorded : cdV RX7 yX7_recorded cX7_recorded 2 (some .int) 1 := ⟨⟨bw_201, bw_2, by decide, by decide, by decide +kernel⟩, bw_200, bw_0⟩
set_option maxHeartbeats 4000000 in
set_option maxRecDepth 100000 in
theorem c_X7_recorded (l : Launch) (E : EV) (xo : Nat) (r : Nat) (r2 : Nat) (r3 : Nat) (d : Nat) (y : Nat) (q2 : Nat) (sf : Int32) (rc2 : Nat) (fb : Nat → Int32) (q : Nat) (w : Nat) (o : Nat) (z : Nat) (h : Nat → Int32) (v : Int32) (ho : o < 6) (hz : z ≤ 6) : rcI l E yX7_recorded cX7_recorded 2 .int 4 [.ref xo, .int v] [(xo, .inr (4, [.ref r, .ref r2, .ref r3, .ref d, .ref y, .ref q2, .int sf])), (r2, .inr (2, [.ref rc2])), (rc2, .inl (E.2.1, 293, .inl fb)), (y, .inr (0, [.ref q, .int (nI o), .int (nI z)])), (q, .inr (3, [.ref w])), (w, .inl (E.2.1, 1758, .inl h))] v [(xo, .inr (4, [.ref r, .ref r2, .ref r3, .ref d, .ref y, .ref q2, .int sf])), (r2, .inr (2, [.ref rc2])), (rc2, .inl (E.2.1, 293, .inl fb)), (y, .inr (0, [.ref q, .int (nI (recO v o z)), .int (nI (recZ v z))])), (q, .inr (3, [.ref w])), (w, .inl (E.2.1, 1758, .inl (recH v fb h o z)))] := by
  refine rcI_of (by decide) (Nat.le_of_ble_eq_true rfl) ?_
  intro pg e s m below meth c Q A ls S hP hD0 hE hA hl hret
  have hx := S.1
  have hb := S.2.1
  have hown := S.2.2.2.1
  have hts := S.2.2.2.2
  have hK := hE.1
  have hS : va_S A s.heap s.heap [] := va_S.rf
  have hDa : va_Da A [xo, r2, rc2, y, q, w] := ⟨_, hD0, rfl⟩
  have hl : lv_has ls 2 [(0, .ref xo), (1, .int v)] := hl
  refine lv_iload_n hx hb dX7_recorded_0 rfl (lv_at hl 1 rfl) ?_
  refine lv_if_lt (tgt := 15) hx hb dX7_recorded_1 (by decide) (fun c_1 => ?_) (fun c_1 => ?_)
  · refine lv_iload_n hx hb dX7_recorded_15 rfl (lv_at hl 1 rfl) ?_
    exact hret _ _ _ _ _ _ rfl (by first | rw [recO, recZ, recH, if_pos c_1, if_pos c_1, if_pos c_1] | rw [recO, recZ, recH, if_neg c_1, if_neg c_1, if_neg c_1]) rfl hP hS dX7_recorded_16
  · refine lv_aload_n hx hb dX7_recorded_4 rfl (lv_at hl 0 rfl) ?_
    refine va_get (D := E.1) (ci := 4) (v := .ref y) (C := RX7) (T := TX7) (N := 7) hx hb hts inb_X7 hown hK hP 0 rfl rfl 4 (by decide) (hts _ bw_98) (fun _ h9 => h9) rfl dX7_recorded_5 ?_
    refine lv_aload_n hx hb dX7_recorded_8 rfl (lv_at hl 0 rfl) ?_
    refine va_get (D := E.1) (ci := 4) (v := .ref r2) (C := RX7) (T := TX7) (N := 7) hx hb hts inb_X7 hown hK hP 0 rfl rfl 1 (by decide) (hts _ bw_95) (fun _ h9 => h9) rfl dX7_recorded_9 ?_
    refine rwVv1 (rest := []) S (c_X1_record l E y q w r2 rc2 o z fb h ho hz) cd_X1_record bw_202 ⟨Nat.le_of_ble_eq_true rfl, Nat.le_of_ble_eq_true rfl⟩ ⟨Nat.zero_le _, Nat.zero_le _⟩ hP (hDa.to rfl) hE hA hS [3, 4, 5, 1, 2] rfl rfl [y, q, w, r2, rc2] rfl rfl (ci := 0) rfl (q0 := 0) rfl (Nat.le_of_ble_eq_true rfl) hl.1 dX7_recorded_12 (fun H locs hP _ hS => ?_)
    have hP : va_P E.1 vwCl [(xo, .inr (4, [.ref r, .ref r2, .ref r3, .ref d, .ref y, .ref q2, .int sf])), (r2, .inr (2, [.ref rc2])), (rc2, .inl (E.2.1, 293, .inl fb)), (y, .inr (0, [.ref q, .int (nI (hiO o z)), .int (nI (hiZ z))])), (q, .inr (3, [.ref w])), (w, .inl (E.2.1, 1758, .inl (va_cpy fb h 0 ((o + z) % 6 * 293) 293)))] H := hP
    refine lv_iload_n hx hb dX7_recorded_15 rfl (lv_at hl 1 rfl) ?_
    exact hret _ _ _ _ _ _ rfl (by first | rw [recO, recZ, recH, if_pos c_1, if_pos c_1, if_pos c_1] | rw [recO, recZ, recH, if_neg c_1, if_neg c_1, if_neg c_1]) rfl hP hS dX7_recorded_16

theorem cd_X7_set : cdV RX7 yX7_set cX7_set 3 (some .int) 2 := ⟨⟨bw_369, bw_2, by decide, by decide, by decide +kernel⟩, bw_367, bw_368⟩
set_option maxHeartbeats 4000000 in
set_option maxRecDepth 100000 in
theorem c_X7_set (l : Launch) (E : EV) (xo : Nat) (r : Nat) (r2 : Nat) (r3 : Nat) (d : Nat) (y : Nat) (q2 : Nat) (sf : Int32) (rc : Nat) (f : Nat → Int32) (rc2 : Nat) (fb : Nat → Int32) (q : Nat) (w : Nat) (o : Nat) (z : Nat) (h : Nat → Int32) (a1 : Int32) (a2 : Int32) (ho : o < 6) (hz : z ≤ 6) : rcI l E yX7_set cX7_set 3 .int 7 [.ref xo, .int a1, .int a2] [(xo, .inr (4, [.ref r, .ref r2, .ref r3, .ref d, .ref y, .ref q2, .int sf])), (r, .inr (2, [.ref rc])), (rc, .inl (E.2.1, 293, .inl f)), (r2, .inr (2, [.ref rc2])), (rc2, .inl (E.2.1, 293, .inl fb)), (y, .inr (0, [.ref q, .int (nI o), .int (nI z)])), (q, .inr (3, [.ref w])), (w, .inl (E.2.1, 1758, .inl h))] (cSv f a1 a2) [(xo, .inr (4, [.ref r, .ref r2, .ref r3, .ref d, .ref y, .ref q2, .int sf])), (r, .inr (2, [.ref rc])), (rc, .inl (E.2.1, 293, .inl (cSw f a1 a2))), (r2, .inr (2, [.ref rc2])), (rc2, .inl (E.2.1, 293, .inl (cp293 f fb))), (y, .inr (0, [.ref q, .int (nI (recO (cSv f a1 a2) o z)), .int (nI (recZ (cSv f a1 a2) z))])), (q, .inr (3, [.ref w])), (w, .inl (E.2.1, 1758, .inl (recH (cSv f a1 a2) (cp293 f fb) h o z)))] := by
  refine rcI_of (by decide) (Nat.le_of_ble_eq_true rfl) ?_
  intro pg e s m below meth c Q A ls S hP hD0 hE hA hl hret
  have hx := S.1
  have hb := S.2.1
  have hown := S.2.2.2.1
  have hts := S.2.2.2.2
  have hK := hE.1
  have hS : va_S A s.heap s.heap [] := va_S.rf
  have hDa : va_Da A [xo, r, rc, r2, rc2, y, q, w] := ⟨_, hD0, rfl⟩
  have hl : lv_has ls 3 [(0, .ref xo), (1, .int a1), (2, .int a2)] := hl
  refine lv_aload_n hx hb dX7_set_0 rfl (lv_at hl 0 rfl) ?_
  refine va_get (D := E.1) (ci := 4) (v := .ref r2) (C := RX7) (T := TX7) (N := 7) hx hb hts inb_X7 hown hK hP 0 rfl rfl 1 (by decide) (hts _ bw_95) (fun _ h9 => h9) rfl dX7_set_1 ?_
  refine lv_aload_n hx hb dX7_set_4 rfl (lv_at hl 0 rfl) ?_
  refine va_get (D := E.1) (ci := 4) (v := .ref r) (C := RX7) (T := TX7) (N := 7) hx hb hts inb_X7 hown hK hP 0 rfl rfl 0 (by decide) (hts _ bw_94) (fun _ h9 => h9) rfl dX7_set_5 ?_
  refine rwVv1 (rest := []) S (c_X3_become l E r2 rc2 r rc fb f) cd_X3_become bw_151 ⟨Nat.le_of_ble_eq_true rfl, Nat.le_of_ble_eq_true rfl⟩ ⟨Nat.zero_le _, Nat.zero_le _⟩ hP (hDa.to rfl) hE hA hS [3, 4, 1, 2] rfl rfl [r2, rc2, r, rc] rfl rfl (ci := 2) rfl (q0 := 0) rfl (Nat.le_of_ble_eq_true rfl) hl.1 dX7_set_8 (fun H locs hP _ hS => ?_)
  have hP : va_P E.1 vwCl [(xo, .inr (4, [.ref r, .ref r2, .ref r3, .ref d, .ref y, .ref q2, .int sf])), (r, .inr (2, [.ref rc])), (rc, .inl (E.2.1, 293, .inl f)), (r2, .inr (2, [.ref rc2])), (rc2, .inl (E.2.1, 293, .inl (cp293 f fb))), (y, .inr (0, [.ref q, .int (nI o), .int (nI z)])), (q, .inr (3, [.ref w])), (w, .inl (E.2.1, 1758, .inl h))] H := hP
  refine lv_aload_n hx hb dX7_set_11 rfl (lv_at hl 0 rfl) ?_
  refine lv_aload_n hx hb dX7_set_12 rfl (lv_at hl 0 rfl) ?_
  refine va_get (D := E.1) (ci := 4) (v := .ref r) (C := RX7) (T := TX7) (N := 7) hx hb hts inb_X7 hown hK hP 0 rfl rfl 0 (by decide) (hts _ bw_94) (fun _ h9 => h9) rfl dX7_set_13 ?_
  refine lv_iload_n hx hb dX7_set_16 rfl (lv_at hl 1 rfl) ?_
  refine lv_iload_n hx hb dX7_set_17 rfl (lv_at hl 2 rfl) ?_
  refine rwS3 (rest := [.ref xo]) S (c_X0_changeSetting l E r rc f a1 a2) cd_X0_changeSetting bw_370 ⟨Nat.le_of_ble_eq_true rfl, Nat.le_of_ble_eq_true rfl⟩ ⟨Nat.zero_le _, Nat.zero_le _⟩ hP (hDa.to rfl) hE hA hS [1, 2] rfl rfl [r, rc] rfl rfl (Nat.le_of_ble_eq_true rfl) hl.1 dX7_set_18 (fun H locs hP _ hS => ?_)
  have hP : va_P E.1 vwCl [(xo, .inr (4, [.ref r, .ref r2, .ref r3, .ref d, .ref y, .ref q2, .int sf])), (r, .inr (2, [.ref rc])), (rc, .inl (E.2.1, 293, .inl (cSw f a1 a2))), (r2, .inr (2, [.ref rc2])), (rc2, .inl (E.2.1, 293, .inl (cp293 f fb))), (y, .inr (0, [.ref q, .int (nI o), .int (nI z)])), (q, .inr (3, [.ref w])), (w, .inl (E.2.1, 1758, .inl h))] H := hP
  refine rwV1 (rest := []) S (c_X7_recorded l E xo r r2 r3 d y q2 sf rc2 (cp293 f fb) q w o z h (cSv f a1 a2) ho hz) cd_X7_recorded bw_198 ⟨Nat.le_of_ble_eq_true rfl, Nat.le_of_ble_eq_true rfl⟩ ⟨Nat.zero_le _, Nat.zero_le _⟩ hP (hDa.to rfl) hE hA hS [0, 3, 4, 5, 6, 7] rfl rfl [xo, r2, rc2, y, q, w] rfl rfl (ci := 4) rfl (q0 := 0) rfl (Nat.le_of_ble_eq_true rfl) hl.1 dX7_set_21 (fun H locs hP _ hS => ?_)
  have hP : va_P E.1 vwCl [(xo, .inr (4, [.ref r, .ref r2, .ref r3, .ref d, .ref y, .ref q2, .int sf])), (r, .inr (2, [.ref rc])), (rc, .inl (E.2.1, 293, .inl (cSw f a1 a2))), (r2, .inr (2, [.ref rc2])), (rc2, .inl (E.2.1, 293, .inl (cp293 f fb))), (y, .inr (0, [.ref q, .int (nI (recO (cSv f a1 a2) o z)), .int (nI (recZ (cSv f a1 a2) z))])), (q, .inr (3, [.ref w])), (w, .inl (E.2.1, 1758, .inl (recH (cSv f a1 a2) (cp293 f fb) h o z)))] H := hP
  exact hret _ _ _ _ _ _ rfl rfl rfl hP hS dX7_set_24

theorem cd_X7_shot : cdV RX7 yX7_shot cX7_shot 6 (some .int) 5 := ⟨⟨bw_150, bw_2, by decide, by decide, by decide +kernel⟩, bw_148, bw_149⟩
set_option maxHeartbeats 4000000 in
set_option maxRecDepth 100000 in
theorem c_X7_shot (l : Launch) (E : EV) (xo : Nat) (r : Nat) (r2 : Nat) (r3 : Nat) (d : Nat) (y : Nat) (q2 : Nat) (sf : Int32) (rc : Nat) (f : Nat → Int32) (rc2 : Nat) (fb : Nat → Int32) (q : Nat) (w : Nat) (o : Nat) (z : Nat) (h : Nat → Int32) (n : Nat) (a1 : Int32) (a2 : Int32) (a3 : Int32) (a4 : Int32) (a5 : Int32) (hf : f 12 = nI n) (hn : n ≤ 20) (ho : o < 6) (hz : z ≤ 6) : rcI l E yX7_shot cX7_shot 6 .int 7 [.ref xo, .int a1, .int a2, .int a3, .int a4, .int a5] [(xo, .inr (4, [.ref r, .ref r2, .ref r3, .ref d, .ref y, .ref q2, .int sf])), (r, .inr (2, [.ref rc])), (rc, .inl (E.2.1, 293, .inl f)), (r2, .inr (2, [.ref rc2])), (rc2, .inl (E.2.1, 293, .inl fb)), (y, .inr (0, [.ref q, .int (nI o), .int (nI z)])), (q, .inr (3, [.ref w])), (w, .inl (E.2.1, 1758, .inl h))] (cAv f n a1 a2 a3 a4 a5) [(xo, .inr (4, [.ref r, .ref r2, .ref r3, .ref d, .ref y, .ref q2, .int sf])), (r, .inr (2, [.ref rc])), (rc, .inl (E.2.1, 293, .inl (cAw f n a1 a2 a3 a4 a5))), (r2, .inr (2, [.ref rc2])), (rc2, .inl (E.2.1, 293, .inl (cp293 f fb))), (y, .inr (0, [.ref q, .int (nI (recO (cAv f n a1 a2 a3 a4 a5) o z)), .int (nI (recZ (cAv f n a1 a2 a3 a4 a5) z))])), (q, .inr (3, [.ref w])), (w, .inl (E.2.1, 1758, .inl (recH (cAv f n a1 a2 a3 a4 a5) (cp293 f fb) h o z)))] := by
  refine rcI_of (by decide) (Nat.le_of_ble_eq_true rfl) ?_
  intro pg e s m below meth c Q A ls S hP hD0 hE hA hl hret
  have hx := S.1
  have hb := S.2.1
  have hown := S.2.2.2.1
  have hts := S.2.2.2.2
  have hK := hE.1
  have hS : va_S A s.heap s.heap [] := va_S.rf
  have hDa : va_Da A [xo, r, rc, r2, rc2, y, q, w] := ⟨_, hD0, rfl⟩
  have hl : lv_has ls 6 [(0, .ref xo), (1, .int a1), (2, .int a2), (3, .int a3), (4, .int a4), (5, .int a5)] := hl
  refine lv_aload_n hx hb dX7_shot_0 rfl (lv_at hl 0 rfl) ?_
  refine va_get (D := E.1) (ci := 4) (v := .ref r2) (C := RX7) (T := TX7) (N := 7) hx hb hts inb_X7 hown hK hP 0 rfl rfl 1 (by decide) (hts _ bw_95) (fun _ h9 => h9) rfl dX7_shot_1 ?_
  refine lv_aload_n hx hb dX7_shot_4 rfl (lv_at hl 0 rfl) ?_
  refine va_get (D := E.1) (ci := 4) (v := .ref r) (C := RX7) (T := TX7) (N := 7) hx hb hts inb_X7 hown hK hP 0 rfl rfl 0 (by decide) (hts _ bw_94) (fun _ h9 => h9) rfl dX7_shot_5 ?_
  refine rwVv1 (rest := []) S (c_X3_become l E r2 rc2 r rc fb f) cd_X3_become bw_151 ⟨Nat.le_of_ble_eq_true rfl, Nat.le_of_ble_eq_true rfl⟩ ⟨Nat.zero_le _, Nat.zero_le _⟩ hP (hDa.to rfl) hE hA hS [3, 4, 1, 2] rfl rfl [r2, rc2, r, rc] rfl rfl (ci := 2) rfl (q0 := 0) rfl (Nat.le_of_ble_eq_true rfl) hl.1 dX7_shot_8 (fun H locs hP _ hS => ?_)
  have hP : va_P E.1 vwCl [(xo, .inr (4, [.ref r, .ref r2, .ref r3, .ref d, .ref y, .ref q2, .int sf])), (r, .inr (2, [.ref rc])), (rc, .inl (E.2.1, 293, .inl f)), (r2, .inr (2, [.ref rc2])), (rc2, .inl (E.2.1, 293, .inl (cp293 f fb))), (y, .inr (0, [.ref q, .int (nI o), .int (nI z)])), (q, .inr (3, [.ref w])), (w, .inl (E.2.1, 1758, .inl h))] H := hP
  refine lv_aload_n hx hb dX7_shot_11 rfl (lv_at hl 0 rfl) ?_
  refine lv_aload_n hx hb dX7_shot_12 rfl (lv_at hl 0 rfl) ?_
  refine va_get (D := E.1) (ci := 4) (v := .ref r) (C := RX7) (T := TX7) (N := 7) hx hb hts inb_X7 hown hK hP 0 rfl rfl 0 (by decide) (hts _ bw_94) (fun _ h9 => h9) rfl dX7_shot_13 ?_
  refine lv_iload_n hx hb dX7_shot_16 rfl (lv_at hl 1 rfl) ?_
  refine lv_iload_n hx hb dX7_shot_17 rfl (lv_at hl 2 rfl) ?_
  refine lv_iload_n hx hb dX7_shot_18 rfl (lv_at hl 3 rfl) ?_
  refine lv_iload hx hb dX7_shot_19 (lv_at hl 4 rfl) ?_
  refine lv_iload hx hb dX7_shot_21 (lv_at hl 5 rfl) ?_
  refine rwS6 (rest := [.ref xo]) S (c_X0_addShot l E r rc f n a1 a2 a3 a4 a5 hf hn) cd_X0_addShot bw_155 ⟨Nat.le_of_ble_eq_true rfl, Nat.le_of_ble_eq_true rfl⟩ ⟨Nat.zero_le _, Nat.zero_le _⟩ hP (hDa.to rfl) hE hA hS [1, 2] rfl rfl [r, rc] rfl rfl (Nat.le_of_ble_eq_true rfl) hl.1 dX7_shot_23 (fun H locs hP _ hS => ?_)
  have hP : va_P E.1 vwCl [(xo, .inr (4, [.ref r, .ref r2, .ref r3, .ref d, .ref y, .ref q2, .int sf])), (r, .inr (2, [.ref rc])), (rc, .inl (E.2.1, 293, .inl (cAw f n a1 a2 a3 a4 a5))), (r2, .inr (2, [.ref rc2])), (rc2, .inl (E.2.1, 293, .inl (cp293 f fb))), (y, .inr (0, [.ref q, .int (nI o), .int (nI z)])), (q, .inr (3, [.ref w])), (w, .inl (E.2.1, 1758, .inl h))] H := hP
  refine rwV1 (rest := []) S (c_X7_recorded l E xo r r2 r3 d y q2 sf rc2 (cp293 f fb) q w o z h (cAv f n a1 a2 a3 a4 a5) ho hz) cd_X7_recorded bw_198 ⟨Nat.le_of_ble_eq_true rfl, Nat.le_of_ble_eq_true rfl⟩ ⟨Nat.zero_le _, Nat.zero_le _⟩ hP (hDa.to rfl) hE hA hS [0, 3, 4, 5, 6, 7] rfl rfl [xo, r2, rc2, y, q, w] rfl rfl (ci := 4) rfl (q0 := 0) rfl (Nat.le_of_ble_eq_true rfl) hl.1 dX7_shot_26 (fun H locs hP _ hS => ?_)
  have hP : va_P E.1 vwCl [(xo, .inr (4, [.ref r, .ref r2, .ref r3, .ref d, .ref y, .ref q2, .int sf])), (r, .inr (2, [.ref rc])), (rc, .inl (E.2.1, 293, .inl (cAw f n a1 a2 a3 a4 a5))), (r2, .inr (2, [.ref rc2])), (rc2, .inl (E.2.1, 293, .inl (cp293 f fb))), (y, .inr (0, [.ref q, .int (nI (recO (cAv f n a1 a2 a3 a4 a5) o z)), .int (nI (recZ (cAv f n a1 a2 a3 a4 a5) z))])), (q, .inr (3, [.ref w])), (w, .inl (E.2.1, 1758, .inl (recH (cAv f n a1 a2 a3 a4 a5) (cp293 f fb) h o z)))] H := hP
  exact hret _ _ _ _ _ _ rfl rfl rfl hP hS dX7_shot_29

theorem cd_X7_takeOut : cdV RX7 yX7_takeOut cX7_takeOut 2 (some .int) 1 := ⟨⟨bw_362, bw_2, by decide, by decide, by decide +kernel⟩, bw_360, bw_361⟩
set_option maxHeartbeats 4000000 in
set_option maxRecDepth 100000 in
theorem c_X7_takeOut (l : Launch) (E : EV) (xo : Nat) (r : Nat) (r2 : Nat) (r3 : Nat) (d : Nat) (y : Nat) (q2 : Nat) (sf : Int32) (rc : Nat) (f : Nat → Int32) (rc2 : Nat) (fb : Nat → Int32) (q : Nat) (w : Nat) (o : Nat) (z : Nat) (h : Nat → Int32) (n : Nat) (a1 : Int32) (hf : f 12 = nI n) (hn : n ≤ 20) (ho : o < 6) (hz : z ≤ 6) : rcI l E yX7_takeOut cX7_takeOut 2 .int 7 [.ref xo, .int a1] [(xo, .inr (4, [.ref r, .ref r2, .ref r3, .ref d, .ref y, .ref q2, .int sf])), (r, .inr (2, [.ref rc])), (rc, .inl (E.2.1, 293, .inl f)), (r2, .inr (2, [.ref rc2])), (rc2, .inl (E.2.1, 293, .inl fb)), (y, .inr (0, [.ref q, .int (nI o), .int (nI z)])), (q, .inr (3, [.ref w])), (w, .inl (E.2.1, 1758, .inl h))] (cDv f n a1) [(xo, .inr (4, [.ref r, .ref r2, .ref r3, .ref d, .ref y, .ref q2, .int sf])), (r, .inr (2, [.ref rc])), (rc, .inl (E.2.1, 293, .inl (cDw f n a1))), (r2, .inr (2, [.ref rc2])), (rc2, .inl (E.2.1, 293, .inl (cp293 f fb))), (y, .inr (0, [.ref q, .int (nI (recO (cDv f n a1) o z)), .int (nI (recZ (cDv f n a1) z))])), (q, .inr (3, [.ref w])), (w, .inl (E.2.1, 1758, .inl (recH (cDv f n a1) (cp293 f fb) h o z)))] := by
  refine rcI_of (by decide) (Nat.le_of_ble_eq_true rfl) ?_
  intro pg e s m below meth c Q A ls S hP hD0 hE hA hl hret
  have hx := S.1
  have hb := S.2.1
  have hown := S.2.2.2.1
  have hts := S.2.2.2.2
  have hK := hE.1
  have hS : va_S A s.heap s.heap [] := va_S.rf
  have hDa : va_Da A [xo, r, rc, r2, rc2, y, q, w] := ⟨_, hD0, rfl⟩
  have hl : lv_has ls 2 [(0, .ref xo), (1, .int a1)] := hl
  refine lv_aload_n hx hb dX7_takeOut_0 rfl (lv_at hl 0 rfl) ?_
  refine va_get (D := E.1) (ci := 4) (v := .ref r2) (C := RX7) (T := TX7) (N := 7) hx hb hts inb_X7 hown hK hP 0 rfl rfl 1 (by decide) (hts _ bw_95) (fun _ h9 => h9) rfl dX7_takeOut_1 ?_
  refine lv_aload_n hx hb dX7_takeOut_4 rfl (lv_at hl 0 rfl) ?_
  refine va_get (D := E.1) (ci := 4) (v := .ref r) (C := RX7) (T := TX7) (N := 7) hx hb hts inb_X7 hown hK hP 0 rfl rfl 0 (by decide) (hts _ bw_94) (fun _ h9 => h9) rfl dX7_takeOut_5 ?_
  refine rwVv1 (rest := []) S (c_X3_become l E r2 rc2 r rc fb f) cd_X3_become bw_151 ⟨Nat.le_of_ble_eq_true rfl, Nat.le_of_ble_eq_true rfl⟩ ⟨Nat.zero_le _, Nat.zero_le _⟩ hP (hDa.to rfl) hE hA hS [3, 4, 1, 2] rfl rfl [r2, rc2, r, rc] rfl rfl (ci := 2) rfl (q0 := 0) rfl (Nat.le_of_ble_eq_true rfl) hl.1 dX7_takeOut_8 (fun H locs hP _ hS => ?_)
  have hP : va_P E.1 vwCl [(xo, .inr (4, [.ref r, .ref r2, .ref r3, .ref d, .ref y, .ref q2, .int sf])), (r, .inr (2, [.ref rc])), (rc, .inl (E.2.1, 293, .inl f)), (r2, .inr (2, [.ref rc2])), (rc2, .inl (E.2.1, 293, .inl (cp293 f fb))), (y, .inr (0, [.ref q, .int (nI o), .int (nI z)])), (q, .inr (3, [.ref w])), (w, .inl (E.2.1, 1758, .inl h))] H := hP
  refine lv_aload_n hx hb dX7_takeOut_11 rfl (lv_at hl 0 rfl) ?_
  refine lv_aload_n hx hb dX7_takeOut_12 rfl (lv_at hl 0 rfl) ?_
  refine va_get (D := E.1) (ci := 4) (v := .ref r) (C := RX7) (T := TX7) (N := 7) hx hb hts inb_X7 hown hK hP 0 rfl rfl 0 (by decide) (hts _ bw_94) (fun _ h9 => h9) rfl dX7_takeOut_13 ?_
  refine lv_iload_n hx hb dX7_takeOut_16 rfl (lv_at hl 1 rfl) ?_
  refine rwS2 (rest := [.ref xo]) S (c_X0_dropShot l E r rc f n a1 hf hn) cd_X0_dropShot bw_363 ⟨Nat.le_of_ble_eq_true rfl, Nat.le_of_ble_eq_true rfl⟩ ⟨Nat.zero_le _, Nat.zero_le _⟩ hP (hDa.to rfl) hE hA hS [1, 2] rfl rfl [r, rc] rfl rfl (Nat.le_of_ble_eq_true rfl) hl.1 dX7_takeOut_17 (fun H locs hP _ hS => ?_)
  have hP : va_P E.1 vwCl [(xo, .inr (4, [.ref r, .ref r2, .ref r3, .ref d, .ref y, .ref q2, .int sf])), (r, .inr (2, [.ref rc])), (rc, .inl (E.2.1, 293, .inl (cDw f n a1))), (r2, .inr (2, [.ref rc2])), (rc2, .inl (E.2.1, 293, .inl (cp293 f fb))), (y, .inr (0, [.ref q, .int (nI o), .int (nI z)])), (q, .inr (3, [.ref w])), (w, .inl (E.2.1, 1758, .inl h))] H := hP
  refine rwV1 (rest := []) S (c_X7_recorded l E xo r r2 r3 d y q2 sf rc2 (cp293 f fb) q w o z h (cDv f n a1) ho hz) cd_X7_recorded bw_198 ⟨Nat.le_of_ble_eq_true rfl, Nat.le_of_ble_eq_true rfl⟩ ⟨Nat.zero_le _, Nat.zero_le _⟩ hP (hDa.to rfl) hE hA hS [0, 3, 4, 5, 6, 7] rfl rfl [xo, r2, rc2, y, q, w] rfl rfl (ci := 4) rfl (q0 := 0) rfl (Nat.le_of_ble_eq_true rfl) hl.1 dX7_takeOut_20 (fun H locs hP _ hS => ?_)
  have hP : va_P E.1 vwCl [(xo, .inr (4, [.ref r, .ref r2, .ref r3, .ref d, .ref y, .ref q2, .int sf])), (r, .inr (2, [.ref rc])), (rc, .inl (E.2.1, 293, .inl (cDw f n a1))), (r2, .inr (2, [.ref rc2])), (rc2, .inl (E.2.1, 293, .inl (cp293 f fb))), (y, .inr (0, [.ref q, .int (nI (recO (cDv f n a1) o z)), .int (nI (recZ (cDv f n a1) z))])), (q, .inr (3, [.ref w])), (w, .inl (E.2.1, 1758, .inl (recH (cDv f n a1) (cp293 f fb) h o z)))] H := hP
  exact hret _ _ _ _ _ _ rfl rfl rfl hP hS dX7_takeOut_23

theorem cd_X7_light : cdV RX7 yX7_light cX7_light 4 (some .int) 3 := ⟨⟨bw_217, bw_2, by decide, by decide, by decide +kernel⟩, bw_215, bw_216⟩
set_option maxHeartbeats 4000000 in
set_option maxRecDepth 100000 in
theorem c_X7_light (l : Launch) (E : EV) (xo : Nat) (r : Nat) (r2 : Nat) (r3 : Nat) (d : Nat) (y : Nat) (q2 : Nat) (sf : Int32) (rc : Nat) (f : Nat → Int32) (rc2 : Nat) (fb : Nat → Int32) (q : Nat) (w : Nat) (o : Nat) (z : Nat) (h : Nat → Int32) (n : Nat) (a1 : Int32) (a2 : Int32) (a3 : Int32) (hf : f 12 = nI n) (hn : n ≤ 20) (ho : o < 6) (hz : z ≤ 6) : rcI l E yX7_light cX7_light 4 .int 7 [.ref xo, .int a1, .int a2, .int a3] [(xo, .inr (4, [.ref r, .ref r2, .ref r3, .ref d, .ref y, .ref q2, .int sf])), (r, .inr (2, [.ref rc])), (rc, .inl (E.2.1, 293, .inl f)), (r2, .inr (2, [.ref rc2])), (rc2, .inl (E.2.1, 293, .inl fb)), (y, .inr (0, [.ref q, .int (nI o), .int (nI z)])), (q, .inr (3, [.ref w])), (w, .inl (E.2.1, 1758, .inl h))] (cLv f n a1 a2 a3) [(xo, .inr (4, [.ref r, .ref r2, .ref r3, .ref d, .ref y, .ref q2, .int sf])), (r, .inr (2, [.ref rc])), (rc, .inl (E.2.1, 293, .inl (cLw f n a1 a2 a3))), (r2, .inr (2, [.ref rc2])), (rc2, .inl (E.2.1, 293, .inl (cp293 f fb))), (y, .inr (0, [.ref q, .int (nI (recO (cLv f n a1 a2 a3) o z)), .int (nI (recZ (cLv f n a1 a2 a3) z))])), (q, .inr (3, [.ref w])), (w, .inl (E.2.1, 1758, .inl (recH (cLv f n a1 a2 a3) (cp293 f fb) h o z)))] := by
  refine rcI_of (by decide) (Nat.le_of_ble_eq_true rfl) ?_
  intro pg e s m below meth c Q A ls S hP hD0 hE hA hl hret
  have hx := S.1
  have hb := S.2.1
  have hown := S.2.2.2.1
  have hts := S.2.2.2.2
  have hK := hE.1
  have hS : va_S A s.heap s.heap [] := va_S.rf
  have hDa : va_Da A [xo, r, rc, r2, rc2, y, q, w] := ⟨_, hD0, rfl⟩
  have hl : lv_has ls 4 [(0, .ref xo), (1, .int a1), (2, .int a2), (3, .int a3)] := hl
  refine lv_aload_n hx hb dX7_light_0 rfl (lv_at hl 0 rfl) ?_
  refine va_get (D := E.1) (ci := 4) (v := .ref r2) (C := RX7) (T := TX7) (N := 7) hx hb hts inb_X7 hown hK hP 0 rfl rfl 1 (by decide) (hts _ bw_95) (fun _ h9 => h9) rfl dX7_light_1 ?_
  refine lv_aload_n hx hb dX7_light_4 rfl (lv_at hl 0 rfl) ?_
  refine va_get (D := E.1) (ci := 4) (v := .ref r) (C := RX7) (T := TX7) (N := 7) hx hb hts inb_X7 hown hK hP 0 rfl rfl 0 (by decide) (hts _ bw_94) (fun _ h9 => h9) rfl dX7_light_5 ?_
  refine rwVv1 (rest := []) S (c_X3_become l E r2 rc2 r rc fb f) cd_X3_become bw_151 ⟨Nat.le_of_ble_eq_true rfl, Nat.le_of_ble_eq_true rfl⟩ ⟨Nat.zero_le _, Nat.zero_le _⟩ hP (hDa.to rfl) hE hA hS [3, 4, 1, 2] rfl rfl [r2, rc2, r, rc] rfl rfl (ci := 2) rfl (q0 := 0) rfl (Nat.le_of_ble_eq_true rfl) hl.1 dX7_light_8 (fun H locs hP _ hS => ?_)
  have hP : va_P E.1 vwCl [(xo, .inr (4, [.ref r, .ref r2, .ref r3, .ref d, .ref y, .ref q2, .int sf])), (r, .inr (2, [.ref rc])), (rc, .inl (E.2.1, 293, .inl f)), (r2, .inr (2, [.ref rc2])), (rc2, .inl (E.2.1, 293, .inl (cp293 f fb))), (y, .inr (0, [.ref q, .int (nI o), .int (nI z)])), (q, .inr (3, [.ref w])), (w, .inl (E.2.1, 1758, .inl h))] H := hP
  refine lv_aload_n hx hb dX7_light_11 rfl (lv_at hl 0 rfl) ?_
  refine lv_aload_n hx hb dX7_light_12 rfl (lv_at hl 0 rfl) ?_
  refine va_get (D := E.1) (ci := 4) (v := .ref r) (C := RX7) (T := TX7) (N := 7) hx hb hts inb_X7 hown hK hP 0 rfl rfl 0 (by decide) (hts _ bw_94) (fun _ h9 => h9) rfl dX7_light_13 ?_
  refine lv_iload_n hx hb dX7_light_16 rfl (lv_at hl 1 rfl) ?_
  refine lv_iload_n hx hb dX7_light_17 rfl (lv_at hl 2 rfl) ?_
  refine lv_iload_n hx hb dX7_light_18 rfl (lv_at hl 3 rfl) ?_
  refine rwS4 (rest := [.ref xo]) S (c_X0_changeLight l E r rc f n a1 a2 a3 hf hn) cd_X0_changeLight bw_218 ⟨Nat.le_of_ble_eq_true rfl, Nat.le_of_ble_eq_true rfl⟩ ⟨Nat.zero_le _, Nat.zero_le _⟩ hP (hDa.to rfl) hE hA hS [1, 2] rfl rfl [r, rc] rfl rfl (Nat.le_of_ble_eq_true rfl) hl.1 dX7_light_19 (fun H locs hP _ hS => ?_)
  have hP : va_P E.1 vwCl [(xo, .inr (4, [.ref r, .ref r2, .ref r3, .ref d, .ref y, .ref q2, .int sf])), (r, .inr (2, [.ref rc])), (rc, .inl (E.2.1, 293, .inl (cLw f n a1 a2 a3))), (r2, .inr (2, [.ref rc2])), (rc2, .inl (E.2.1, 293, .inl (cp293 f fb))), (y, .inr (0, [.ref q, .int (nI o), .int (nI z)])), (q, .inr (3, [.ref w])), (w, .inl (E.2.1, 1758, .inl h))] H := hP
  refine rwV1 (rest := []) S (c_X7_recorded l E xo r r2 r3 d y q2 sf rc2 (cp293 f fb) q w o z h (cLv f n a1 a2 a3) ho hz) cd_X7_recorded bw_198 ⟨Nat.le_of_ble_eq_true rfl, Nat.le_of_ble_eq_true rfl⟩ ⟨Nat.zero_le _, Nat.zero_le _⟩ hP (hDa.to rfl) hE hA hS [0, 3, 4, 5, 6, 7] rfl rfl [xo, r2, rc2, y, q, w] rfl rfl (ci := 4) rfl (q0 := 0) rfl (Nat.le_of_ble_eq_true rfl) hl.1 dX7_light_22 (fun H locs hP _ hS => ?_)
  have hP : va_P E.1 vwCl [(xo, .inr (4, [.ref r, .ref r2, .ref r3, .ref d, .ref y, .ref q2, .int sf])), (r, .inr (2, [.ref rc])), (rc, .inl (E.2.1, 293, .inl (cLw f n a1 a2 a3))), (r2, .inr (2, [.ref rc2])), (rc2, .inl (E.2.1, 293, .inl (cp293 f fb))), (y, .inr (0, [.ref q, .int (nI (recO (cLv f n a1 a2 a3) o z)), .int (nI (recZ (cLv f n a1 a2 a3) z))])), (q, .inr (3, [.ref w])), (w, .inl (E.2.1, 1758, .inl (recH (cLv f n a1 a2 a3) (cp293 f fb) h o z)))] H := hP
  exact hret _ _ _ _ _ _ rfl rfl rfl hP hS dX7_light_25

theorem cd_X7_wish : cdV RX7 yX7_wish cX7_wish 4 (some .int) 3 := ⟨⟨bw_232, bw_2, by decide, by decide, by decide +kernel⟩, bw_230, bw_231⟩
set_option maxHeartbeats 4000000 in
set_option maxRecDepth 100000 in
theorem c_X7_wish (l : Launch) (E : EV) (xo : Nat) (r : Nat) (r2 : Nat) (r3 : Nat) (d : Nat) (y : Nat) (q2 : Nat) (sf : Int32) (rc : Nat) (f : Nat → Int32) (rc2 : Nat) (fb : Nat → Int32) (q : Nat) (w : Nat) (o : Nat) (z : Nat) (h : Nat → Int32) (n : Nat) (a1 : Int32) (a2 : Int32) (a3 : Int32) (hf : f 12 = nI n) (hn : n ≤ 20) (ho : o < 6) (hz : z ≤ 6) : rcI l E yX7_wish cX7_wish 4 .int 7 [.ref xo, .int a1, .int a2, .int a3] [(xo, .inr (4, [.ref r, .ref r2, .ref r3, .ref d, .ref y, .ref q2, .int sf])), (r, .inr (2, [.ref rc])), (rc, .inl (E.2.1, 293, .inl f)), (r2, .inr (2, [.ref rc2])), (rc2, .inl (E.2.1, 293, .inl fb)), (y, .inr (0, [.ref q, .int (nI o), .int (nI z)])), (q, .inr (3, [.ref w])), (w, .inl (E.2.1, 1758, .inl h))] (cWv f n a1 a2 a3) [(xo, .inr (4, [.ref r, .ref r2, .ref r3, .ref d, .ref y, .ref q2, .int sf])), (r, .inr (2, [.ref rc])), (rc, .inl (E.2.1, 293, .inl (cWw f n a1 a2 a3))), (r2, .inr (2, [.ref rc2])), (rc2, .inl (E.2.1, 293, .inl (cp293 f fb))), (y, .inr (0, [.ref q, .int (nI (recO (cWv f n a1 a2 a3) o z)), .int (nI (recZ (cWv f n a1 a2 a3) z))])), (q, .inr (3, [.ref w])), (w, .inl (E.2.1, 1758, .inl (recH (cWv f n a1 a2 a3) (cp293 f fb) h o z)))] := by
  refine rcI_of (by decide) (Nat.le_of_ble_eq_true rfl) ?_
  intro pg e s m below meth c Q A ls S hP hD0 hE hA hl hret
  have hx := S.1
  have hb := S.2.1
  have hown := S.2.2.2.1
  have hts := S.2.2.2.2
  have hK := hE.1
  have hS : va_S A s.heap s.heap [] := va_S.rf
  have hDa : va_Da A [xo, r, rc, r2, rc2, y, q, w] := ⟨_, hD0, rfl⟩
  have hl : lv_has ls 4 [(0, .ref xo), (1, .int a1), (2, .int a2), (3, .int a3)] := hl
  refine lv_aload_n hx hb dX7_wish_0 rfl (lv_at hl 0 rfl) ?_
  refine va_get (D := E.1) (ci := 4) (v := .ref r2) (C := RX7) (T := TX7) (N := 7) hx hb hts inb_X7 hown hK hP 0 rfl rfl 1 (by decide) (hts _ bw_95) (fun _ h9 => h9) rfl dX7_wish_1 ?_
  refine lv_aload_n hx hb dX7_wish_4 rfl (lv_at hl 0 rfl) ?_
  refine va_get (D := E.1) (ci := 4) (v := .ref r) (C := RX7) (T := TX7) (N := 7) hx hb hts inb_X7 hown hK hP 0 rfl rfl 0 (by decide) (hts _ bw_94) (fun _ h9 => h9) rfl dX7_wish_5 ?_
  refine rwVv1 (rest := []) S (c_X3_become l E r2 rc2 r rc fb f) cd_X3_become bw_151 ⟨Nat.le_of_ble_eq_true rfl, Nat.le_of_ble_eq_true rfl⟩ ⟨Nat.zero_le _, Nat.zero_le _⟩ hP (hDa.to rfl) hE hA hS [3, 4, 1, 2] rfl rfl [r2, rc2, r, rc] rfl rfl (ci := 2) rfl (q0 := 0) rfl (Nat.le_of_ble_eq_true rfl) hl.1 dX7_wish_8 (fun H locs hP _ hS => ?_)
  have hP : va_P E.1 vwCl [(xo, .inr (4, [.ref r, .ref r2, .ref r3, .ref d, .ref y, .ref q2, .int sf])), (r, .inr (2, [.ref rc])), (rc, .inl (E.2.1, 293, .inl f)), (r2, .inr (2, [.ref rc2])), (rc2, .inl (E.2.1, 293, .inl (cp293 f fb))), (y, .inr (0, [.ref q, .int (nI o), .int (nI z)])), (q, .inr (3, [.ref w])), (w, .inl (E.2.1, 1758, .inl h))] H := hP
  refine lv_aload_n hx hb dX7_wish_11 rfl (lv_at hl 0 rfl) ?_
  refine lv_aload_n hx hb dX7_wish_12 rfl (lv_at hl 0 rfl) ?_
  refine va_get (D := E.1) (ci := 4) (v := .ref r) (C := RX7) (T := TX7) (N := 7) hx hb hts inb_X7 hown hK hP 0 rfl rfl 0 (by decide) (hts _ bw_94) (fun _ h9 => h9) rfl dX7_wish_13 ?_
  refine lv_iload_n hx hb dX7_wish_16 rfl (lv_at hl 1 rfl) ?_
  refine lv_iload_n hx hb dX7_wish_17 rfl (lv_at hl 2 rfl) ?_
  refine lv_iload_n hx hb dX7_wish_18 rfl (lv_at hl 3 rfl) ?_
  refine rwS4 (rest := [.ref xo]) S (c_X0_changeWish l E r rc f n a1 a2 a3 hf hn) cd_X0_changeWish bw_233 ⟨Nat.le_of_ble_eq_true rfl, Nat.le_of_ble_eq_true rfl⟩ ⟨Nat.zero_le _, Nat.zero_le _⟩ hP (hDa.to rfl) hE hA hS [1, 2] rfl rfl [r, rc] rfl rfl (Nat.le_of_ble_eq_true rfl) hl.1 dX7_wish_19 (fun H locs hP _ hS => ?_)
  have hP : va_P E.1 vwCl [(xo, .inr (4, [.ref r, .ref r2, .ref r3, .ref d, .ref y, .ref q2, .int sf])), (r, .inr (2, [.ref rc])), (rc, .inl (E.2.1, 293, .inl (cWw f n a1 a2 a3))), (r2, .inr (2, [.ref rc2])), (rc2, .inl (E.2.1, 293, .inl (cp293 f fb))), (y, .inr (0, [.ref q, .int (nI o), .int (nI z)])), (q, .inr (3, [.ref w])), (w, .inl (E.2.1, 1758, .inl h))] H := hP
  refine rwV1 (rest := []) S (c_X7_recorded l E xo r r2 r3 d y q2 sf rc2 (cp293 f fb) q w o z h (cWv f n a1 a2 a3) ho hz) cd_X7_recorded bw_198 ⟨Nat.le_of_ble_eq_true rfl, Nat.le_of_ble_eq_true rfl⟩ ⟨Nat.zero_le _, Nat.zero_le _⟩ hP (hDa.to rfl) hE hA hS [0, 3, 4, 5, 6, 7] rfl rfl [xo, r2, rc2, y, q, w] rfl rfl (ci := 4) rfl (q0 := 0) rfl (Nat.le_of_ble_eq_true rfl) hl.1 dX7_wish_22 (fun H locs hP _ hS => ?_)
  have hP : va_P E.1 vwCl [(xo, .inr (4, [.ref r, .ref r2, .ref r3, .ref d, .ref y, .ref q2, .int sf])), (r, .inr (2, [.ref rc])), (rc, .inl (E.2.1, 293, .inl (cWw f n a1 a2 a3))), (r2, .inr (2, [.ref rc2])), (rc2, .inl (E.2.1, 293, .inl (cp293 f fb))), (y, .inr (0, [.ref q, .int (nI (recO (cWv f n a1 a2 a3) o z)), .int (nI (recZ (cWv f n a1 a2 a3) z))])), (q, .inr (3, [.ref w])), (w, .inl (E.2.1, 1758, .inl (recH (cWv f n a1 a2 a3) (cp293 f fb) h o z)))] H := hP
  exact hret _ _ _ _ _ _ rfl rfl rfl hP hS dX7_wish_25

theorem cd_X7_move : cdV RX7 yX7_move cX7_move 3 (some .int) 2 := ⟨⟨bw_239, bw_2, by decide, by decide, by decide +kernel⟩, bw_237, bw_238⟩
set_option maxHeartbeats 4000000 in
set_option maxRecDepth 100000 in
theorem c_X7_move (l : Launch) (E : EV) (xo : Nat) (r : Nat) (r2 : Nat) (r3 : Nat) (d : Nat) (y : Nat) (q2 : Nat) (sf : Int32) (rc : Nat) (f : Nat → Int32) (rc2 : Nat) (fb : Nat → Int32) (q : Nat) (w : Nat) (o : Nat) (z : Nat) (h : Nat → Int32) (n : Nat) (a1 : Int32) (a2 : Int32) (hf : f 12 = nI n) (hn : n ≤ 20) (ho : o < 6) (hz : z ≤ 6) : rcI l E yX7_move cX7_move 3 .int 7 [.ref xo, .int a1, .int a2] [(xo, .inr (4, [.ref r, .ref r2, .ref r3, .ref d, .ref y, .ref q2, .int sf])), (r, .inr (2, [.ref rc])), (rc, .inl (E.2.1, 293, .inl f)), (r2, .inr (2, [.ref rc2])), (rc2, .inl (E.2.1, 293, .inl fb)), (y, .inr (0, [.ref q, .int (nI o), .int (nI z)])), (q, .inr (3, [.ref w])), (w, .inl (E.2.1, 1758, .inl h))] (cMv f n a1 a2) [(xo, .inr (4, [.ref r, .ref r2, .ref r3, .ref d, .ref y, .ref q2, .int sf])), (r, .inr (2, [.ref rc])), (rc, .inl (E.2.1, 293, .inl (cMw f n a1 a2))), (r2, .inr (2, [.ref rc2])), (rc2, .inl (E.2.1, 293, .inl (cp293 f fb))), (y, .inr (0, [.ref q, .int (nI (recO (cMv f n a1 a2) o z)), .int (nI (recZ (cMv f n a1 a2) z))])), (q, .inr (3, [.ref w])), (w, .inl (E.2.1, 1758, .inl (recH (cMv f n a1 a2) (cp293 f fb) h o z)))] := by
  refine rcI_of (by decide) (Nat.le_of_ble_eq_true rfl) ?_
  intro pg e s m below meth c Q A ls S hP hD0 hE hA hl hret
  have hx := S.1
  have hb := S.2.1
  have hown := S.2.2.2.1
  have hts := S.2.2.2.2
  have hK := hE.1
  have hS : va_S A s.heap s.heap [] := va_S.rf
  have hDa : va_Da A [xo, r, rc, r2, rc2, y, q, w] := ⟨_, hD0, rfl⟩
  have hl : lv_has ls 3 [(0, .ref xo), (1, .int a1), (2, .int a2)] := hl
  refine lv_aload_n hx hb dX7_move_0 rfl (lv_at hl 0 rfl) ?_
  refine va_get (D := E.1) (ci := 4) (v := .ref r2) (C := RX7) (T := TX7) (N := 7) hx hb hts inb_X7 hown hK hP 0 rfl rfl 1 (by decide) (hts _ bw_95) (fun _ h9 => h9) rfl dX7_move_1 ?_
  refine lv_aload_n hx hb dX7_move_4 rfl (lv_at hl 0 rfl) ?_
  refine va_get (D := E.1) (ci := 4) (v := .ref r) (C := RX7) (T := TX7) (N := 7) hx hb hts inb_X7 hown hK hP 0 rfl rfl 0 (by decide) (hts _ bw_94) (fun _ h9 => h9) rfl dX7_move_5 ?_
  refine rwVv1 (rest := []) S (c_X3_become l E r2 rc2 r rc fb f) cd_X3_become bw_151 ⟨Nat.le_of_ble_eq_true rfl, Nat.le_of_ble_eq_true rfl⟩ ⟨Nat.zero_le _, Nat.zero_le _⟩ hP (hDa.to rfl) hE hA hS [3, 4, 1, 2] rfl rfl [r2, rc2, r, rc] rfl rfl (ci := 2) rfl (q0 := 0) rfl (Nat.le_of_ble_eq_true rfl) hl.1 dX7_move_8 (fun H locs hP _ hS => ?_)
  have hP : va_P E.1 vwCl [(xo, .inr (4, [.ref r, .ref r2, .ref r3, .ref d, .ref y, .ref q2, .int sf])), (r, .inr (2, [.ref rc])), (rc, .inl (E.2.1, 293, .inl f)), (r2, .inr (2, [.ref rc2])), (rc2, .inl (E.2.1, 293, .inl (cp293 f fb))), (y, .inr (0, [.ref q, .int (nI o), .int (nI z)])), (q, .inr (3, [.ref w])), (w, .inl (E.2.1, 1758, .inl h))] H := hP
  refine lv_aload_n hx hb dX7_move_11 rfl (lv_at hl 0 rfl) ?_
  refine lv_aload_n hx hb dX7_move_12 rfl (lv_at hl 0 rfl) ?_
  refine va_get (D := E.1) (ci := 4) (v := .ref r) (C := RX7) (T := TX7) (N := 7) hx hb hts inb_X7 hown hK hP 0 rfl rfl 0 (by decide) (hts _ bw_94) (fun _ h9 => h9) rfl dX7_move_13 ?_
  refine lv_iload_n hx hb dX7_move_16 rfl (lv_at hl 1 rfl) ?_
  refine lv_iload_n hx hb dX7_move_17 rfl (lv_at hl 2 rfl) ?_
  refine rwS3 (rest := [.ref xo]) S (c_X0_moveShot l E r rc f n a1 a2 hf hn) cd_X0_moveShot bw_240 ⟨Nat.le_of_ble_eq_true rfl, Nat.le_of_ble_eq_true rfl⟩ ⟨Nat.zero_le _, Nat.zero_le _⟩ hP (hDa.to rfl) hE hA hS [1, 2] rfl rfl [r, rc] rfl rfl (Nat.le_of_ble_eq_true rfl) hl.1 dX7_move_18 (fun H locs hP _ hS => ?_)
  have hP : va_P E.1 vwCl [(xo, .inr (4, [.ref r, .ref r2, .ref r3, .ref d, .ref y, .ref q2, .int sf])), (r, .inr (2, [.ref rc])), (rc, .inl (E.2.1, 293, .inl (cMw f n a1 a2))), (r2, .inr (2, [.ref rc2])), (rc2, .inl (E.2.1, 293, .inl (cp293 f fb))), (y, .inr (0, [.ref q, .int (nI o), .int (nI z)])), (q, .inr (3, [.ref w])), (w, .inl (E.2.1, 1758, .inl h))] H := hP
  refine rwV1 (rest := []) S (c_X7_recorded l E xo r r2 r3 d y q2 sf rc2 (cp293 f fb) q w o z h (cMv f n a1 a2) ho hz) cd_X7_recorded bw_198 ⟨Nat.le_of_ble_eq_true rfl, Nat.le_of_ble_eq_true rfl⟩ ⟨Nat.zero_le _, Nat.zero_le _⟩ hP (hDa.to rfl) hE hA hS [0, 3, 4, 5, 6, 7] rfl rfl [xo, r2, rc2, y, q, w] rfl rfl (ci := 4) rfl (q0 := 0) rfl (Nat.le_of_ble_eq_true rfl) hl.1 dX7_move_21 (fun H locs hP _ hS => ?_)
  have hP : va_P E.1 vwCl [(xo, .inr (4, [.ref r, .ref r2, .ref r3, .ref d, .ref y, .ref q2, .int sf])), (r, .inr (2, [.ref rc])), (rc, .inl (E.2.1, 293, .inl (cMw f n a1 a2))), (r2, .inr (2, [.ref rc2])), (rc2, .inl (E.2.1, 293, .inl (cp293 f fb))), (y, .inr (0, [.ref q, .int (nI (recO (cMv f n a1 a2) o z)), .int (nI (recZ (cMv f n a1 a2) z))])), (q, .inr (3, [.ref w])), (w, .inl (E.2.1, 1758, .inl (recH (cMv f n a1 a2) (cp293 f fb) h o z)))] H := hP
  exact hret _ _ _ _ _ _ rfl rfl rfl hP hS dX7_move_24

theorem cd_X7_split : cdV RX7 yX7_split cX7_split 3 (some .int) 2 := ⟨⟨bw_253, bw_2, by decide, by decide, by decide +kernel⟩, bw_251, bw_252⟩
set_option maxHeartbeats 4000000 in
set_option maxRecDepth 100000 in
theorem c_X7_split (l : Launch) (E : EV) (xo : Nat) (r : Nat) (r2 : Nat) (r3 : Nat) (d : Nat) (y : Nat) (q2 : Nat) (sf : Int32) (rc : Nat) (f : Nat → Int32) (rc2 : Nat) (fb : Nat → Int32) (q : Nat) (w : Nat) (o : Nat) (z : Nat) (h : Nat → Int32) (n : Nat) (a1 : Int32) (a2 : Int32) (hf : f 12 = nI n) (hn : n ≤ 20) (ho : o < 6) (hz : z ≤ 6) : rcI l E yX7_split cX7_split 3 .int 7 [.ref xo, .int a1, .int a2] [(xo, .inr (4, [.ref r, .ref r2, .ref r3, .ref d, .ref y, .ref q2, .int sf])), (r, .inr (2, [.ref rc])), (rc, .inl (E.2.1, 293, .inl f)), (r2, .inr (2, [.ref rc2])), (rc2, .inl (E.2.1, 293, .inl fb)), (y, .inr (0, [.ref q, .int (nI o), .int (nI z)])), (q, .inr (3, [.ref w])), (w, .inl (E.2.1, 1758, .inl h))] (cPv f n a1 a2) [(xo, .inr (4, [.ref r, .ref r2, .ref r3, .ref d, .ref y, .ref q2, .int sf])), (r, .inr (2, [.ref rc])), (rc, .inl (E.2.1, 293, .inl (cPw f n a1 a2))), (r2, .inr (2, [.ref rc2])), (rc2, .inl (E.2.1, 293, .inl (cp293 f fb))), (y, .inr (0, [.ref q, .int (nI (recO (cPv f n a1 a2) o z)), .int (nI (recZ (cPv f n a1 a2) z))])), (q, .inr (3, [.ref w])), (w, .inl (E.2.1, 1758, .inl (recH (cPv f n a1 a2) (cp293 f fb) h o z)))] := by
  refine rcI_of (by decide) (Nat.le_of_ble_eq_true rfl) ?_
  intro pg e s m below meth c Q A ls S hP hD0 hE hA hl hret
  have hx := S.1
  have hb := S.2.1
  have hown := S.2.2.2.1
  have hts := S.2.2.2.2
  have hK := hE.1
  have hS : va_S A s.heap s.heap [] := va_S.rf
  have hDa : va_Da A [xo, r, rc, r2, rc2, y, q, w] := ⟨_, hD0, rfl⟩
  have hl : lv_has ls 3 [(0, .ref xo), (1, .int a1), (2, .int a2)] := hl
  refine lv_aload_n hx hb dX7_split_0 rfl (lv_at hl 0 rfl) ?_
  refine va_get (D := E.1) (ci := 4) (v := .ref r2) (C := RX7) (T := TX7) (N := 7) hx hb hts inb_X7 hown hK hP 0 rfl rfl 1 (by decide) (hts _ bw_95) (fun _ h9 => h9) rfl dX7_split_1 ?_
  refine lv_aload_n hx hb dX7_split_4 rfl (lv_at hl 0 rfl) ?_
  refine va_get (D := E.1) (ci := 4) (v := .ref r) (C := RX7) (T := TX7) (N := 7) hx hb hts inb_X7 hown hK hP 0 rfl rfl 0 (by decide) (hts _ bw_94) (fun _ h9 => h9) rfl dX7_split_5 ?_
  refine rwVv1 (rest := []) S (c_X3_become l E r2 rc2 r rc fb f) cd_X3_become bw_151 ⟨Nat.le_of_ble_eq_true rfl, Nat.le_of_ble_eq_true rfl⟩ ⟨Nat.zero_le _, Nat.zero_le _⟩ hP (hDa.to rfl) hE hA hS [3, 4, 1, 2] rfl rfl [r2, rc2, r, rc] rfl rfl (ci := 2) rfl (q0 := 0) rfl (Nat.le_of_ble_eq_true rfl) hl.1 dX7_split_8 (fun H locs hP _ hS => ?_)
  have hP : va_P E.1 vwCl [(xo, .inr (4, [.ref r, .ref r2, .ref r3, .ref d, .ref y, .ref q2, .int sf])), (r, .inr (2, [.ref rc])), (rc, .inl (E.2.1, 293, .inl f)), (r2, .inr (2, [.ref rc2])), (rc2, .inl (E.2.1, 293, .inl (cp293 f fb))), (y, .inr (0, [.ref q, .int (nI o), .int (nI z)])), (q, .inr (3, [.ref w])), (w, .inl (E.2.1, 1758, .inl h))] H := hP
  refine lv_aload_n hx hb dX7_split_11 rfl (lv_at hl 0 rfl) ?_
  refine lv_aload_n hx hb dX7_split_12 rfl (lv_at hl 0 rfl) ?_
  refine va_get (D := E.1) (ci := 4) (v := .ref r) (C := RX7) (T := TX7) (N := 7) hx hb hts inb_X7 hown hK hP 0 rfl rfl 0 (by decide) (hts _ bw_94) (fun _ h9 => h9) rfl dX7_split_13 ?_
  refine lv_iload_n hx hb dX7_split_16 rfl (lv_at hl 1 rfl) ?_
  refine lv_iload_n hx hb dX7_split_17 rfl (lv_at hl 2 rfl) ?_
  refine rwS3 (rest := [.ref xo]) S (c_X0_splitShot l E r rc f n a1 a2 hf hn) cd_X0_splitShot bw_254 ⟨Nat.le_of_ble_eq_true rfl, Nat.le_of_ble_eq_true rfl⟩ ⟨Nat.zero_le _, Nat.zero_le _⟩ hP (hDa.to rfl) hE hA hS [1, 2] rfl rfl [r, rc] rfl rfl (Nat.le_of_ble_eq_true rfl) hl.1 dX7_split_18 (fun H locs hP _ hS => ?_)
  have hP : va_P E.1 vwCl [(xo, .inr (4, [.ref r, .ref r2, .ref r3, .ref d, .ref y, .ref q2, .int sf])), (r, .inr (2, [.ref rc])), (rc, .inl (E.2.1, 293, .inl (cPw f n a1 a2))), (r2, .inr (2, [.ref rc2])), (rc2, .inl (E.2.1, 293, .inl (cp293 f fb))), (y, .inr (0, [.ref q, .int (nI o), .int (nI z)])), (q, .inr (3, [.ref w])), (w, .inl (E.2.1, 1758, .inl h))] H := hP
  refine rwV1 (rest := []) S (c_X7_recorded l E xo r r2 r3 d y q2 sf rc2 (cp293 f fb) q w o z h (cPv f n a1 a2) ho hz) cd_X7_recorded bw_198 ⟨Nat.le_of_ble_eq_true rfl, Nat.le_of_ble_eq_true rfl⟩ ⟨Nat.zero_le _, Nat.zero_le _⟩ hP (hDa.to rfl) hE hA hS [0, 3, 4, 5, 6, 7] rfl rfl [xo, r2, rc2, y, q, w] rfl rfl (ci := 4) rfl (q0 := 0) rfl (Nat.le_of_ble_eq_true rfl) hl.1 dX7_split_21 (fun H locs hP _ hS => ?_)
  have hP : va_P E.1 vwCl [(xo, .inr (4, [.ref r, .ref r2, .ref r3, .ref d, .ref y, .ref q2, .int sf])), (r, .inr (2, [.ref rc])), (rc, .inl (E.2.1, 293, .inl (cPw f n a1 a2))), (r2, .inr (2, [.ref rc2])), (rc2, .inl (E.2.1, 293, .inl (cp293 f fb))), (y, .inr (0, [.ref q, .int (nI (recO (cPv f n a1 a2) o z)), .int (nI (recZ (cPv f n a1 a2) z))])), (q, .inr (3, [.ref w])), (w, .inl (E.2.1, 1758, .inl (recH (cPv f n a1 a2) (cp293 f fb) h o z)))] H := hP
  exact hret _ _ _ _ _ _ rfl rfl rfl hP hS dX7_split_24

theorem cd_X7_join : cdV RX7 yX7_join cX7_join 2 (some .int) 1 := ⟨⟨bw_260, bw_2, by decide, by decide, by decide +kernel⟩, bw_258, bw_259⟩
set_option maxHeartbeats 4000000 in
set_option maxRecDepth 100000 in
theorem c_X7_join (l : Launch) (E : EV) (xo : Nat) (r : Nat) (r2 : Nat) (r3 : Nat) (d : Nat) (y : Nat) (q2 : Nat) (sf : Int32) (rc : Nat) (f : Nat → Int32) (rc2 : Nat) (fb : Nat → Int32) (q : Nat) (w : Nat) (o : Nat) (z : Nat) (h : Nat → Int32) (n : Nat) (a1 : Int32) (hf : f 12 = nI n) (hn : n ≤ 20) (ho : o < 6) (hz : z ≤ 6) : rcI l E yX7_join cX7_join 2 .int 7 [.ref xo, .int a1] [(xo, .inr (4, [.ref r, .ref r2, .ref r3, .ref d, .ref y, .ref q2, .int sf])), (r, .inr (2, [.ref rc])), (rc, .inl (E.2.1, 293, .inl f)), (r2, .inr (2, [.ref rc2])), (rc2, .inl (E.2.1, 293, .inl fb)), (y, .inr (0, [.ref q, .int (nI o), .int (nI z)])), (q, .inr (3, [.ref w])), (w, .inl (E.2.1, 1758, .inl h))] (cJv f n a1) [(xo, .inr (4, [.ref r, .ref r2, .ref r3, .ref d, .ref y, .ref q2, .int sf])), (r, .inr (2, [.ref rc])), (rc, .inl (E.2.1, 293, .inl (cJw f n a1))), (r2, .inr (2, [.ref rc2])), (rc2, .inl (E.2.1, 293, .inl (cp293 f fb))), (y, .inr (0, [.ref q, .int (nI (recO (cJv f n a1) o z)), .int (nI (recZ (cJv f n a1) z))])), (q, .inr (3, [.ref w])), (w, .inl (E.2.1, 1758, .inl (recH (cJv f n a1) (cp293 f fb) h o z)))] := by
  refine rcI_of (by decide) (Nat.le_of_ble_eq_true rfl) ?_
  intro pg e s m below meth c Q A ls S hP hD0 hE hA hl hret
  have hx := S.1
  have hb := S.2.1
  have hown := S.2.2.2.1
  have hts := S.2.2.2.2
  have hK := hE.1
  have hS : va_S A s.heap s.heap [] := va_S.rf
  have hDa : va_Da A [xo, r, rc, r2, rc2, y, q, w] := ⟨_, hD0, rfl⟩
  have hl : lv_has ls 2 [(0, .ref xo), (1, .int a1)] := hl
  refine lv_aload_n hx hb dX7_join_0 rfl (lv_at hl 0 rfl) ?_
  refine va_get (D := E.1) (ci := 4) (v := .ref r2) (C := RX7) (T := TX7) (N := 7) hx hb hts inb_X7 hown hK hP 0 rfl rfl 1 (by decide) (hts _ bw_95) (fun _ h9 => h9) rfl dX7_join_1 ?_
  refine lv_aload_n hx hb dX7_join_4 rfl (lv_at hl 0 rfl) ?_
  refine va_get (D := E.1) (ci := 4) (v := .ref r) (C := RX7) (T := TX7) (N := 7) hx hb hts inb_X7 hown hK hP 0 rfl rfl 0 (by decide) (hts _ bw_94) (fun _ h9 => h9) rfl dX7_join_5 ?_
  refine rwVv1 (rest := []) S (c_X3_become l E r2 rc2 r rc fb f) cd_X3_become bw_151 ⟨Nat.le_of_ble_eq_true rfl, Nat.le_of_ble_eq_true rfl⟩ ⟨Nat.zero_le _, Nat.zero_le _⟩ hP (hDa.to rfl) hE hA hS [3, 4, 1, 2] rfl rfl [r2, rc2, r, rc] rfl rfl (ci := 2) rfl (q0 := 0) rfl (Nat.le_of_ble_eq_true rfl) hl.1 dX7_join_8 (fun H locs hP _ hS => ?_)
  have hP : va_P E.1 vwCl [(xo, .inr (4, [.ref r, .ref r2, .ref r3, .ref d, .ref y, .ref q2, .int sf])), (r, .inr (2, [.ref rc])), (rc, .inl (E.2.1, 293, .inl f)), (r2, .inr (2, [.ref rc2])), (rc2, .inl (E.2.1, 293, .inl (cp293 f fb))), (y, .inr (0, [.ref q, .int (nI o), .int (nI z)])), (q, .inr (3, [.ref w])), (w, .inl (E.2.1, 1758, .inl h))] H := hP
  refine lv_aload_n hx hb dX7_join_11 rfl (lv_at hl 0 rfl) ?_
  refine lv_aload_n hx hb dX7_join_12 rfl (lv_at hl 0 rfl) ?_
  refine va_get (D := E.1) (ci := 4) (v := .ref r) (C := RX7) (T := TX7) (N := 7) hx hb hts inb_X7 hown hK hP 0 rfl rfl 0 (by decide) (hts _ bw_94) (fun _ h9 => h9) rfl dX7_join_13 ?_
  refine lv_iload_n hx hb dX7_join_16 rfl (lv_at hl 1 rfl) ?_
  refine rwS2 (rest := [.ref xo]) S (c_X0_joinShots l E r rc f n a1 hf hn) cd_X0_joinShots bw_261 ⟨Nat.le_of_ble_eq_true rfl, Nat.le_of_ble_eq_true rfl⟩ ⟨Nat.zero_le _, Nat.zero_le _⟩ hP (hDa.to rfl) hE hA hS [1, 2] rfl rfl [r, rc] rfl rfl (Nat.le_of_ble_eq_true rfl) hl.1 dX7_join_17 (fun H locs hP _ hS => ?_)
  have hP : va_P E.1 vwCl [(xo, .inr (4, [.ref r, .ref r2, .ref r3, .ref d, .ref y, .ref q2, .int sf])), (r, .inr (2, [.ref rc])), (rc, .inl (E.2.1, 293, .inl (cJw f n a1))), (r2, .inr (2, [.ref rc2])), (rc2, .inl (E.2.1, 293, .inl (cp293 f fb))), (y, .inr (0, [.ref q, .int (nI o), .int (nI z)])), (q, .inr (3, [.ref w])), (w, .inl (E.2.1, 1758, .inl h))] H := hP
  refine rwV1 (rest := []) S (c_X7_recorded l E xo r r2 r3 d y q2 sf rc2 (cp293 f fb) q w o z h (cJv f n a1) ho hz) cd_X7_recorded bw_198 ⟨Nat.le_of_ble_eq_true rfl, Nat.le_of_ble_eq_true rfl⟩ ⟨Nat.zero_le _, Nat.zero_le _⟩ hP (hDa.to rfl) hE hA hS [0, 3, 4, 5, 6, 7] rfl rfl [xo, r2, rc2, y, q, w] rfl rfl (ci := 4) rfl (q0 := 0) rfl (Nat.le_of_ble_eq_true rfl) hl.1 dX7_join_20 (fun H locs hP _ hS => ?_)
  have hP : va_P E.1 vwCl [(xo, .inr (4, [.ref r, .ref r2, .ref r3, .ref d, .ref y, .ref q2, .int sf])), (r, .inr (2, [.ref rc])), (rc, .inl (E.2.1, 293, .inl (cJw f n a1))), (r2, .inr (2, [.ref rc2])), (rc2, .inl (E.2.1, 293, .inl (cp293 f fb))), (y, .inr (0, [.ref q, .int (nI (recO (cJv f n a1) o z)), .int (nI (recZ (cJv f n a1) z))])), (q, .inr (3, [.ref w])), (w, .inl (E.2.1, 1758, .inl (recH (cJv f n a1) (cp293 f fb) h o z)))] H := hP
  exact hret _ _ _ _ _ _ rfl rfl rfl hP hS dX7_join_23

theorem cd_X7_print : cdV RX7 yX7_print cX7_print 1 (some .int) 0 := ⟨⟨bw_274, bw_2, by decide, by decide, by decide +kernel⟩, bw_272, bw_273⟩
set_option maxHeartbeats 4000000 in
set_option maxRecDepth 100000 in
theorem c_X7_print (l : Launch) (E : EV) (xo : Nat) (r : Nat) (r2 : Nat) (r3 : Nat) (d : Nat) (y : Nat) (q2 : Nat) (sf : Int32) (rc : Nat) (f : Nat → Int32) (rc2 : Nat) (fb : Nat → Int32) (q : Nat) (w : Nat) (o : Nat) (z : Nat) (h : Nat → Int32) (n : Nat) (hf : f 12 = nI n) (hn : n ≤ 20) (ho : o < 6) (hz : z ≤ 6) : rcI l E yX7_print cX7_print 1 .int 7 [.ref xo] [(xo, .inr (4, [.ref r, .ref r2, .ref r3, .ref d, .ref y, .ref q2, .int sf])), (r, .inr (2, [.ref rc])), (rc, .inl (E.2.1, 293, .inl f)), (r2, .inr (2, [.ref rc2])), (rc2, .inl (E.2.1, 293, .inl fb)), (y, .inr (0, [.ref q, .int (nI o), .int (nI z)])), (q, .inr (3, [.ref w])), (w, .inl (E.2.1, 1758, .inl h))] (cKv f n) [(xo, .inr (4, [.ref r, .ref r2, .ref r3, .ref d, .ref y, .ref q2, .int sf])), (r, .inr (2, [.ref rc])), (rc, .inl (E.2.1, 293, .inl (cKw f n))), (r2, .inr (2, [.ref rc2])), (rc2, .inl (E.2.1, 293, .inl (cp293 f fb))), (y, .inr (0, [.ref q, .int (nI (recO (cKv f n) o z)), .int (nI (recZ (cKv f n) z))])), (q, .inr (3, [.ref w])), (w, .inl (E.2.1, 1758, .inl (recH (cKv f n) (cp293 f fb) h o z)))] := by
  refine rcI_of (by decide) (Nat.le_of_ble_eq_true rfl) ?_
  intro pg e s m below meth c Q A ls S hP hD0 hE hA hl hret
  have hx := S.1
  have hb := S.2.1
  have hown := S.2.2.2.1
  have hts := S.2.2.2.2
  have hK := hE.1
  have hS : va_S A s.heap s.heap [] := va_S.rf
  have hDa : va_Da A [xo, r, rc, r2, rc2, y, q, w] := ⟨_, hD0, rfl⟩
  have hl : lv_has ls 1 [(0, .ref xo)] := hl
  refine lv_aload_n hx hb dX7_print_0 rfl (lv_at hl 0 rfl) ?_
  refine va_get (D := E.1) (ci := 4) (v := .ref r2) (C := RX7) (T := TX7) (N := 7) hx hb hts inb_X7 hown hK hP 0 rfl rfl 1 (by decide) (hts _ bw_95) (fun _ h9 => h9) rfl dX7_print_1 ?_
  refine lv_aload_n hx hb dX7_print_4 rfl (lv_at hl 0 rfl) ?_
  refine va_get (D := E.1) (ci := 4) (v := .ref r) (C := RX7) (T := TX7) (N := 7) hx hb hts inb_X7 hown hK hP 0 rfl rfl 0 (by decide) (hts _ bw_94) (fun _ h9 => h9) rfl dX7_print_5 ?_
  refine rwVv1 (rest := []) S (c_X3_become l E r2 rc2 r rc fb f) cd_X3_become bw_151 ⟨Nat.le_of_ble_eq_true rfl, Nat.le_of_ble_eq_true rfl⟩ ⟨Nat.zero_le _, Nat.zero_le _⟩ hP (hDa.to rfl) hE hA hS [3, 4, 1, 2] rfl rfl [r2, rc2, r, rc] rfl rfl (ci := 2) rfl (q0 := 0) rfl (Nat.le_of_ble_eq_true rfl) hl.1 dX7_print_8 (fun H locs hP _ hS => ?_)
  have hP : va_P E.1 vwCl [(xo, .inr (4, [.ref r, .ref r2, .ref r3, .ref d, .ref y, .ref q2, .int sf])), (r, .inr (2, [.ref rc])), (rc, .inl (E.2.1, 293, .inl f)), (r2, .inr (2, [.ref rc2])), (rc2, .inl (E.2.1, 293, .inl (cp293 f fb))), (y, .inr (0, [.ref q, .int (nI o), .int (nI z)])), (q, .inr (3, [.ref w])), (w, .inl (E.2.1, 1758, .inl h))] H := hP
  refine lv_aload_n hx hb dX7_print_11 rfl (lv_at hl 0 rfl) ?_
  refine lv_aload_n hx hb dX7_print_12 rfl (lv_at hl 0 rfl) ?_
  refine va_get (D := E.1) (ci := 4) (v := .ref r) (C := RX7) (T := TX7) (N := 7) hx hb hts inb_X7 hown hK hP 0 rfl rfl 0 (by decide) (hts _ bw_94) (fun _ h9 => h9) rfl dX7_print_13 ?_
  refine rwS1 (rest := [.ref xo]) S (c_X0_makePrint l E r rc f n hf hn) cd_X0_makePrint bw_275 ⟨Nat.le_of_ble_eq_true rfl, Nat.le_of_ble_eq_true rfl⟩ ⟨Nat.zero_le _, Nat.zero_le _⟩ hP (hDa.to rfl) hE hA hS [1, 2] rfl rfl [r, rc] rfl rfl (Nat.le_of_ble_eq_true rfl) hl.1 dX7_print_16 (fun H locs hP _ hS => ?_)
  have hP : va_P E.1 vwCl [(xo, .inr (4, [.ref r, .ref r2, .ref r3, .ref d, .ref y, .ref q2, .int sf])), (r, .inr (2, [.ref rc])), (rc, .inl (E.2.1, 293, .inl (cKw f n))), (r2, .inr (2, [.ref rc2])), (rc2, .inl (E.2.1, 293, .inl (cp293 f fb))), (y, .inr (0, [.ref q, .int (nI o), .int (nI z)])), (q, .inr (3, [.ref w])), (w, .inl (E.2.1, 1758, .inl h))] H := hP
  refine rwV1 (rest := []) S (c_X7_recorded l E xo r r2 r3 d y q2 sf rc2 (cp293 f fb) q w o z h (cKv f n) ho hz) cd_X7_recorded bw_198 ⟨Nat.le_of_ble_eq_true rfl, Nat.le_of_ble_eq_true rfl⟩ ⟨Nat.zero_le _, Nat.zero_le _⟩ hP (hDa.to rfl) hE hA hS [0, 3, 4, 5, 6, 7] rfl rfl [xo, r2, rc2, y, q, w] rfl rfl (ci := 4) rfl (q0 := 0) rfl (Nat.le_of_ble_eq_true rfl) hl.1 dX7_print_19 (fun H locs hP _ hS => ?_)
  have hP : va_P E.1 vwCl [(xo, .inr (4, [.ref r, .ref r2, .ref r3, .ref d, .ref y, .ref q2, .int sf])), (r, .inr (2, [.ref rc])), (rc, .inl (E.2.1, 293, .inl (cKw f n))), (r2, .inr (2, [.ref rc2])), (rc2, .inl (E.2.1, 293, .inl (cp293 f fb))), (y, .inr (0, [.ref q, .int (nI (recO (cKv f n) o z)), .int (nI (recZ (cKv f n) z))])), (q, .inr (3, [.ref w])), (w, .inl (E.2.1, 1758, .inl (recH (cKv f n) (cp293 f fb) h o z)))] H := hP
  exact hret _ _ _ _ _ _ rfl rfl rfl hP hS dX7_print_22

theorem cd_X7_correct : cdV RX7 yX7_correct cX7_correct 2 (some .int) 1 := ⟨⟨bw_315, bw_2, by decide, by decide, by decide +kernel⟩, bw_313, bw_314⟩
set_option maxHeartbeats 4000000 in
set_option maxRecDepth 100000 in
theorem c_X7_correct (l : Launch) (E : EV) (xo : Nat) (r : Nat) (r2 : Nat) (r3 : Nat) (d : Nat) (y : Nat) (q2 : Nat) (sf : Int32) (rc : Nat) (f : Nat → Int32) (rc2 : Nat) (fb : Nat → Int32) (q : Nat) (w : Nat) (o : Nat) (z : Nat) (h : Nat → Int32) (n : Nat) (a1 : Int32) (hf : f 12 = nI n) (hn : n ≤ 20) (ho : o < 6) (hz : z ≤ 6) : rcI l E yX7_correct cX7_correct 2 .int 7 [.ref xo, .int a1] [(xo, .inr (4, [.ref r, .ref r2, .ref r3, .ref d, .ref y, .ref q2, .int sf])), (r, .inr (2, [.ref rc])), (rc, .inl (E.2.1, 293, .inl f)), (r2, .inr (2, [.ref rc2])), (rc2, .inl (E.2.1, 293, .inl fb)), (y, .inr (0, [.ref q, .int (nI o), .int (nI z)])), (q, .inr (3, [.ref w])), (w, .inl (E.2.1, 1758, .inl h))] (cCv f n a1) [(xo, .inr (4, [.ref r, .ref r2, .ref r3, .ref d, .ref y, .ref q2, .int sf])), (r, .inr (2, [.ref rc])), (rc, .inl (E.2.1, 293, .inl (cCw f n a1))), (r2, .inr (2, [.ref rc2])), (rc2, .inl (E.2.1, 293, .inl (cp293 f fb))), (y, .inr (0, [.ref q, .int (nI (recO (cCv f n a1) o z)), .int (nI (recZ (cCv f n a1) z))])), (q, .inr (3, [.ref w])), (w, .inl (E.2.1, 1758, .inl (recH (cCv f n a1) (cp293 f fb) h o z)))] := by
  refine rcI_of (by decide) (Nat.le_of_ble_eq_true rfl) ?_
  intro pg e s m below meth c Q A ls S hP hD0 hE hA hl hret
  have hx := S.1
  have hb := S.2.1
  have hown := S.2.2.2.1
  have hts := S.2.2.2.2
  have hK := hE.1
  have hS : va_S A s.heap s.heap [] := va_S.rf
  have hDa : va_Da A [xo, r, rc, r2, rc2, y, q, w] := ⟨_, hD0, rfl⟩
  have hl : lv_has ls 2 [(0, .ref xo), (1, .int a1)] := hl
  refine lv_aload_n hx hb dX7_correct_0 rfl (lv_at hl 0 rfl) ?_
  refine va_get (D := E.1) (ci := 4) (v := .ref r2) (C := RX7) (T := TX7) (N := 7) hx hb hts inb_X7 hown hK hP 0 rfl rfl 1 (by decide) (hts _ bw_95) (fun _ h9 => h9) rfl dX7_correct_1 ?_
  refine lv_aload_n hx hb dX7_correct_4 rfl (lv_at hl 0 rfl) ?_
  refine va_get (D := E.1) (ci := 4) (v := .ref r) (C := RX7) (T := TX7) (N := 7) hx hb hts inb_X7 hown hK hP 0 rfl rfl 0 (by decide) (hts _ bw_94) (fun _ h9 => h9) rfl dX7_correct_5 ?_
  refine rwVv1 (rest := []) S (c_X3_become l E r2 rc2 r rc fb f) cd_X3_become bw_151 ⟨Nat.le_of_ble_eq_true rfl, Nat.le_of_ble_eq_true rfl⟩ ⟨Nat.zero_le _, Nat.zero_le _⟩ hP (hDa.to rfl) hE hA hS [3, 4, 1, 2] rfl rfl [r2, rc2, r, rc] rfl rfl (ci := 2) rfl (q0 := 0) rfl (Nat.le_of_ble_eq_true rfl) hl.1 dX7_correct_8 (fun H locs hP _ hS => ?_)
  have hP : va_P E.1 vwCl [(xo, .inr (4, [.ref r, .ref r2, .ref r3, .ref d, .ref y, .ref q2, .int sf])), (r, .inr (2, [.ref rc])), (rc, .inl (E.2.1, 293, .inl f)), (r2, .inr (2, [.ref rc2])), (rc2, .inl (E.2.1, 293, .inl (cp293 f fb))), (y, .inr (0, [.ref q, .int (nI o), .int (nI z)])), (q, .inr (3, [.ref w])), (w, .inl (E.2.1, 1758, .inl h))] H := hP
  refine lv_aload_n hx hb dX7_correct_11 rfl (lv_at hl 0 rfl) ?_
  refine lv_aload_n hx hb dX7_correct_12 rfl (lv_at hl 0 rfl) ?_
  refine va_get (D := E.1) (ci := 4) (v := .ref r) (C := RX7) (T := TX7) (N := 7) hx hb hts inb_X7 hown hK hP 0 rfl rfl 0 (by decide) (hts _ bw_94) (fun _ h9 => h9) rfl dX7_correct_13 ?_
  refine lv_iload_n hx hb dX7_correct_16 rfl (lv_at hl 1 rfl) ?_
  refine rwS2 (rest := [.ref xo]) S (c_X0_correctShot l E r rc f n a1 hf hn) cd_X0_correctShot bw_316 ⟨Nat.le_of_ble_eq_true rfl, Nat.le_of_ble_eq_true rfl⟩ ⟨Nat.zero_le _, Nat.zero_le _⟩ hP (hDa.to rfl) hE hA hS [1, 2] rfl rfl [r, rc] rfl rfl (Nat.le_of_ble_eq_true rfl) hl.1 dX7_correct_17 (fun H locs hP _ hS => ?_)
  have hP : va_P E.1 vwCl [(xo, .inr (4, [.ref r, .ref r2, .ref r3, .ref d, .ref y, .ref q2, .int sf])), (r, .inr (2, [.ref rc])), (rc, .inl (E.2.1, 293, .inl (cCw f n a1))), (r2, .inr (2, [.ref rc2])), (rc2, .inl (E.2.1, 293, .inl (cp293 f fb))), (y, .inr (0, [.ref q, .int (nI o), .int (nI z)])), (q, .inr (3, [.ref w])), (w, .inl (E.2.1, 1758, .inl h))] H := hP
  refine rwV1 (rest := []) S (c_X7_recorded l E xo r r2 r3 d y q2 sf rc2 (cp293 f fb) q w o z h (cCv f n a1) ho hz) cd_X7_recorded bw_198 ⟨Nat.le_of_ble_eq_true rfl, Nat.le_of_ble_eq_true rfl⟩ ⟨Nat.zero_le _, Nat.zero_le _⟩ hP (hDa.to rfl) hE hA hS [0, 3, 4, 5, 6, 7] rfl rfl [xo, r2, rc2, y, q, w] rfl rfl (ci := 4) rfl (q0 := 0) rfl (Nat.le_of_ble_eq_true rfl) hl.1 dX7_correct_20 (fun H locs hP _ hS => ?_)
  have hP : va_P E.1 vwCl [(xo, .inr (4, [.ref r, .ref r2, .ref r3, .ref d, .ref y, .ref q2, .int sf])), (r, .inr (2, [.ref rc])), (rc, .inl (E.2.1, 293, .inl (cCw f n a1))), (r2, .inr (2, [.ref rc2])), (rc2, .inl (E.2.1, 293, .inl (cp293 f fb))), (y, .inr (0, [.ref q, .int (nI (recO (cCv f n a1) o z)), .int (nI (recZ (cCv f n a1) z))])), (q, .inr (3, [.ref w])), (w, .inl (E.2.1, 1758, .inl (recH (cCv f n a1) (cp293 f fb) h o z)))] H := hP
  exact hret _ _ _ _ _ _ rfl rfl rfl hP hS dX7_correct_23

theorem cd_X7_correctAll : cdV RX7 yX7_correctAll cX7_correctAll 1 (some .int) 0 := ⟨⟨bw_328, bw_2, by decide, by decide, by decide +kernel⟩, bw_326, bw_327⟩
set_option maxHeartbeats 4000000 in
set_option maxRecDepth 100000 in
theorem c_X7_correctAll (l : Launch) (E : EV) (xo : Nat) (r : Nat) (r2 : Nat) (r3 : Nat) (d : Nat) (y : Nat) (q2 : Nat) (sf : Int32) (rc : Nat) (f : Nat → Int32) (rc2 : Nat) (fb : Nat → Int32) (q : Nat) (w : Nat) (o : Nat) (z : Nat) (h : Nat → Int32) (n : Nat) (hf : f 12 = nI n) (hn : n ≤ 20) (ho : o < 6) (hz : z ≤ 6) : rcI l E yX7_correctAll cX7_correctAll 1 .int 7 [.ref xo] [(xo, .inr (4, [.ref r, .ref r2, .ref r3, .ref d, .ref y, .ref q2, .int sf])), (r, .inr (2, [.ref rc])), (rc, .inl (E.2.1, 293, .inl f)), (r2, .inr (2, [.ref rc2])), (rc2, .inl (E.2.1, 293, .inl fb)), (y, .inr (0, [.ref q, .int (nI o), .int (nI z)])), (q, .inr (3, [.ref w])), (w, .inl (E.2.1, 1758, .inl h))] (cZv f n) [(xo, .inr (4, [.ref r, .ref r2, .ref r3, .ref d, .ref y, .ref q2, .int sf])), (r, .inr (2, [.ref rc])), (rc, .inl (E.2.1, 293, .inl (cZw f n))), (r2, .inr (2, [.ref rc2])), (rc2, .inl (E.2.1, 293, .inl (cp293 f fb))), (y, .inr (0, [.ref q, .int (nI (recO (cZv f n) o z)), .int (nI (recZ (cZv f n) z))])), (q, .inr (3, [.ref w])), (w, .inl (E.2.1, 1758, .inl (recH (cZv f n) (cp293 f fb) h o z)))] := by
  refine rcI_of (by decide) (Nat.le_of_ble_eq_true rfl) ?_
  intro pg e s m below meth c Q A ls S hP hD0 hE hA hl hret
  have hx := S.1
  have hb := S.2.1
  have hown := S.2.2.2.1
  have hts := S.2.2.2.2
  have hK := hE.1
  have hS : va_S A s.heap s.heap [] := va_S.rf
  have hDa : va_Da A [xo, r, rc, r2, rc2, y, q, w] := ⟨_, hD0, rfl⟩
  have hl : lv_has ls 1 [(0, .ref xo)] := hl
  refine lv_aload_n hx hb dX7_correctAll_0 rfl (lv_at hl 0 rfl) ?_
  refine va_get (D := E.1) (ci := 4) (v := .ref r2) (C := RX7) (T := TX7) (N := 7) hx hb hts inb_X7 hown hK hP 0 rfl rfl 1 (by decide) (hts _ bw_95) (fun _ h9 => h9) rfl dX7_correctAll_1 ?_
  refine lv_aload_n hx hb dX7_correctAll_4 rfl (lv_at hl 0 rfl) ?_
  refine va_get (D := E.1) (ci := 4) (v := .ref r) (C := RX7) (T := TX7) (N := 7) hx hb hts inb_X7 hown hK hP 0 rfl rfl 0 (by decide) (hts _ bw_94) (fun _ h9 => h9) rfl dX7_correctAll_5 ?_
  refine rwVv1 (rest := []) S (c_X3_become l E r2 rc2 r rc fb f) cd_X3_become bw_151 ⟨Nat.le_of_ble_eq_true rfl, Nat.le_of_ble_eq_true rfl⟩ ⟨Nat.zero_le _, Nat.zero_le _⟩ hP (hDa.to rfl) hE hA hS [3, 4, 1, 2] rfl rfl [r2, rc2, r, rc] rfl rfl (ci := 2) rfl (q0 := 0) rfl (Nat.le_of_ble_eq_true rfl) hl.1 dX7_correctAll_8 (fun H locs hP _ hS => ?_)
  have hP : va_P E.1 vwCl [(xo, .inr (4, [.ref r, .ref r2, .ref r3, .ref d, .ref y, .ref q2, .int sf])), (r, .inr (2, [.ref rc])), (rc, .inl (E.2.1, 293, .inl f)), (r2, .inr (2, [.ref rc2])), (rc2, .inl (E.2.1, 293, .inl (cp293 f fb))), (y, .inr (0, [.ref q, .int (nI o), .int (nI z)])), (q, .inr (3, [.ref w])), (w, .inl (E.2.1, 1758, .inl h))] H := hP
  refine lv_aload_n hx hb dX7_correctAll_11 rfl (lv_at hl 0 rfl) ?_
  refine lv_aload_n hx hb dX7_correctAll_12 rfl (lv_at hl 0 rfl) ?_
  refine va_get (D := E.1) (ci := 4) (v := .ref r) (C := RX7) (T := TX7) (N := 7) hx hb hts inb_X7 hown hK hP 0 rfl rfl 0 (by decide) (hts _ bw_94) (fun _ h9 => h9) rfl dX7_correctAll_13 ?_
  refine rwS1 (rest := [.ref xo]) S (c_X0_correctBadShots l E r rc f n hf hn) cd_X0_correctBadShots bw_329 ⟨Nat.le_of_ble_eq_true rfl, Nat.le_of_ble_eq_true rfl⟩ ⟨Nat.zero_le _, Nat.zero_le _⟩ hP (hDa.to rfl) hE hA hS [1, 2] rfl rfl [r, rc] rfl rfl (Nat.le_of_ble_eq_true rfl) hl.1 dX7_correctAll_16 (fun H locs hP _ hS => ?_)
  have hP : va_P E.1 vwCl [(xo, .inr (4, [.ref r, .ref r2, .ref r3, .ref d, .ref y, .ref q2, .int sf])), (r, .inr (2, [.ref rc])), (rc, .inl (E.2.1, 293, .inl (cZw f n))), (r2, .inr (2, [.ref rc2])), (rc2, .inl (E.2.1, 293, .inl (cp293 f fb))), (y, .inr (0, [.ref q, .int (nI o), .int (nI z)])), (q, .inr (3, [.ref w])), (w, .inl (E.2.1, 1758, .inl h))] H := hP
  refine rwV1 (rest := []) S (c_X7_recorded l E xo r r2 r3 d y q2 sf rc2 (cp293 f fb) q w o z h (cZv f n) ho hz) cd_X7_recorded bw_198 ⟨Nat.le_of_ble_eq_true rfl, Nat.le_of_ble_eq_true rfl⟩ ⟨Nat.zero_le _, Nat.zero_le _⟩ hP (hDa.to rfl) hE hA hS [0, 3, 4, 5, 6, 7] rfl rfl [xo, r2, rc2, y, q, w] rfl rfl (ci := 4) rfl (q0 := 0) rfl (Nat.le_of_ble_eq_true rfl) hl.1 dX7_correctAll_19 (fun H locs hP _ hS => ?_)
  have hP : va_P E.1 vwCl [(xo, .inr (4, [.ref r, .ref r2, .ref r3, .ref d, .ref y, .ref q2, .int sf])), (r, .inr (2, [.ref rc])), (rc, .inl (E.2.1, 293, .inl (cZw f n))), (r2, .inr (2, [.ref rc2])), (rc2, .inl (E.2.1, 293, .inl (cp293 f fb))), (y, .inr (0, [.ref q, .int (nI (recO (cZv f n) o z)), .int (nI (recZ (cZv f n) z))])), (q, .inr (3, [.ref w])), (w, .inl (E.2.1, 1758, .inl (recH (cZv f n) (cp293 f fb) h o z)))] H := hP
  exact hret _ _ _ _ _ _ rfl rfl rfl hP hS dX7_correctAll_22

theorem cd_X7_card : cdV RX7 yX7_card cX7_card 1 (some .int) 0 := ⟨⟨bw_336, bw_2, by decide, by decide, by decide +kernel⟩, bw_334, bw_335⟩
set_option maxHeartbeats 4000000 in
set_option maxRecDepth 100000 in
theorem c_X7_card (l : Launch) (E : EV) (xo : Nat) (r : Nat) (r2 : Nat) (r3 : Nat) (d : Nat) (y : Nat) (q2 : Nat) (sf : Int32) (rc : Nat) (f : Nat → Int32) (rc2 : Nat) (fb : Nat → Int32) (q : Nat) (w : Nat) (o : Nat) (z : Nat) (h : Nat → Int32) (ho : o < 6) (hz : z ≤ 6) : rcI l E yX7_card cX7_card 1 .int 7 [.ref xo] [(xo, .inr (4, [.ref r, .ref r2, .ref r3, .ref d, .ref y, .ref q2, .int sf])), (r, .inr (2, [.ref rc])), (rc, .inl (E.2.1, 293, .inl f)), (r2, .inr (2, [.ref rc2])), (rc2, .inl (E.2.1, 293, .inl fb)), (y, .inr (0, [.ref q, .int (nI o), .int (nI z)])), (q, .inr (3, [.ref w])), (w, .inl (E.2.1, 1758, .inl h))] (cTv f) [(xo, .inr (4, [.ref r, .ref r2, .ref r3, .ref d, .ref y, .ref q2, .int sf])), (r, .inr (2, [.ref rc])), (rc, .inl (E.2.1, 293, .inl (cTw f))), (r2, .inr (2, [.ref rc2])), (rc2, .inl (E.2.1, 293, .inl (cp293 f fb))), (y, .inr (0, [.ref q, .int (nI (recO (cTv f) o z)), .int (nI (recZ (cTv f) z))])), (q, .inr (3, [.ref w])), (w, .inl (E.2.1, 1758, .inl (recH (cTv f) (cp293 f fb) h o z)))] := by
  refine rcI_of (by decide) (Nat.le_of_ble_eq_true rfl) ?_
  intro pg e s m below meth c Q A ls S hP hD0 hE hA hl hret
  have hx := S.1
  have hb := S.2.1
  have hown := S.2.2.2.1
  have hts := S.2.2.2.2
  have hK := hE.1
  have hS : va_S A s.heap s.heap [] := va_S.rf
  have hDa : va_Da A [xo, r, rc, r2, rc2, y, q, w] := ⟨_, hD0, rfl⟩
  have hl : lv_has ls 1 [(0, .ref xo)] := hl
  refine lv_aload_n hx hb dX7_card_0 rfl (lv_at hl 0 rfl) ?_
  refine va_get (D := E.1) (ci := 4) (v := .ref r2) (C := RX7) (T := TX7) (N := 7) hx hb hts inb_X7 hown hK hP 0 rfl rfl 1 (by decide) (hts _ bw_95) (fun _ h9 => h9) rfl dX7_card_1 ?_
  refine lv_aload_n hx hb dX7_card_4 rfl (lv_at hl 0 rfl) ?_
  refine va_get (D := E.1) (ci := 4) (v := .ref r) (C := RX7) (T := TX7) (N := 7) hx hb hts inb_X7 hown hK hP 0 rfl rfl 0 (by decide) (hts _ bw_94) (fun _ h9 => h9) rfl dX7_card_5 ?_
  refine rwVv1 (rest := []) S (c_X3_become l E r2 rc2 r rc fb f) cd_X3_become bw_151 ⟨Nat.le_of_ble_eq_true rfl, Nat.le_of_ble_eq_true rfl⟩ ⟨Nat.zero_le _, Nat.zero_le _⟩ hP (hDa.to rfl) hE hA hS [3, 4, 1, 2] rfl rfl [r2, rc2, r, rc] rfl rfl (ci := 2) rfl (q0 := 0) rfl (Nat.le_of_ble_eq_true rfl) hl.1 dX7_card_8 (fun H locs hP _ hS => ?_)
  have hP : va_P E.1 vwCl [(xo, .inr (4, [.ref r, .ref r2, .ref r3, .ref d, .ref y, .ref q2, .int sf])), (r, .inr (2, [.ref rc])), (rc, .inl (E.2.1, 293, .inl f)), (r2, .inr (2, [.ref rc2])), (rc2, .inl (E.2.1, 293, .inl (cp293 f fb))), (y, .inr (0, [.ref q, .int (nI o), .int (nI z)])), (q, .inr (3, [.ref w])), (w, .inl (E.2.1, 1758, .inl h))] H := hP
  refine lv_aload_n hx hb dX7_card_11 rfl (lv_at hl 0 rfl) ?_
  refine lv_aload_n hx hb dX7_card_12 rfl (lv_at hl 0 rfl) ?_
  refine va_get (D := E.1) (ci := 4) (v := .ref r) (C := RX7) (T := TX7) (N := 7) hx hb hts inb_X7 hown hK hP 0 rfl rfl 0 (by decide) (hts _ bw_94) (fun _ h9 => h9) rfl dX7_card_13 ?_
  refine rwS1 (rest := [.ref xo]) S (c_X0_setByCard l E r rc f) cd_X0_setByCard bw_337 ⟨Nat.le_of_ble_eq_true rfl, Nat.le_of_ble_eq_true rfl⟩ ⟨Nat.zero_le _, Nat.zero_le _⟩ hP (hDa.to rfl) hE hA hS [1, 2] rfl rfl [r, rc] rfl rfl (Nat.le_of_ble_eq_true rfl) hl.1 dX7_card_16 (fun H locs hP _ hS => ?_)
  have hP : va_P E.1 vwCl [(xo, .inr (4, [.ref r, .ref r2, .ref r3, .ref d, .ref y, .ref q2, .int sf])), (r, .inr (2, [.ref rc])), (rc, .inl (E.2.1, 293, .inl (cTw f))), (r2, .inr (2, [.ref rc2])), (rc2, .inl (E.2.1, 293, .inl (cp293 f fb))), (y, .inr (0, [.ref q, .int (nI o), .int (nI z)])), (q, .inr (3, [.ref w])), (w, .inl (E.2.1, 1758, .inl h))] H := hP
  refine rwV1 (rest := []) S (c_X7_recorded l E xo r r2 r3 d y q2 sf rc2 (cp293 f fb) q w o z h (cTv f) ho hz) cd_X7_recorded bw_198 ⟨Nat.le_of_ble_eq_true rfl, Nat.le_of_ble_eq_true rfl⟩ ⟨Nat.zero_le _, Nat.zero_le _⟩ hP (hDa.to rfl) hE hA hS [0, 3, 4, 5, 6, 7] rfl rfl [xo, r2, rc2, y, q, w] rfl rfl (ci := 4) rfl (q0 := 0) rfl (Nat.le_of_ble_eq_true rfl) hl.1 dX7_card_19 (fun H locs hP _ hS => ?_)
  have hP : va_P E.1 vwCl [(xo, .inr (4, [.ref r, .ref r2, .ref r3, .ref d, .ref y, .ref q2, .int sf])), (r, .inr (2, [.ref rc])), (rc, .inl (E.2.1, 293, .inl (cTw f))), (r2, .inr (2, [.ref rc2])), (rc2, .inl (E.2.1, 293, .inl (cp293 f fb))), (y, .inr (0, [.ref q, .int (nI (recO (cTv f) o z)), .int (nI (recZ (cTv f) z))])), (q, .inr (3, [.ref w])), (w, .inl (E.2.1, 1758, .inl (recH (cTv f) (cp293 f fb) h o z)))] H := hP
  exact hret _ _ _ _ _ _ rfl rfl rfl hP hS dX7_card_22

theorem cd_X7_trim : cdV RX7 yX7_trim cX7_trim 3 (some .int) 2 := ⟨⟨bw_345, bw_2, by decide, by decide, by decide +kernel⟩, bw_343, bw_344⟩
set_option maxHeartbeats 4000000 in
set_option maxRecDepth 100000 in
theorem c_X7_trim (l : Launch) (E : EV) (xo : Nat) (r : Nat) (r2 : Nat) (r3 : Nat) (d : Nat) (y : Nat) (q2 : Nat) (sf : Int32) (rc : Nat) (f : Nat → Int32) (rc2 : Nat) (fb : Nat → Int32) (q : Nat) (w : Nat) (o : Nat) (z : Nat) (h : Nat → Int32) (a1 : Int32) (a2 : Int32) (ho : o < 6) (hz : z ≤ 6) : rcI l E yX7_trim cX7_trim 3 .int 7 [.ref xo, .int a1, .int a2] [(xo, .inr (4, [.ref r, .ref r2, .ref r3, .ref d, .ref y, .ref q2, .int sf])), (r, .inr (2, [.ref rc])), (rc, .inl (E.2.1, 293, .inl f)), (r2, .inr (2, [.ref rc2])), (rc2, .inl (E.2.1, 293, .inl fb)), (y, .inr (0, [.ref q, .int (nI o), .int (nI z)])), (q, .inr (3, [.ref w])), (w, .inl (E.2.1, 1758, .inl h))] (cUv f a1 a2) [(xo, .inr (4, [.ref r, .ref r2, .ref r3, .ref d, .ref y, .ref q2, .int sf])), (r, .inr (2, [.ref rc])), (rc, .inl (E.2.1, 293, .inl (cUw f a1 a2))), (r2, .inr (2, [.ref rc2])), (rc2, .inl (E.2.1, 293, .inl (cp293 f fb))), (y, .inr (0, [.ref q, .int (nI (recO (cUv f a1 a2) o z)), .int (nI (recZ (cUv f a1 a2) z))])), (q, .inr (3, [.ref w])), (w, .inl (E.2.1, 1758, .inl (recH (cUv f a1 a2) (cp293 f fb) h o z)))] := by
  refine rcI_of (by decide) (Nat.le_of_ble_eq_true rfl) ?_
  intro pg e s m below meth c Q A ls S hP hD0 hE hA hl hret
  have hx := S.1
  have hb := S.2.1
  have hown := S.2.2.2.1
  have hts := S.2.2.2.2
  have hK := hE.1
  have hS : va_S A s.heap s.heap [] := va_S.rf
  have hDa : va_Da A [xo, r, rc, r2, rc2, y, q, w] := ⟨_, hD0, rfl⟩
  have hl : lv_has ls 3 [(0, .ref xo), (1, .int a1), (2, .int a2)] := hl
  refine lv_aload_n hx hb dX7_trim_0 rfl (lv_at hl 0 rfl) ?_
  refine va_get (D := E.1) (ci := 4) (v := .ref r2) (C := RX7) (T := TX7) (N := 7) hx hb hts inb_X7 hown hK hP 0 rfl rfl 1 (by decide) (hts _ bw_95) (fun _ h9 => h9) rfl dX7_trim_1 ?_
  refine lv_aload_n hx hb dX7_trim_4 rfl (lv_at hl 0 rfl) ?_
  refine va_get (D := E.1) (ci := 4) (v := .ref r) (C := RX7) (T := TX7) (N := 7) hx hb hts inb_X7 hown hK hP 0 rfl rfl 0 (by decide) (hts _ bw_94) (fun _ h9 => h9) rfl dX7_trim_5 ?_
  refine rwVv1 (rest := []) S (c_X3_become l E r2 rc2 r rc fb f) cd_X3_become bw_151 ⟨Nat.le_of_ble_eq_true rfl, Nat.le_of_ble_eq_true rfl⟩ ⟨Nat.zero_le _, Nat.zero_le _⟩ hP (hDa.to rfl) hE hA hS [3, 4, 1, 2] rfl rfl [r2, rc2, r, rc] rfl rfl (ci := 2) rfl (q0 := 0) rfl (Nat.le_of_ble_eq_true rfl) hl.1 dX7_trim_8 (fun H locs hP _ hS => ?_)
  have hP : va_P E.1 vwCl [(xo, .inr (4, [.ref r, .ref r2, .ref r3, .ref d, .ref y, .ref q2, .int sf])), (r, .inr (2, [.ref rc])), (rc, .inl (E.2.1, 293, .inl f)), (r2, .inr (2, [.ref rc2])), (rc2, .inl (E.2.1, 293, .inl (cp293 f fb))), (y, .inr (0, [.ref q, .int (nI o), .int (nI z)])), (q, .inr (3, [.ref w])), (w, .inl (E.2.1, 1758, .inl h))] H := hP
  refine lv_aload_n hx hb dX7_trim_11 rfl (lv_at hl 0 rfl) ?_
  refine lv_aload_n hx hb dX7_trim_12 rfl (lv_at hl 0 rfl) ?_
  refine va_get (D := E.1) (ci := 4) (v := .ref r) (C := RX7) (T := TX7) (N := 7) hx hb hts inb_X7 hown hK hP 0 rfl rfl 0 (by decide) (hts _ bw_94) (fun _ h9 => h9) rfl dX7_trim_13 ?_
  refine lv_iload_n hx hb dX7_trim_16 rfl (lv_at hl 1 rfl) ?_
  refine lv_iload_n hx hb dX7_trim_17 rfl (lv_at hl 2 rfl) ?_
  refine rwS3 (rest := [.ref xo]) S (c_X0_changeTrim l E r rc f a1 a2) cd_X0_changeTrim bw_346 ⟨Nat.le_of_ble_eq_true rfl, Nat.le_of_ble_eq_true rfl⟩ ⟨Nat.zero_le _, Nat.zero_le _⟩ hP (hDa.to rfl) hE hA hS [1, 2] rfl rfl [r, rc] rfl rfl (Nat.le_of_ble_eq_true rfl) hl.1 dX7_trim_18 (fun H locs hP _ hS => ?_)
  have hP : va_P E.1 vwCl [(xo, .inr (4, [.ref r, .ref r2, .ref r3, .ref d, .ref y, .ref q2, .int sf])), (r, .inr (2, [.ref rc])), (rc, .inl (E.2.1, 293, .inl (cUw f a1 a2))), (r2, .inr (2, [.ref rc2])), (rc2, .inl (E.2.1, 293, .inl (cp293 f fb))), (y, .inr (0, [.ref q, .int (nI o), .int (nI z)])), (q, .inr (3, [.ref w])), (w, .inl (E.2.1, 1758, .inl h))] H := hP
  refine rwV1 (rest := []) S (c_X7_recorded l E xo r r2 r3 d y q2 sf rc2 (cp293 f fb) q w o z h (cUv f a1 a2) ho hz) cd_X7_recorded bw_198 ⟨Nat.le_of_ble_eq_true rfl, Nat.le_of_ble_eq_true rfl⟩ ⟨Nat.zero_le _, Nat.zero_le _⟩ hP (hDa.to rfl) hE hA hS [0, 3, 4, 5, 6, 7] rfl rfl [xo, r2, rc2, y, q, w] rfl rfl (ci := 4) rfl (q0 := 0) rfl (Nat.le_of_ble_eq_true rfl) hl.1 dX7_trim_21 (fun H locs hP _ hS => ?_)
  have hP : va_P E.1 vwCl [(xo, .inr (4, [.ref r, .ref r2, .ref r3, .ref d, .ref y, .ref q2, .int sf])), (r, .inr (2, [.ref rc])), (rc, .inl (E.2.1, 293, .inl (cUw f a1 a2))), (r2, .inr (2, [.ref rc2])), (rc2, .inl (E.2.1, 293, .inl (cp293 f fb))), (y, .inr (0, [.ref q, .int (nI (recO (cUv f a1 a2) o z)), .int (nI (recZ (cUv f a1 a2) z))])), (q, .inr (3, [.ref w])), (w, .inl (E.2.1, 1758, .inl (recH (cUv f a1 a2) (cp293 f fb) h o z)))] H := hP
  exact hret _ _ _ _ _ _ rfl rfl rfl hP hS dX7_trim_24

theorem cd_X7_lamp : cdV RX7 yX7_lamp cX7_lamp 2 (some .int) 1 := ⟨⟨bw_355, bw_2, by decide, by decide, by decide +kernel⟩, bw_353, bw_354⟩
set_option maxHeartbeats 4000000 in
set_option maxRecDepth 100000 in
theorem c_X7_lamp (l : Launch) (E : EV) (xo : Nat) (r : Nat) (r2 : Nat) (r3 : Nat) (d : Nat) (y : Nat) (q2 : Nat) (sf : Int32) (rc : Nat) (f : Nat → Int32) (rc2 : Nat) (fb : Nat → Int32) (q : Nat) (w : Nat) (o : Nat) (z : Nat) (h : Nat → Int32) (a1 : Int32) (ho : o < 6) (hz : z ≤ 6) : rcI l E yX7_lamp cX7_lamp 2 .int 7 [.ref xo, .int a1] [(xo, .inr (4, [.ref r, .ref r2, .ref r3, .ref d, .ref y, .ref q2, .int sf])), (r, .inr (2, [.ref rc])), (rc, .inl (E.2.1, 293, .inl f)), (r2, .inr (2, [.ref rc2])), (rc2, .inl (E.2.1, 293, .inl fb)), (y, .inr (0, [.ref q, .int (nI o), .int (nI z)])), (q, .inr (3, [.ref w])), (w, .inl (E.2.1, 1758, .inl h))] (cQv f a1) [(xo, .inr (4, [.ref r, .ref r2, .ref r3, .ref d, .ref y, .ref q2, .int sf])), (r, .inr (2, [.ref rc])), (rc, .inl (E.2.1, 293, .inl (cQw f a1))), (r2, .inr (2, [.ref rc2])), (rc2, .inl (E.2.1, 293, .inl (cp293 f fb))), (y, .inr (0, [.ref q, .int (nI (recO (cQv f a1) o z)), .int (nI (recZ (cQv f a1) z))])), (q, .inr (3, [.ref w])), (w, .inl (E.2.1, 1758, .inl (recH (cQv f a1) (cp293 f fb) h o z)))] := by
  refine rcI_of (by decide) (Nat.le_of_ble_eq_true rfl) ?_
  intro pg e s m below meth c Q A ls S hP hD0 hE hA hl hret
  have hx := S.1
  have hb := S.2.1
  have hown := S.2.2.2.1
  have hts := S.2.2.2.2
  have hK := hE.1
  have hS : va_S A s.heap s.heap [] := va_S.rf
  have hDa : va_Da A [xo, r, rc, r2, rc2, y, q, w] := ⟨_, hD0, rfl⟩
  have hl : lv_has ls 2 [(0, .ref xo), (1, .int a1)] := hl
  refine lv_aload_n hx hb dX7_lamp_0 rfl (lv_at hl 0 rfl) ?_
  refine va_get (D := E.1) (ci := 4) (v := .ref r2) (C := RX7) (T := TX7) (N := 7) hx hb hts inb_X7 hown hK hP 0 rfl rfl 1 (by decide) (hts _ bw_95) (fun _ h9 => h9) rfl dX7_lamp_1 ?_
  refine lv_aload_n hx hb dX7_lamp_4 rfl (lv_at hl 0 rfl) ?_
  refine va_get (D := E.1) (ci := 4) (v := .ref r) (C := RX7) (T := TX7) (N := 7) hx hb hts inb_X7 hown hK hP 0 rfl rfl 0 (by decide) (hts _ bw_94) (fun _ h9 => h9) rfl dX7_lamp_5 ?_
  refine rwVv1 (rest := []) S (c_X3_become l E r2 rc2 r rc fb f) cd_X3_become bw_151 ⟨Nat.le_of_ble_eq_true rfl, Nat.le_of_ble_eq_true rfl⟩ ⟨Nat.zero_le _, Nat.zero_le _⟩ hP (hDa.to rfl) hE hA hS [3, 4, 1, 2] rfl rfl [r2, rc2, r, rc] rfl rfl (ci := 2) rfl (q0 := 0) rfl (Nat.le_of_ble_eq_true rfl) hl.1 dX7_lamp_8 (fun H locs hP _ hS => ?_)
  have hP : va_P E.1 vwCl [(xo, .inr (4, [.ref r, .ref r2, .ref r3, .ref d, .ref y, .ref q2, .int sf])), (r, .inr (2, [.ref rc])), (rc, .inl (E.2.1, 293, .inl f)), (r2, .inr (2, [.ref rc2])), (rc2, .inl (E.2.1, 293, .inl (cp293 f fb))), (y, .inr (0, [.ref q, .int (nI o), .int (nI z)])), (q, .inr (3, [.ref w])), (w, .inl (E.2.1, 1758, .inl h))] H := hP
  refine lv_aload_n hx hb dX7_lamp_11 rfl (lv_at hl 0 rfl) ?_
  refine lv_aload_n hx hb dX7_lamp_12 rfl (lv_at hl 0 rfl) ?_
  refine va_get (D := E.1) (ci := 4) (v := .ref r) (C := RX7) (T := TX7) (N := 7) hx hb hts inb_X7 hown hK hP 0 rfl rfl 0 (by decide) (hts _ bw_94) (fun _ h9 => h9) rfl dX7_lamp_13 ?_
  refine lv_iload_n hx hb dX7_lamp_16 rfl (lv_at hl 1 rfl) ?_
  refine rwS2 (rest := [.ref xo]) S (c_X0_changeLamp l E r rc f a1) cd_X0_changeLamp bw_356 ⟨Nat.le_of_ble_eq_true rfl, Nat.le_of_ble_eq_true rfl⟩ ⟨Nat.zero_le _, Nat.zero_le _⟩ hP (hDa.to rfl) hE hA hS [1, 2] rfl rfl [r, rc] rfl rfl (Nat.le_of_ble_eq_true rfl) hl.1 dX7_lamp_17 (fun H locs hP _ hS => ?_)
  have hP : va_P E.1 vwCl [(xo, .inr (4, [.ref r, .ref r2, .ref r3, .ref d, .ref y, .ref q2, .int sf])), (r, .inr (2, [.ref rc])), (rc, .inl (E.2.1, 293, .inl (cQw f a1))), (r2, .inr (2, [.ref rc2])), (rc2, .inl (E.2.1, 293, .inl (cp293 f fb))), (y, .inr (0, [.ref q, .int (nI o), .int (nI z)])), (q, .inr (3, [.ref w])), (w, .inl (E.2.1, 1758, .inl h))] H := hP
  refine rwV1 (rest := []) S (c_X7_recorded l E xo r r2 r3 d y q2 sf rc2 (cp293 f fb) q w o z h (cQv f a1) ho hz) cd_X7_recorded bw_198 ⟨Nat.le_of_ble_eq_true rfl, Nat.le_of_ble_eq_true rfl⟩ ⟨Nat.zero_le _, Nat.zero_le _⟩ hP (hDa.to rfl) hE hA hS [0, 3, 4, 5, 6, 7] rfl rfl [xo, r2, rc2, y, q, w] rfl rfl (ci := 4) rfl (q0 := 0) rfl (Nat.le_of_ble_eq_true rfl) hl.1 dX7_lamp_20 (fun H locs hP _ hS => ?_)
  have hP : va_P E.1 vwCl [(xo, .inr (4, [.ref r, .ref r2, .ref r3, .ref d, .ref y, .ref q2, .int sf])), (r, .inr (2, [.ref rc])), (rc, .inl (E.2.1, 293, .inl (cQw f a1))), (r2, .inr (2, [.ref rc2])), (rc2, .inl (E.2.1, 293, .inl (cp293 f fb))), (y, .inr (0, [.ref q, .int (nI (recO (cQv f a1) o z)), .int (nI (recZ (cQv f a1) z))])), (q, .inr (3, [.ref w])), (w, .inl (E.2.1, 1758, .inl (recH (cQv f a1) (cp293 f fb) h o z)))] H := hP
  exact hret _ _ _ _ _ _ rfl rfl rfl hP hS dX7_lamp_23

