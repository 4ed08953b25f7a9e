/-! the reference: what can be told of its row -/
theorem cd_X8_lost : cdV RX8 yX8_lost cX8_lost 2 (some .int) 1 := ⟨⟨bw_913, bw_65, by decide, by decide, by decide +kernel⟩, bw_912, bw_34⟩
def mLo (g : Nat → Int32) (co : Nat) : Int32 := ((g (7 + co)) * (g 3)) / (nI 100)
set_option maxHeartbeats 4000000 in
set_option maxRecDepth 100000 in
theorem c_X8_lost (l : Launch) (E : EV) (xo : Nat) (st : Nat) (sp : Nat) (th : Nat) (so : Nat) (sv : Nat) (pd : Nat) (nu : Nat) (sn : Nat) (ln : Nat) (ta : Nat) (sg : Int32) (g : Nat → Int32) (co : Nat) (hco : co < 3) : rcI l E yX8_lost cX8_lost 2 .int 0 [.ref xo, .int (nI co)] [(xo, .inr (5, [.ref st, .ref sp, .ref th, .int (nI sn), .ref so, .ref sv, .ref pd, .int (nI ln), .int (nI ta), .int sg, .ref nu])), (st, .inl (E.2.1, 293, .inl g))] (mLo g co) [(xo, .inr (5, [.ref st, .ref sp, .ref th, .int (nI sn), .ref so, .ref sv, .ref pd, .int (nI ln), .int (nI ta), .int sg, .ref nu])), (st, .inl (E.2.1, 293, .inl g))] := by
  refine rcI_of (by decide) (Nat.le_of_ble_eq_true rfl) ?_
  intro pg e s m below meth c Q A ls S hP hD0 hE hA hl hret
  have hx := S.1
  have hb := S.2.1
  have hown := S.2.2.2.1
  have hts := S.2.2.2.2
  have hK := hE.1
  have hS : va_S A s.heap s.heap [] := va_S.rf
  have hDa : va_Da A [xo, st] := ⟨_, hD0, rfl⟩
  have hl : lv_has ls 2 [(0, .ref xo), (1, .int (nI co))] := hl
  refine lv_aload_n hx hb dX8_lost_0 rfl (lv_at hl 0 rfl) ?_
  refine va_get (D := E.1) (ci := 5) (v := .ref st) (C := RX8) (T := TX8) (N := 11) hx hb hts inb_X8 hown hK hP 0 rfl rfl 0 (by decide) (hts _ bw_710) (fun _ h9 => h9) rfl dX8_lost_1 ?_
  refine lv_bipush (v := nI 7) hx hb dX8_lost_4 (by decide) ?_
  refine lv_iload_n hx hb dX8_lost_6 rfl (lv_at hl 1 rfl) ?_
  refine rn_add (a := 7) (b := co) hx hb dX8_lost_7 ?_
  refine rn_iald (i := 7 + co) hx hb hK hP 1 0 rfl rfl (by omega) (by omega) dX8_lost_8 ?_
  refine lv_aload_n hx hb dX8_lost_9 rfl (lv_at hl 0 rfl) ?_
  refine va_get (D := E.1) (ci := 5) (v := .ref st) (C := RX8) (T := TX8) (N := 11) hx hb hts inb_X8 hown hK hP 0 rfl rfl 0 (by decide) (hts _ bw_710) (fun _ h9 => h9) rfl dX8_lost_10 ?_
  refine lv_iconst (v := nI 3) hx hb dX8_lost_13 (by decide) ?_
  refine rn_iald (i := 3) hx hb hK hP 1 0 rfl rfl (by omega) (by omega) dX8_lost_14 ?_
  refine lv_imul hx hb dX8_lost_15 ?_
  refine lv_bipush (v := nI 100) hx hb dX8_lost_16 (by decide) ?_
  refine lv_idiv hx hb dX8_lost_18 (by decide) ?_
  exact hret _ _ _ _ _ _ (by rw [mLo]) rfl rfl hP hS dX8_lost_19

theorem cd_X8_printed : cdV RX8 yX8_printed cX8_printed 4 (some .int) 3 := ⟨⟨bw_909, bw_65, by decide, by decide, by decide +kernel⟩, bw_908, bw_33⟩
def mPr (g : Nat → Int32) (p : Nat) (co : Nat) (li : Int32) : Int32 := mBd (nI 25 + li + (g (10 + co)) - (mLo g co) - (g (13 + 14 * p + (1 + co))))
set_option maxHeartbeats 4000000 in
set_option maxRecDepth 100000 in
theorem c_X8_printed (l : Launch) (E : EV) (xo : Nat) (st : Nat) (sp : Nat) (th : Nat) (so : Nat) (sv : Nat) (pd : Nat) (nu : Nat) (sn : Nat) (ln : Nat) (ta : Nat) (sg : Int32) (g : Nat → Int32) (p : Nat) (co : Nat) (li : Int32) (hp : p < 20) (hco : co < 3) : rcI l E yX8_printed cX8_printed 4 .int 1 [.ref xo, .int (nI p), .int (nI co), .int li] [(xo, .inr (5, [.ref st, .ref sp, .ref th, .int (nI sn), .ref so, .ref sv, .ref pd, .int (nI ln), .int (nI ta), .int sg, .ref nu])), (st, .inl (E.2.1, 293, .inl g))] (mPr g p co li) [(xo, .inr (5, [.ref st, .ref sp, .ref th, .int (nI sn), .ref so, .ref sv, .ref pd, .int (nI ln), .int (nI ta), .int sg, .ref nu])), (st, .inl (E.2.1, 293, .inl g))] := by
  refine rcI_of (by decide) (Nat.le_of_ble_eq_true rfl) ?_
  intro pg e s m below meth c Q A ls S hP hD0 hE hA hl hret
  have hx := S.1
  have hb := S.2.1
  have hown := S.2.2.2.1
  have hts := S.2.2.2.2
  have hK := hE.1
  have hS : va_S A s.heap s.heap [] := va_S.rf
  have hDa : va_Da A [xo, st] := ⟨_, hD0, rfl⟩
  have hl : lv_has ls 4 [(0, .ref xo), (1, .int (nI p)), (2, .int (nI co)), (3, .int li)] := hl
  refine lv_bipush (v := nI 25) hx hb dX8_printed_0 (by decide) ?_
  refine lv_iload_n hx hb dX8_printed_2 rfl (lv_at hl 3 rfl) ?_
  refine lv_iadd hx hb dX8_printed_3 ?_
  refine lv_aload_n hx hb dX8_printed_4 rfl (lv_at hl 0 rfl) ?_
  refine va_get (D := E.1) (ci := 5) (v := .ref st) (C := RX8) (T := TX8) (N := 11) hx hb hts inb_X8 hown hK hP 0 rfl rfl 0 (by decide) (hts _ bw_710) (fun _ h9 => h9) rfl dX8_printed_5 ?_
  refine lv_bipush (v := nI 10) hx hb dX8_printed_8 (by decide) ?_
  refine lv_iload_n hx hb dX8_printed_10 rfl (lv_at hl 2 rfl) ?_
  refine rn_add (a := 10) (b := co) hx hb dX8_printed_11 ?_
  refine rn_iald (i := 10 + co) hx hb hK hP 1 0 rfl rfl (by omega) (by omega) dX8_printed_12 ?_
  refine lv_iadd hx hb dX8_printed_13 ?_
  refine lv_aload_n hx hb dX8_printed_14 rfl (lv_at hl 0 rfl) ?_
  refine lv_iload_n hx hb dX8_printed_15 rfl (lv_at hl 2 rfl) ?_
  refine rwV1 (rest := [.int (nI 25 + li + (g (10 + co)))]) S (c_X8_lost l E xo st sp th so sv pd nu sn ln ta sg g co hco) cd_X8_lost bw_910 ⟨Nat.le_of_ble_eq_true rfl, Nat.le_of_ble_eq_true rfl⟩ ⟨Nat.zero_le _, Nat.zero_le _⟩ hP (hDa.to rfl) hE hA hS [0, 1] rfl rfl [xo, st] rfl rfl (ci := 5) rfl (q0 := 0) rfl (Nat.le_of_ble_eq_true rfl) hl.1 dX8_printed_16 (fun H locs hP _ hS => ?_)
  have hP : va_P E.1 vwCl [(xo, .inr (5, [.ref st, .ref sp, .ref th, .int (nI sn), .ref so, .ref sv, .ref pd, .int (nI ln), .int (nI ta), .int sg, .ref nu])), (st, .inl (E.2.1, 293, .inl g))] H := hP
  refine lv_isub hx hb dX8_printed_19 ?_
  refine lv_aload_n hx hb dX8_printed_20 rfl (lv_at hl 0 rfl) ?_
  refine lv_iload_n hx hb dX8_printed_21 rfl (lv_at hl 1 rfl) ?_
  refine lv_iconst (v := nI 1) hx hb dX8_printed_22 (by decide) ?_
  refine lv_iload_n hx hb dX8_printed_23 rfl (lv_at hl 2 rfl) ?_
  refine rn_add (a := 1) (b := co) hx hb dX8_printed_24 ?_
  refine rwV2 (rest := [.int (nI 25 + li + (g (10 + co)) - (mLo g co))]) S (c_X8_of14 l E xo st sp th so sv pd nu sn ln ta sg g p (1 + co) hp (by omega)) cd_X8_of14 bw_827 ⟨Nat.le_of_ble_eq_true rfl, Nat.le_of_ble_eq_true rfl⟩ ⟨Nat.zero_le _, Nat.zero_le _⟩ hP (hDa.to rfl) hE hA hS [0, 1] rfl rfl [xo, st] rfl rfl (ci := 5) rfl (q0 := 0) rfl (Nat.le_of_ble_eq_true rfl) hl.1 dX8_printed_25 (fun H locs hP _ hS => ?_)
  have hP : va_P E.1 vwCl [(xo, .inr (5, [.ref st, .ref sp, .ref th, .int (nI sn), .ref so, .ref sv, .ref pd, .int (nI ln), .int (nI ta), .int sg, .ref nu])), (st, .inl (E.2.1, 293, .inl g))] H := hP
  refine lv_isub hx hb dX8_printed_28 ?_
  refine rwS1 (rest := []) S (c_X8_bounded l E (nI 25 + li + (g (10 + co)) - (mLo g co) - (g (13 + 14 * p + (1 + co))))) cd_X8_bounded bw_914 ⟨Nat.le_of_ble_eq_true rfl, Nat.le_of_ble_eq_true rfl⟩ ⟨Nat.zero_le _, Nat.zero_le _⟩ hP (hDa.to rfl) hE hA hS [] rfl rfl [] rfl rfl (Nat.le_of_ble_eq_true rfl) hl.1 dX8_printed_29 (fun H locs hP _ hS => ?_)
  have hP : va_P E.1 vwCl [(xo, .inr (5, [.ref st, .ref sp, .ref th, .int (nI sn), .ref so, .ref sv, .ref pd, .int (nI ln), .int (nI ta), .int sg, .ref nu])), (st, .inl (E.2.1, 293, .inl g))] H := hP
  exact hret _ _ _ _ _ _ (by rw [mPr]) rfl rfl hP hS dX8_printed_32

theorem cd_X8_prints : cdV RX8 yX8_prints cX8_prints 3 (some .int) 2 := ⟨⟨bw_905, bw_65, by decide, by decide, by decide +kernel⟩, bw_904, bw_32⟩
def mPn (g : Nat → Int32) (p : Nat) (co : Nat) : Int32 := mPr g p co (g (13 + 14 * p + (7 + co)))
set_option maxHeartbeats 4000000 in
set_option maxRecDepth 100000 in
theorem c_X8_prints (l : Launch) (E : EV) (xo : Nat) (st : Nat) (sp : Nat) (th : Nat) (so : Nat) (sv : Nat) (pd : Nat) (nu : Nat) (sn : Nat) (ln : Nat) (ta : Nat) (sg : Int32) (g : Nat → Int32) (p : Nat) (co : Nat) (hp : p < 20) (hco : co < 3) : rcI l E yX8_prints cX8_prints 3 .int 2 [.ref xo, .int (nI p), .int (nI co)] [(xo, .inr (5, [.ref st, .ref sp, .ref th, .int (nI sn), .ref so, .ref sv, .ref pd, .int (nI ln), .int (nI ta), .int sg, .ref nu])), (st, .inl (E.2.1, 293, .inl g))] (mPn g p co) [(xo, .inr (5, [.ref st, .ref sp, .ref th, .int (nI sn), .ref so, .ref sv, .ref pd, .int (nI ln), .int (nI ta), .int sg, .ref nu])), (st, .inl (E.2.1, 293, .inl g))] := by
  refine rcI_of (by decide) (Nat.le_of_ble_eq_true rfl) ?_
  intro pg e s m below meth c Q A ls S hP hD0 hE hA hl hret
  have hx := S.1
  have hb := S.2.1
  have hown := S.2.2.2.1
  have hts := S.2.2.2.2
  have hK := hE.1
  have hS : va_S A s.heap s.heap [] := va_S.rf
  have hDa : va_Da A [xo, st] := ⟨_, hD0, rfl⟩
  have hl : lv_has ls 3 [(0, .ref xo), (1, .int (nI p)), (2, .int (nI co))] := hl
  refine lv_aload_n hx hb dX8_prints_0 rfl (lv_at hl 0 rfl) ?_
  refine lv_iload_n hx hb dX8_prints_1 rfl (lv_at hl 1 rfl) ?_
  refine lv_iload_n hx hb dX8_prints_2 rfl (lv_at hl 2 rfl) ?_
  refine lv_aload_n hx hb dX8_prints_3 rfl (lv_at hl 0 rfl) ?_
  refine lv_iload_n hx hb dX8_prints_4 rfl (lv_at hl 1 rfl) ?_
  refine lv_bipush (v := nI 7) hx hb dX8_prints_5 (by decide) ?_
  refine lv_iload_n hx hb dX8_prints_7 rfl (lv_at hl 2 rfl) ?_
  refine rn_add (a := 7) (b := co) hx hb dX8_prints_8 ?_
  refine rwV2 (rest := [.int (nI co), .int (nI p), .ref xo]) S (c_X8_of14 l E xo st sp th so sv pd nu sn ln ta sg g p (7 + co) hp (by omega)) cd_X8_of14 bw_827 ⟨Nat.le_of_ble_eq_true rfl, Nat.le_of_ble_eq_true rfl⟩ ⟨Nat.zero_le _, Nat.zero_le _⟩ hP (hDa.to rfl) hE hA hS [0, 1] rfl rfl [xo, st] rfl rfl (ci := 5) rfl (q0 := 0) rfl (Nat.le_of_ble_eq_true rfl) hl.1 dX8_prints_9 (fun H locs hP _ hS => ?_)
  have hP : va_P E.1 vwCl [(xo, .inr (5, [.ref st, .ref sp, .ref th, .int (nI sn), .ref so, .ref sv, .ref pd, .int (nI ln), .int (nI ta), .int sg, .ref nu])), (st, .inl (E.2.1, 293, .inl g))] H := hP
  refine rwV3 (rest := []) S (c_X8_printed l E xo st sp th so sv pd nu sn ln ta sg g p co (g (13 + 14 * p + (7 + co))) hp hco) cd_X8_printed bw_906 ⟨Nat.le_of_ble_eq_true rfl, Nat.le_of_ble_eq_true rfl⟩ ⟨Nat.zero_le _, Nat.zero_le _⟩ hP (hDa.to rfl) hE hA hS [0, 1] rfl rfl [xo, st] rfl rfl (ci := 5) rfl (q0 := 0) rfl (Nat.le_of_ble_eq_true rfl) hl.1 dX8_prints_12 (fun H locs hP _ hS => ?_)
  have hP : va_P E.1 vwCl [(xo, .inr (5, [.ref st, .ref sp, .ref th, .int (nI sn), .ref so, .ref sv, .ref pd, .int (nI ln), .int (nI ta), .int sg, .ref nu])), (st, .inl (E.2.1, 293, .inl g))] H := hP
  exact hret _ _ _ _ _ _ (by rw [mPn]) rfl rfl hP hS dX8_prints_15

theorem cd_X8_off : cdV RX8 yX8_off cX8_off 3 (some .int) 2 := ⟨⟨bw_901, bw_65, by decide, by decide, by decide +kernel⟩, bw_900, bw_31⟩
def mOn (g : Nat → Int32) (p : Nat) (co : Nat) : Int32 := mPn g p co - (nI 25) - (g (13 + 14 * p + (4 + co)))
set_option maxHeartbeats 4000000 in
set_option maxRecDepth 100000 in
theorem c_X8_off (l : Launch) (E : EV) (xo : Nat) (st : Nat) (sp : Nat) (th : Nat) (so : Nat) (sv : Nat) (pd : Nat) (nu : Nat) (sn : Nat) (ln : Nat) (ta : Nat) (sg : Int32) (g : Nat → Int32) (p : Nat) (co : Nat) (hp : p < 20) (hco : co < 3) : rcI l E yX8_off cX8_off 3 .int 3 [.ref xo, .int (nI p), .int (nI co)] [(xo, .inr (5, [.ref st, .ref sp, .ref th, .int (nI sn), .ref so, .ref sv, .ref pd, .int (nI ln), .int (nI ta), .int sg, .ref nu])), (st, .inl (E.2.1, 293, .inl g))] (mOn g p co) [(xo, .inr (5, [.ref st, .ref sp, .ref th, .int (nI sn), .ref so, .ref sv, .ref pd, .int (nI ln), .int (nI ta), .int sg, .ref nu])), (st, .inl (E.2.1, 293, .inl g))] := by
  refine rcI_of (by decide) (Nat.le_of_ble_eq_true rfl) ?_
  intro pg e s m below meth c Q A ls S hP hD0 hE hA hl hret
  have hx := S.1
  have hb := S.2.1
  have hown := S.2.2.2.1
  have hts := S.2.2.2.2
  have hK := hE.1
  have hS : va_S A s.heap s.heap [] := va_S.rf
  have hDa : va_Da A [xo, st] := ⟨_, hD0, rfl⟩
  have hl : lv_has ls 3 [(0, .ref xo), (1, .int (nI p)), (2, .int (nI co))] := hl
  refine lv_aload_n hx hb dX8_off_0 rfl (lv_at hl 0 rfl) ?_
  refine lv_iload_n hx hb dX8_off_1 rfl (lv_at hl 1 rfl) ?_
  refine lv_iload_n hx hb dX8_off_2 rfl (lv_at hl 2 rfl) ?_
  refine rwV2 (rest := []) S (c_X8_prints l E xo st sp th so sv pd nu sn ln ta sg g p co hp hco) cd_X8_prints bw_902 ⟨Nat.le_of_ble_eq_true rfl, Nat.le_of_ble_eq_true rfl⟩ ⟨Nat.zero_le _, Nat.zero_le _⟩ hP (hDa.to rfl) hE hA hS [0, 1] rfl rfl [xo, st] rfl rfl (ci := 5) rfl (q0 := 0) rfl (Nat.le_of_ble_eq_true rfl) hl.1 dX8_off_3 (fun H locs hP _ hS => ?_)
  have hP : va_P E.1 vwCl [(xo, .inr (5, [.ref st, .ref sp, .ref th, .int (nI sn), .ref so, .ref sv, .ref pd, .int (nI ln), .int (nI ta), .int sg, .ref nu])), (st, .inl (E.2.1, 293, .inl g))] H := hP
  refine lv_bipush (v := nI 25) hx hb dX8_off_6 (by decide) ?_
  refine lv_isub hx hb dX8_off_8 ?_
  refine lv_aload_n hx hb dX8_off_9 rfl (lv_at hl 0 rfl) ?_
  refine lv_iload_n hx hb dX8_off_10 rfl (lv_at hl 1 rfl) ?_
  refine lv_iconst (v := nI 4) hx hb dX8_off_11 (by decide) ?_
  refine lv_iload_n hx hb dX8_off_12 rfl (lv_at hl 2 rfl) ?_
  refine rn_add (a := 4) (b := co) hx hb dX8_off_13 ?_
  refine rwV2 (rest := [.int (mPn g p co - (nI 25))]) S (c_X8_of14 l E xo st sp th so sv pd nu sn ln ta sg g p (4 + co) hp (by omega)) cd_X8_of14 bw_827 ⟨Nat.le_of_ble_eq_true rfl, Nat.le_of_ble_eq_true rfl⟩ ⟨Nat.zero_le _, Nat.zero_le _⟩ hP (hDa.to rfl) hE hA hS [0, 1] rfl rfl [xo, st] rfl rfl (ci := 5) rfl (q0 := 0) rfl (Nat.le_of_ble_eq_true rfl) hl.1 dX8_off_14 (fun H locs hP _ hS => ?_)
  have hP : va_P E.1 vwCl [(xo, .inr (5, [.ref st, .ref sp, .ref th, .int (nI sn), .ref so, .ref sv, .ref pd, .int (nI ln), .int (nI ta), .int sg, .ref nu])), (st, .inl (E.2.1, 293, .inl g))] H := hP
  refine lv_isub hx hb dX8_off_17 ?_
  exact hret _ _ _ _ _ _ (by rw [mOn]) rfl rfl hP hS dX8_off_18

theorem cd_X8_isBad : cdV RX8 yX8_isBad cX8_isBad 4 (some .boolean) 1 := ⟨⟨bw_924, bw_65, by decide, by decide, by decide +kernel⟩, bw_923, bw_36⟩
def mBa (g : Nat → Int32) (p : Nat) : Int32 := if mAb (g (13 + 14 * p + 11)) ≤ g 1 then if mAb (g (13 + 14 * p + 12)) ≤ g 1 then if mAb (g (13 + 14 * p + 13)) ≤ g 1 then nI 0 else if g (13 + 14 * p + 10) = nI 1 then nI 1 else nI 0 else if g (13 + 14 * p + 10) = nI 1 then nI 1 else nI 0 else if g (13 + 14 * p + 10) = nI 1 then nI 1 else nI 0
theorem mBa_z (g : Nat → Int32) (p : Nat) : narrow .boolean (.int (mBa g p)) = .int (mBa g p) := by
  unfold mBa
  repeat' split
  all_goals first | decide | rfl
set_option maxHeartbeats 4000000 in
set_option maxRecDepth 100000 in
theorem c_X8_isBad (l : Launch) (E : EV) (xo : Nat) (st : Nat) (sp : Nat) (th : Nat) (so : Nat) (sv : Nat) (pd : Nat) (nu : Nat) (sn : Nat) (ln : Nat) (ta : Nat) (sg : Int32) (g : Nat → Int32) (p : Nat) (hp : p < 20) : rcI l E yX8_isBad cX8_isBad 4 .boolean 1 [.ref xo, .int (nI p)] [(xo, .inr (5, [.ref st, .ref sp, .ref th, .int (nI sn), .ref so, .ref sv, .ref pd, .int (nI ln), .int (nI ta), .int sg, .ref nu])), (st, .inl (E.2.1, 293, .inl g))] (mBa g p) [(xo, .inr (5, [.ref st, .ref sp, .ref th, .int (nI sn), .ref so, .ref sv, .ref pd, .int (nI ln), .int (nI ta), .int sg, .ref nu])), (st, .inl (E.2.1, 293, .inl g))] := by
  refine rcI_of (by decide) (Nat.le_of_ble_eq_true rfl) ?_
  intro pg e s m below meth c Q A ls S hP hD0 hE hA hl hret
  have hx := S.1
  have hb := S.2.1
  have hown := S.2.2.2.1
  have hts := S.2.2.2.2
  have hK := hE.1
  have hS : va_S A s.heap s.heap [] := va_S.rf
  have hDa : va_Da A [xo, st] := ⟨_, hD0, rfl⟩
  have hl : lv_has ls 4 [(0, .ref xo), (1, .int (nI p))] := hl
  refine lv_iconst (v := nI 0) hx hb dX8_isBad_0 (by decide) ?_
  refine lv_istore_n (lv' := [(2, .int (nI 0)), (0, .ref xo), (1, .int (nI p))]) hx hb dX8_isBad_1 rfl hl (by decide) rfl (fun ls hl => ?_)
  refine lv_iconst (v := nI 0) hx hb dX8_isBad_2 (by decide) ?_
  refine lv_istore_n (lv' := [(3, .int (nI 0)), (2, .int (nI 0)), (0, .ref xo), (1, .int (nI p))]) hx hb dX8_isBad_3 rfl hl (by decide) rfl (fun ls hl => ?_)
  refine lv_iload_n hx hb dX8_isBad_4 rfl (lv_at hl 0 rfl) ?_
  refine lv_iconst (v := nI 3) hx hb dX8_isBad_5 (by decide) ?_
  refine rn_icmp_ge (a := 0) (b := 3) (tgt := 46) hx hb (by omega) (by omega) dX8_isBad_6 (by decide) (fun c_1 => absurd c_1 (by omega)) (fun c_1 => ?_)
  refine lv_iload_n hx hb dX8_isBad_9 rfl (lv_at hl 1 rfl) ?_
  refine lv_if_ne (tgt := 34) hx hb dX8_isBad_10 (by decide) (fun c9 => by first | exact absurd c9 (by decide) | exact absurd (by decide) c9) (fun _ => ?_)
  refine lv_aload_n hx hb dX8_isBad_13 rfl (lv_at hl 2 rfl) ?_
  refine lv_iload_n hx hb dX8_isBad_14 rfl (lv_at hl 3 rfl) ?_
  refine lv_bipush (v := nI 11) hx hb dX8_isBad_15 (by decide) ?_
  refine lv_iload_n hx hb dX8_isBad_17 rfl (lv_at hl 0 rfl) ?_
  refine rn_add (a := 11) (b := 0) hx hb dX8_isBad_18 ?_
  refine rwV2 (rest := []) S (c_X8_of14 l E xo st sp th so sv pd nu sn ln ta sg g p 11 hp (by omega)) cd_X8_of14 bw_827 ⟨Nat.le_of_ble_eq_true rfl, Nat.le_of_ble_eq_true rfl⟩ ⟨Nat.zero_le _, Nat.zero_le _⟩ hP (hDa.to rfl) hE hA hS [0, 1] rfl rfl [xo, st] rfl rfl (ci := 5) rfl (q0 := 0) rfl (Nat.le_of_ble_eq_true rfl) hl.1 dX8_isBad_19 (fun H locs hP _ hS => ?_)
  have hP : va_P E.1 vwCl [(xo, .inr (5, [.ref st, .ref sp, .ref th, .int (nI sn), .ref so, .ref sv, .ref pd, .int (nI ln), .int (nI ta), .int sg, .ref nu])), (st, .inl (E.2.1, 293, .inl g))] H := hP
  refine rwS1 (rest := []) S (c_X8_sizeOf l E (g (13 + 14 * p + 11))) cd_X8_sizeOf bw_851 ⟨Nat.le_of_ble_eq_true rfl, Nat.le_of_ble_eq_true rfl⟩ ⟨Nat.zero_le _, Nat.zero_le _⟩ hP (hDa.to rfl) hE hA hS [] rfl rfl [] rfl rfl (Nat.le_of_ble_eq_true rfl) hl.1 dX8_isBad_22 (fun H locs hP _ hS => ?_)
  have hP : va_P E.1 vwCl [(xo, .inr (5, [.ref st, .ref sp, .ref th, .int (nI sn), .ref so, .ref sv, .ref pd, .int (nI ln), .int (nI ta), .int sg, .ref nu])), (st, .inl (E.2.1, 293, .inl g))] H := hP
  refine lv_aload_n hx hb dX8_isBad_25 rfl (lv_at hl 2 rfl) ?_
  refine va_get (D := E.1) (ci := 5) (v := .ref st) (C := RX8) (T := TX8) (N := 11) hx hb hts inb_X8 hown hK hP 0 rfl rfl 0 (by decide) (hts _ bw_710) (fun _ h9 => h9) rfl dX8_isBad_26 ?_
  refine lv_iconst (v := nI 1) hx hb dX8_isBad_29 (by decide) ?_
  refine rn_iald (i := 1) hx hb hK hP 1 0 rfl rfl (by omega) (by omega) dX8_isBad_30 ?_
  refine lv_icmp_le (tgt := 38) hx hb dX8_isBad_31 (by decide) (fun c_2 => ?_) (fun c_2 => ?_)
  · refine lv_iconst (v := nI 0) hx hb dX8_isBad_38 (by decide) ?_
    refine lv_istore_n (lv' := [(2, .int (nI 0)), (3, .int (nI 0)), (0, .ref xo), (1, .int (nI p))]) hx hb dX8_isBad_39 rfl hl (by decide) rfl (fun ls hl => ?_)
    refine rn_inc (a := 0) (d := 1) (lv' := [(3, .int (nI 1)), (2, .int (nI 0)), (0, .ref xo), (1, .int (nI p))]) hx hb dX8_isBad_40 hl (k := 1) rfl (by decide) (by decide) rfl (fun ls hl => ?_)
    refine lv_goto (tgt := 4) hx hb dX8_isBad_43 (by decide) ?_
    refine lv_iload_n hx hb dX8_isBad_4 rfl (lv_at hl 0 rfl) ?_
    refine lv_iconst (v := nI 3) hx hb dX8_isBad_5 (by decide) ?_
    refine rn_icmp_ge (a := 1) (b := 3) (tgt := 46) hx hb (by omega) (by omega) dX8_isBad_6 (by decide) (fun c_3 => absurd c_3 (by omega)) (fun c_3 => ?_)
    refine lv_iload_n hx hb dX8_isBad_9 rfl (lv_at hl 1 rfl) ?_
    refine lv_if_ne (tgt := 34) hx hb dX8_isBad_10 (by decide) (fun c9 => by first | exact absurd c9 (by decide) | exact absurd (by decide) c9) (fun _ => ?_)
    refine lv_aload_n hx hb dX8_isBad_13 rfl (lv_at hl 2 rfl) ?_
    refine lv_iload_n hx hb dX8_isBad_14 rfl (lv_at hl 3 rfl) ?_
    refine lv_bipush (v := nI 11) hx hb dX8_isBad_15 (by decide) ?_
    refine lv_iload_n hx hb dX8_isBad_17 rfl (lv_at hl 0 rfl) ?_
    refine rn_add (a := 11) (b := 1) hx hb dX8_isBad_18 ?_
    refine rwV2 (rest := []) S (c_X8_of14 l E xo st sp th so sv pd nu sn ln ta sg g p 12 hp (by omega)) cd_X8_of14 bw_827 ⟨Nat.le_of_ble_eq_true rfl, Nat.le_of_ble_eq_true rfl⟩ ⟨Nat.zero_le _, Nat.zero_le _⟩ hP (hDa.to rfl) hE hA hS [0, 1] rfl rfl [xo, st] rfl rfl (ci := 5) rfl (q0 := 0) rfl (Nat.le_of_ble_eq_true rfl) hl.1 dX8_isBad_19 (fun H locs hP _ hS => ?_)
    have hP : va_P E.1 vwCl [(xo, .inr (5, [.ref st, .ref sp, .ref th, .int (nI sn), .ref so, .ref sv, .ref pd, .int (nI ln), .int (nI ta), .int sg, .ref nu])), (st, .inl (E.2.1, 293, .inl g))] H := hP
    refine rwS1 (rest := []) S (c_X8_sizeOf l E (g (13 + 14 * p + 12))) cd_X8_sizeOf bw_851 ⟨Nat.le_of_ble_eq_true rfl, Nat.le_of_ble_eq_true rfl⟩ ⟨Nat.zero_le _, Nat.zero_le _⟩ hP (hDa.to rfl) hE hA hS [] rfl rfl [] rfl rfl (Nat.le_of_ble_eq_true rfl) hl.1 dX8_isBad_22 (fun H locs hP _ hS => ?_)
    have hP : va_P E.1 vwCl [(xo, .inr (5, [.ref st, .ref sp, .ref th, .int (nI sn), .ref so, .ref sv, .ref pd, .int (nI ln), .int (nI ta), .int sg, .ref nu])), (st, .inl (E.2.1, 293, .inl g))] H := hP
    refine lv_aload_n hx hb dX8_isBad_25 rfl (lv_at hl 2 rfl) ?_
    refine va_get (D := E.1) (ci := 5) (v := .ref st) (C := RX8) (T := TX8) (N := 11) hx hb hts inb_X8 hown hK hP 0 rfl rfl 0 (by decide) (hts _ bw_710) (fun _ h9 => h9) rfl dX8_isBad_26 ?_
    refine lv_iconst (v := nI 1) hx hb dX8_isBad_29 (by decide) ?_
    refine rn_iald (i := 1) hx hb hK hP 1 0 rfl rfl (by omega) (by omega) dX8_isBad_30 ?_
    refine lv_icmp_le (tgt := 38) hx hb dX8_isBad_31 (by decide) (fun c_4 => ?_) (fun c_4 => ?_)
    · refine lv_iconst (v := nI 0) hx hb dX8_isBad_38 (by decide) ?_
      refine lv_istore_n (lv' := [(2, .int (nI 0)), (3, .int (nI 1)), (0, .ref xo), (1, .int (nI p))]) hx hb dX8_isBad_39 rfl hl (by decide) rfl (fun ls hl => ?_)
      refine rn_inc (a := 1) (d := 1) (lv' := [(3, .int (nI 2)), (2, .int (nI 0)), (0, .ref xo), (1, .int (nI p))]) hx hb dX8_isBad_40 hl (k := 1) rfl (by decide) (by decide) rfl (fun ls hl => ?_)
      refine lv_goto (tgt := 4) hx hb dX8_isBad_43 (by decide) ?_
      refine lv_iload_n hx hb dX8_isBad_4 rfl (lv_at hl 0 rfl) ?_
      refine lv_iconst (v := nI 3) hx hb dX8_isBad_5 (by decide) ?_
      refine rn_icmp_ge (a := 2) (b := 3) (tgt := 46) hx hb (by omega) (by omega) dX8_isBad_6 (by decide) (fun c_5 => absurd c_5 (by omega)) (fun c_5 => ?_)
      refine lv_iload_n hx hb dX8_isBad_9 rfl (lv_at hl 1 rfl) ?_
      refine lv_if_ne (tgt := 34) hx hb dX8_isBad_10 (by decide) (fun c9 => by first | exact absurd c9 (by decide) | exact absurd (by decide) c9) (fun _ => ?_)
      refine lv_aload_n hx hb dX8_isBad_13 rfl (lv_at hl 2 rfl) ?_
      refine lv_iload_n hx hb dX8_isBad_14 rfl (lv_at hl 3 rfl) ?_
      refine lv_bipush (v := nI 11) hx hb dX8_isBad_15 (by decide) ?_
      refine lv_iload_n hx hb dX8_isBad_17 rfl (lv_at hl 0 rfl) ?_
      refine rn_add (a := 11) (b := 2) hx hb dX8_isBad_18 ?_
      refine rwV2 (rest := []) S (c_X8_of14 l E xo st sp th so sv pd nu sn ln ta sg g p 13 hp (by omega)) cd_X8_of14 bw_827 ⟨Nat.le_of_ble_eq_true rfl, Nat.le_of_ble_eq_true rfl⟩ ⟨Nat.zero_le _, Nat.zero_le _⟩ hP (hDa.to rfl) hE hA hS [0, 1] rfl rfl [xo, st] rfl rfl (ci := 5) rfl (q0 := 0) rfl (Nat.le_of_ble_eq_true rfl) hl.1 dX8_isBad_19 (fun H locs hP _ hS => ?_)
      have hP : va_P E.1 vwCl [(xo, .inr (5, [.ref st, .ref sp, .ref th, .int (nI sn), .ref so, .ref sv, .ref pd, .int (nI ln), .int (nI ta), .int sg, .ref nu])), (st, .inl (E.2.1, 293, .inl g))] H := hP
      refine rwS1 (rest := []) S (c_X8_sizeOf l E (g (13 + 14 * p + 13))) cd_X8_sizeOf bw_851 ⟨Nat.le_of_ble_eq_true rfl, Nat.le_of_ble_eq_true rfl⟩ ⟨Nat.zero_le _, Nat.zero_le _⟩ hP (hDa.to rfl) hE hA hS [] rfl rfl [] rfl rfl (Nat.le_of_ble_eq_true rfl) hl.1 dX8_isBad_22 (fun H locs hP _ hS => ?_)
      have hP : va_P E.1 vwCl [(xo, .inr (5, [.ref st, .ref sp, .ref th, .int (nI sn), .ref so, .ref sv, .ref pd, .int (nI ln), .int (nI ta), .int sg, .ref nu])), (st, .inl (E.2.1, 293, .inl g))] H := hP
      refine lv_aload_n hx hb dX8_isBad_25 rfl (lv_at hl 2 rfl) ?_
      refine va_get (D := E.1) (ci := 5) (v := .ref st) (C := RX8) (T := TX8) (N := 11) hx hb hts inb_X8 hown hK hP 0 rfl rfl 0 (by decide) (hts _ bw_710) (fun _ h9 => h9) rfl dX8_isBad_26 ?_
      refine lv_iconst (v := nI 1) hx hb dX8_isBad_29 (by decide) ?_
      refine rn_iald (i := 1) hx hb hK hP 1 0 rfl rfl (by omega) (by omega) dX8_isBad_30 ?_
      refine lv_icmp_le (tgt := 38) hx hb dX8_isBad_31 (by decide) (fun c_6 => ?_) (fun c_6 => ?_)
      · refine lv_iconst (v := nI 0) hx hb dX8_isBad_38 (by decide) ?_
        refine lv_istore_n (lv' := [(2, .int (nI 0)), (3, .int (nI 2)), (0, .ref xo), (1, .int (nI p))]) hx hb dX8_isBad_39 rfl hl (by decide) rfl (fun ls hl => ?_)
        refine rn_inc (a := 2) (d := 1) (lv' := [(3, .int (nI 3)), (2, .int (nI 0)), (0, .ref xo), (1, .int (nI p))]) hx hb dX8_isBad_40 hl (k := 1) rfl (by decide) (by decide) rfl (fun ls hl => ?_)
        refine lv_goto (tgt := 4) hx hb dX8_isBad_43 (by decide) ?_
        refine lv_iload_n hx hb dX8_isBad_4 rfl (lv_at hl 0 rfl) ?_
        refine lv_iconst (v := nI 3) hx hb dX8_isBad_5 (by decide) ?_
        refine rn_icmp_ge (a := 3) (b := 3) (tgt := 46) hx hb (by omega) (by omega) dX8_isBad_6 (by decide) (fun c_7 => ?_) (fun c_7 => absurd c_7 (by omega))
        refine lv_iload_n hx hb dX8_isBad_46 rfl (lv_at hl 1 rfl) ?_
        refine lv_if_eq (tgt := 65) hx hb dX8_isBad_47 (by decide) (fun _ => ?_) (fun c9 => by first | exact absurd (by decide) c9 | exact absurd c9 (by decide))
        refine lv_iconst (v := nI 0) hx hb dX8_isBad_65 (by decide) ?_
        exact hret _ _ _ _ _ _ (by rw [mBa, if_pos c_2, if_pos c_4, if_pos c_6]) rfl (by decide) hP hS dX8_isBad_66
      · refine lv_iconst (v := nI 1) hx hb dX8_isBad_34 (by decide) ?_
        refine lv_goto (tgt := 39) hx hb dX8_isBad_35 (by decide) ?_
        refine lv_istore_n (lv' := [(2, .int (nI 1)), (3, .int (nI 2)), (0, .ref xo), (1, .int (nI p))]) hx hb dX8_isBad_39 rfl hl (by decide) rfl (fun ls hl => ?_)
        refine rn_inc (a := 2) (d := 1) (lv' := [(3, .int (nI 3)), (2, .int (nI 1)), (0, .ref xo), (1, .int (nI p))]) hx hb dX8_isBad_40 hl (k := 1) rfl (by decide) (by decide) rfl (fun ls hl => ?_)
        refine lv_goto (tgt := 4) hx hb dX8_isBad_43 (by decide) ?_
        refine lv_iload_n hx hb dX8_isBad_4 rfl (lv_at hl 0 rfl) ?_
        refine lv_iconst (v := nI 3) hx hb dX8_isBad_5 (by decide) ?_
        refine rn_icmp_ge (a := 3) (b := 3) (tgt := 46) hx hb (by omega) (by omega) dX8_isBad_6 (by decide) (fun c_8 => ?_) (fun c_8 => absurd c_8 (by omega))
        refine lv_iload_n hx hb dX8_isBad_46 rfl (lv_at hl 1 rfl) ?_
        refine lv_if_eq (tgt := 65) hx hb dX8_isBad_47 (by decide) (fun c9 => by first | exact absurd c9 (by decide) | exact absurd (by decide) c9) (fun _ => ?_)
        refine lv_aload_n hx hb dX8_isBad_50 rfl (lv_at hl 2 rfl) ?_
        refine lv_iload_n hx hb dX8_isBad_51 rfl (lv_at hl 3 rfl) ?_
        refine lv_bipush (v := nI 10) hx hb dX8_isBad_52 (by decide) ?_
        refine rwV2 (rest := []) S (c_X8_of14 l E xo st sp th so sv pd nu sn ln ta sg g p 10 hp (by omega)) cd_X8_of14 bw_827 ⟨Nat.le_of_ble_eq_true rfl, Nat.le_of_ble_eq_true rfl⟩ ⟨Nat.zero_le _, Nat.zero_le _⟩ hP (hDa.to rfl) hE hA hS [0, 1] rfl rfl [xo, st] rfl rfl (ci := 5) rfl (q0 := 0) rfl (Nat.le_of_ble_eq_true rfl) hl.1 dX8_isBad_54 (fun H locs hP _ hS => ?_)
        have hP : va_P E.1 vwCl [(xo, .inr (5, [.ref st, .ref sp, .ref th, .int (nI sn), .ref so, .ref sv, .ref pd, .int (nI ln), .int (nI ta), .int sg, .ref nu])), (st, .inl (E.2.1, 293, .inl g))] H := hP
        refine lv_iconst (v := nI 1) hx hb dX8_isBad_57 (by decide) ?_
        refine lv_icmp_ne (tgt := 65) hx hb dX8_isBad_58 (by decide) (fun c_9 => ?_) (fun c_9 => ?_)
        · refine lv_iconst (v := nI 0) hx hb dX8_isBad_65 (by decide) ?_
          exact hret _ _ _ _ _ _ (by rw [mBa, if_pos c_2, if_pos c_4, if_neg c_6, if_neg c_9]) rfl (by decide) hP hS dX8_isBad_66
        · refine lv_iconst (v := nI 1) hx hb dX8_isBad_61 (by decide) ?_
          refine lv_goto (tgt := 66) hx hb dX8_isBad_62 (by decide) ?_
          exact hret _ _ _ _ _ _ (by rw [mBa, if_pos c_2, if_pos c_4, if_neg c_6, if_pos c_9]) rfl (by decide) hP hS dX8_isBad_66
    · refine lv_iconst (v := nI 1) hx hb dX8_isBad_34 (by decide) ?_
      refine lv_goto (tgt := 39) hx hb dX8_isBad_35 (by decide) ?_
      refine lv_istore_n (lv' := [(2, .int (nI 1)), (3, .int (nI 1)), (0, .ref xo), (1, .int (nI p))]) hx hb dX8_isBad_39 rfl hl (by decide) rfl (fun ls hl => ?_)
      refine rn_inc (a := 1) (d := 1) (lv' := [(3, .int (nI 2)), (2, .int (nI 1)), (0, .ref xo), (1, .int (nI p))]) hx hb dX8_isBad_40 hl (k := 1) rfl (by decide) (by decide) rfl (fun ls hl => ?_)
      refine lv_goto (tgt := 4) hx hb dX8_isBad_43 (by decide) ?_
      refine lv_iload_n hx hb dX8_isBad_4 rfl (lv_at hl 0 rfl) ?_
      refine lv_iconst (v := nI 3) hx hb dX8_isBad_5 (by decide) ?_
      refine rn_icmp_ge (a := 2) (b := 3) (tgt := 46) hx hb (by omega) (by omega) dX8_isBad_6 (by decide) (fun c_10 => absurd c_10 (by omega)) (fun c_10 => ?_)
      refine lv_iload_n hx hb dX8_isBad_9 rfl (lv_at hl 1 rfl) ?_
      refine lv_if_ne (tgt := 34) hx hb dX8_isBad_10 (by decide) (fun _ => ?_) (fun c9 => by first | exact absurd (by decide) c9 | exact absurd c9 (by decide))
      refine lv_iconst (v := nI 1) hx hb dX8_isBad_34 (by decide) ?_
      refine lv_goto (tgt := 39) hx hb dX8_isBad_35 (by decide) ?_
      refine lv_istore_n (lv' := [(2, .int (nI 1)), (3, .int (nI 2)), (0, .ref xo), (1, .int (nI p))]) hx hb dX8_isBad_39 rfl hl (by decide) rfl (fun ls hl => ?_)
      refine rn_inc (a := 2) (d := 1) (lv' := [(3, .int (nI 3)), (2, .int (nI 1)), (0, .ref xo), (1, .int (nI p))]) hx hb dX8_isBad_40 hl (k := 1) rfl (by decide) (by decide) rfl (fun ls hl => ?_)
      refine lv_goto (tgt := 4) hx hb dX8_isBad_43 (by decide) ?_
      refine lv_iload_n hx hb dX8_isBad_4 rfl (lv_at hl 0 rfl) ?_
      refine lv_iconst (v := nI 3) hx hb dX8_isBad_5 (by decide) ?_
      refine rn_icmp_ge (a := 3) (b := 3) (tgt := 46) hx hb (by omega) (by omega) dX8_isBad_6 (by decide) (fun c_11 => ?_) (fun c_11 => absurd c_11 (by omega))
      refine lv_iload_n hx hb dX8_isBad_46 rfl (lv_at hl 1 rfl) ?_
      refine lv_if_eq (tgt := 65) hx hb dX8_isBad_47 (by decide) (fun c9 => by first | exact absurd c9 (by decide) | exact absurd (by decide) c9) (fun _ => ?_)
      refine lv_aload_n hx hb dX8_isBad_50 rfl (lv_at hl 2 rfl) ?_
      refine lv_iload_n hx hb dX8_isBad_51 rfl (lv_at hl 3 rfl) ?_
      refine lv_bipush (v := nI 10) hx hb dX8_isBad_52 (by decide) ?_
      refine rwV2 (rest := []) S (c_X8_of14 l E xo st sp th so sv pd nu sn ln ta sg g p 10 hp (by omega)) cd_X8_of14 bw_827 ⟨Nat.le_of_ble_eq_true rfl, Nat.le_of_ble_eq_true rfl⟩ ⟨Nat.zero_le _, Nat.zero_le _⟩ hP (hDa.to rfl) hE hA hS [0, 1] rfl rfl [xo, st] rfl rfl (ci := 5) rfl (q0 := 0) rfl (Nat.le_of_ble_eq_true rfl) hl.1 dX8_isBad_54 (fun H locs hP _ hS => ?_)
      have hP : va_P E.1 vwCl [(xo, .inr (5, [.ref st, .ref sp, .ref th, .int (nI sn), .ref so, .ref sv, .ref pd, .int (nI ln), .int (nI ta), .int sg, .ref nu])), (st, .inl (E.2.1, 293, .inl g))] H := hP
      refine lv_iconst (v := nI 1) hx hb dX8_isBad_57 (by decide) ?_
      refine lv_icmp_ne (tgt := 65) hx hb dX8_isBad_58 (by decide) (fun c_12 => ?_) (fun c_12 => ?_)
      · refine lv_iconst (v := nI 0) hx hb dX8_isBad_65 (by decide) ?_
        exact hret _ _ _ _ _ _ (by rw [mBa, if_pos c_2, if_neg c_4, if_neg c_12]) rfl (by decide) hP hS dX8_isBad_66
      · refine lv_iconst (v := nI 1) hx hb dX8_isBad_61 (by decide) ?_
        refine lv_goto (tgt := 66) hx hb dX8_isBad_62 (by decide) ?_
        exact hret _ _ _ _ _ _ (by rw [mBa, if_pos c_2, if_neg c_4, if_pos c_12]) rfl (by decide) hP hS dX8_isBad_66
  · refine lv_iconst (v := nI 1) hx hb dX8_isBad_34 (by decide) ?_
    refine lv_goto (tgt := 39) hx hb dX8_isBad_35 (by decide) ?_
    refine lv_istore_n (lv' := [(2, .int (nI 1)), (3, .int (nI 0)), (0, .ref xo), (1, .int (nI p))]) hx hb dX8_isBad_39 rfl hl (by decide) rfl (fun ls hl => ?_)
    refine rn_inc (a := 0) (d := 1) (lv' := [(3, .int (nI 1)), (2, .int (nI 1)), (0, .ref xo), (1, .int (nI p))]) hx hb dX8_isBad_40 hl (k := 1) rfl (by decide) (by decide) rfl (fun ls hl => ?_)
    refine lv_goto (tgt := 4) hx hb dX8_isBad_43 (by decide) ?_
    refine lv_iload_n hx hb dX8_isBad_4 rfl (lv_at hl 0 rfl) ?_
    refine lv_iconst (v := nI 3) hx hb dX8_isBad_5 (by decide) ?_
    refine rn_icmp_ge (a := 1) (b := 3) (tgt := 46) hx hb (by omega) (by omega) dX8_isBad_6 (by decide) (fun c_13 => absurd c_13 (by omega)) (fun c_13 => ?_)
    refine lv_iload_n hx hb dX8_isBad_9 rfl (lv_at hl 1 rfl) ?_
    refine lv_if_ne (tgt := 34) hx hb dX8_isBad_10 (by decide) (fun _ => ?_) (fun c9 => by first | exact absurd (by decide) c9 | exact absurd c9 (by decide))
    refine lv_iconst (v := nI 1) hx hb dX8_isBad_34 (by decide) ?_
    refine lv_goto (tgt := 39) hx hb dX8_isBad_35 (by decide) ?_
    refine lv_istore_n (lv' := [(2, .int (nI 1)), (3, .int (nI 1)), (0, .ref xo), (1, .int (nI p))]) hx hb dX8_isBad_39 rfl hl (by decide) rfl (fun ls hl => ?_)
    refine rn_inc (a := 1) (d := 1) (lv' := [(3, .int (nI 2)), (2, .int (nI 1)), (0, .ref xo), (1, .int (nI p))]) hx hb dX8_isBad_40 hl (k := 1) rfl (by decide) (by decide) rfl (fun ls hl => ?_)
    refine lv_goto (tgt := 4) hx hb dX8_isBad_43 (by decide) ?_
    refine lv_iload_n hx hb dX8_isBad_4 rfl (lv_at hl 0 rfl) ?_
    refine lv_iconst (v := nI 3) hx hb dX8_isBad_5 (by decide) ?_
    refine rn_icmp_ge (a := 2) (b := 3) (tgt := 46) hx hb (by omega) (by omega) dX8_isBad_6 (by decide) (fun c_14 => absurd c_14 (by omega)) (fun c_14 => ?_)
    refine lv_iload_n hx hb dX8_isBad_9 rfl (lv_at hl 1 rfl) ?_
    refine lv_if_ne (tgt := 34) hx hb dX8_isBad_10 (by decide) (fun _ => ?_) (fun c9 => by first | exact absurd (by decide) c9 | exact absurd c9 (by decide))
    refine lv_iconst (v := nI 1) hx hb dX8_isBad_34 (by decide) ?_
    refine lv_goto (tgt := 39) hx hb dX8_isBad_35 (by decide) ?_
    refine lv_istore_n (lv' := [(2, .int (nI 1)), (3, .int (nI 2)), (0, .ref xo), (1, .int (nI p))]) hx hb dX8_isBad_39 rfl hl (by decide) rfl (fun ls hl => ?_)
    refine rn_inc (a := 2) (d := 1) (lv' := [(3, .int (nI 3)), (2, .int (nI 1)), (0, .ref xo), (1, .int (nI p))]) hx hb dX8_isBad_40 hl (k := 1) rfl (by decide) (by decide) rfl (fun ls hl => ?_)
    refine lv_goto (tgt := 4) hx hb dX8_isBad_43 (by decide) ?_
    refine lv_iload_n hx hb dX8_isBad_4 rfl (lv_at hl 0 rfl) ?_
    refine lv_iconst (v := nI 3) hx hb dX8_isBad_5 (by decide) ?_
    refine rn_icmp_ge (a := 3) (b := 3) (tgt := 46) hx hb (by omega) (by omega) dX8_isBad_6 (by decide) (fun c_15 => ?_) (fun c_15 => absurd c_15 (by omega))
    refine lv_iload_n hx hb dX8_isBad_46 rfl (lv_at hl 1 rfl) ?_
    refine lv_if_eq (tgt := 65) hx hb dX8_isBad_47 (by decide) (fun c9 => by first | exact absurd c9 (by decide) | exact absurd (by decide) c9) (fun _ => ?_)
    refine lv_aload_n hx hb dX8_isBad_50 rfl (lv_at hl 2 rfl) ?_
    refine lv_iload_n hx hb dX8_isBad_51 rfl (lv_at hl 3 rfl) ?_
    refine lv_bipush (v := nI 10) hx hb dX8_isBad_52 (by decide) ?_
    refine rwV2 (rest := []) S (c_X8_of14 l E xo st sp th so sv pd nu sn ln ta sg g p 10 hp (by omega)) cd_X8_of14 bw_827 ⟨Nat.le_of_ble_eq_true rfl, Nat.le_of_ble_eq_true rfl⟩ ⟨Nat.zero_le _, Nat.zero_le _⟩ hP (hDa.to rfl) hE hA hS [0, 1] rfl rfl [xo, st] rfl rfl (ci := 5) rfl (q0 := 0) rfl (Nat.le_of_ble_eq_true rfl) hl.1 dX8_isBad_54 (fun H locs hP _ hS => ?_)
    have hP : va_P E.1 vwCl [(xo, .inr (5, [.ref st, .ref sp, .ref th, .int (nI sn), .ref so, .ref sv, .ref pd, .int (nI ln), .int (nI ta), .int sg, .ref nu])), (st, .inl (E.2.1, 293, .inl g))] H := hP
    refine lv_iconst (v := nI 1) hx hb dX8_isBad_57 (by decide) ?_
    refine lv_icmp_ne (tgt := 65) hx hb dX8_isBad_58 (by decide) (fun c_16 => ?_) (fun c_16 => ?_)
    · refine lv_iconst (v := nI 0) hx hb dX8_isBad_65 (by decide) ?_
      exact hret _ _ _ _ _ _ (by rw [mBa, if_neg c_2, if_neg c_16]) rfl (by decide) hP hS dX8_isBad_66
    · refine lv_iconst (v := nI 1) hx hb dX8_isBad_61 (by decide) ?_
      refine lv_goto (tgt := 66) hx hb dX8_isBad_62 (by decide) ?_
      exact hret _ _ _ _ _ _ (by rw [mBa, if_neg c_2, if_pos c_16]) rfl (by decide) hP hS dX8_isBad_66

theorem cd_X8_isOff : cdV RX8 yX8_isOff cX8_isOff 4 (some .boolean) 1 := ⟨⟨bw_995, bw_65, by decide, by decide, by decide +kernel⟩, bw_994, bw_44⟩
def mOo (g : Nat → Int32) (p : Nat) : Int32 := if mAb (mOn g p 0) ≤ g 1 then if mAb (mOn g p 1) ≤ g 1 then if mAb (mOn g p 2) ≤ g 1 then nI 0 else nI 1 else nI 1 else nI 1
theorem mOo_z (g : Nat → Int32) (p : Nat) : narrow .boolean (.int (mOo g p)) = .int (mOo g p) := by
  unfold mOo
  repeat' split
  all_goals first | decide | rfl
set_option maxHeartbeats 4000000 in
set_option maxRecDepth 100000 in
theorem c_X8_isOff (l : Launch) (E : EV) (xo : Nat) (st : Nat) (sp : Nat) (th : Nat) (so : Nat) (sv : Nat) (pd : Nat) (nu : Nat) (sn : Nat) (ln : Nat) (ta : Nat) (sg : Int32) (g : Nat → Int32) (p : Nat) (hp : p < 20) : rcI l E yX8_isOff cX8_isOff 4 .boolean 4 [.ref xo, .int (nI p)] [(xo, .inr (5, [.ref st, .ref sp, .ref th, .int (nI sn), .ref so, .ref sv, .ref pd, .int (nI ln), .int (nI ta), .int sg, .ref nu])), (st, .inl (E.2.1, 293, .inl g))] (mOo g p) [(xo, .inr (5, [.ref st, .ref sp, .ref th, .int (nI sn), .ref so, .ref sv, .ref pd, .int (nI ln), .int (nI ta), .int sg, .ref nu])), (st, .inl (E.2.1, 293, .inl g))] := by
  refine rcI_of (by decide) (Nat.le_of_ble_eq_true rfl) ?_
  intro pg e s m below meth c Q A ls S hP hD0 hE hA hl hret
  have hx := S.1
  have hb := S.2.1
  have hown := S.2.2.2.1
  have hts := S.2.2.2.2
  have hK := hE.1
  have hS : va_S A s.heap s.heap [] := va_S.rf
  have hDa : va_Da A [xo, st] := ⟨_, hD0, rfl⟩
  have hl : lv_has ls 4 [(0, .ref xo), (1, .int (nI p))] := hl
  refine lv_iconst (v := nI 0) hx hb dX8_isOff_0 (by decide) ?_
  refine lv_istore_n (lv' := [(2, .int (nI 0)), (0, .ref xo), (1, .int (nI p))]) hx hb dX8_isOff_1 rfl hl (by decide) rfl (fun ls hl => ?_)
  refine lv_iconst (v := nI 0) hx hb dX8_isOff_2 (by decide) ?_
  refine lv_istore_n (lv' := [(3, .int (nI 0)), (2, .int (nI 0)), (0, .ref xo), (1, .int (nI p))]) hx hb dX8_isOff_3 rfl hl (by decide) rfl (fun ls hl => ?_)
  refine lv_iload_n hx hb dX8_isOff_4 rfl (lv_at hl 0 rfl) ?_
  refine lv_iconst (v := nI 3) hx hb dX8_isOff_5 (by decide) ?_
  refine rn_icmp_ge (a := 0) (b := 3) (tgt := 43) hx hb (by omega) (by omega) dX8_isOff_6 (by decide) (fun c_1 => absurd c_1 (by omega)) (fun c_1 => ?_)
  refine lv_iload_n hx hb dX8_isOff_9 rfl (lv_at hl 1 rfl) ?_
  refine lv_if_ne (tgt := 31) hx hb dX8_isOff_10 (by decide) (fun c9 => by first | exact absurd c9 (by decide) | exact absurd (by decide) c9) (fun _ => ?_)
  refine lv_aload_n hx hb dX8_isOff_13 rfl (lv_at hl 2 rfl) ?_
  refine lv_iload_n hx hb dX8_isOff_14 rfl (lv_at hl 3 rfl) ?_
  refine lv_iload_n hx hb dX8_isOff_15 rfl (lv_at hl 0 rfl) ?_
  refine rwV2 (rest := []) S (c_X8_off l E xo st sp th so sv pd nu sn ln ta sg g p 0 hp (by omega)) cd_X8_off bw_898 ⟨Nat.le_of_ble_eq_true rfl, Nat.le_of_ble_eq_true rfl⟩ ⟨Nat.zero_le _, Nat.zero_le _⟩ hP (hDa.to rfl) hE hA hS [0, 1] rfl rfl [xo, st] rfl rfl (ci := 5) rfl (q0 := 0) rfl (Nat.le_of_ble_eq_true rfl) hl.1 dX8_isOff_16 (fun H locs hP _ hS => ?_)
  have hP : va_P E.1 vwCl [(xo, .inr (5, [.ref st, .ref sp, .ref th, .int (nI sn), .ref so, .ref sv, .ref pd, .int (nI ln), .int (nI ta), .int sg, .ref nu])), (st, .inl (E.2.1, 293, .inl g))] H := hP
  refine rwS1 (rest := []) S (c_X8_sizeOf l E (mOn g p 0)) cd_X8_sizeOf bw_851 ⟨Nat.le_of_ble_eq_true rfl, Nat.le_of_ble_eq_true rfl⟩ ⟨Nat.zero_le _, Nat.zero_le _⟩ hP (hDa.to rfl) hE hA hS [] rfl rfl [] rfl rfl (Nat.le_of_ble_eq_true rfl) hl.1 dX8_isOff_19 (fun H locs hP _ hS => ?_)
  have hP : va_P E.1 vwCl [(xo, .inr (5, [.ref st, .ref sp, .ref th, .int (nI sn), .ref so, .ref sv, .ref pd, .int (nI ln), .int (nI ta), .int sg, .ref nu])), (st, .inl (E.2.1, 293, .inl g))] H := hP
  refine lv_aload_n hx hb dX8_isOff_22 rfl (lv_at hl 2 rfl) ?_
  refine va_get (D := E.1) (ci := 5) (v := .ref st) (C := RX8) (T := TX8) (N := 11) hx hb hts inb_X8 hown hK hP 0 rfl rfl 0 (by decide) (hts _ bw_710) (fun _ h9 => h9) rfl dX8_isOff_23 ?_
  refine lv_iconst (v := nI 1) hx hb dX8_isOff_26 (by decide) ?_
  refine rn_iald (i := 1) hx hb hK hP 1 0 rfl rfl (by omega) (by omega) dX8_isOff_27 ?_
  refine lv_icmp_le (tgt := 35) hx hb dX8_isOff_28 (by decide) (fun c_2 => ?_) (fun c_2 => ?_)
  · refine lv_iconst (v := nI 0) hx hb dX8_isOff_35 (by decide) ?_
    refine lv_istore_n (lv' := [(2, .int (nI 0)), (3, .int (nI 0)), (0, .ref xo), (1, .int (nI p))]) hx hb dX8_isOff_36 rfl hl (by decide) rfl (fun ls hl => ?_)
    refine rn_inc (a := 0) (d := 1) (lv' := [(3, .int (nI 1)), (2, .int (nI 0)), (0, .ref xo), (1, .int (nI p))]) hx hb dX8_isOff_37 hl (k := 1) rfl (by decide) (by decide) rfl (fun ls hl => ?_)
    refine lv_goto (tgt := 4) hx hb dX8_isOff_40 (by decide) ?_
    refine lv_iload_n hx hb dX8_isOff_4 rfl (lv_at hl 0 rfl) ?_
    refine lv_iconst (v := nI 3) hx hb dX8_isOff_5 (by decide) ?_
    refine rn_icmp_ge (a := 1) (b := 3) (tgt := 43) hx hb (by omega) (by omega) dX8_isOff_6 (by decide) (fun c_3 => absurd c_3 (by omega)) (fun c_3 => ?_)
    refine lv_iload_n hx hb dX8_isOff_9 rfl (lv_at hl 1 rfl) ?_
    refine lv_if_ne (tgt := 31) hx hb dX8_isOff_10 (by decide) (fun c9 => by first | exact absurd c9 (by decide) | exact absurd (by decide) c9) (fun _ => ?_)
    refine lv_aload_n hx hb dX8_isOff_13 rfl (lv_at hl 2 rfl) ?_
    refine lv_iload_n hx hb dX8_isOff_14 rfl (lv_at hl 3 rfl) ?_
    refine lv_iload_n hx hb dX8_isOff_15 rfl (lv_at hl 0 rfl) ?_
    refine rwV2 (rest := []) S (c_X8_off l E xo st sp th so sv pd nu sn ln ta sg g p 1 hp (by omega)) cd_X8_off bw_898 ⟨Nat.le_of_ble_eq_true rfl, Nat.le_of_ble_eq_true rfl⟩ ⟨Nat.zero_le _, Nat.zero_le _⟩ hP (hDa.to rfl) hE hA hS [0, 1] rfl rfl [xo, st] rfl rfl (ci := 5) rfl (q0 := 0) rfl (Nat.le_of_ble_eq_true rfl) hl.1 dX8_isOff_16 (fun H locs hP _ hS => ?_)
    have hP : va_P E.1 vwCl [(xo, .inr (5, [.ref st, .ref sp, .ref th, .int (nI sn), .ref so, .ref sv, .ref pd, .int (nI ln), .int (nI ta), .int sg, .ref nu])), (st, .inl (E.2.1, 293, .inl g))] H := hP
    refine rwS1 (rest := []) S (c_X8_sizeOf l E (mOn g p 1)) cd_X8_sizeOf bw_851 ⟨Nat.le_of_ble_eq_true rfl, Nat.le_of_ble_eq_true rfl⟩ ⟨Nat.zero_le _, Nat.zero_le _⟩ hP (hDa.to rfl) hE hA hS [] rfl rfl [] rfl rfl (Nat.le_of_ble_eq_true rfl) hl.1 dX8_isOff_19 (fun H locs hP _ hS => ?_)
    have hP : va_P E.1 vwCl [(xo, .inr (5, [.ref st, .ref sp, .ref th, .int (nI sn), .ref so, .ref sv, .ref pd, .int (nI ln), .int (nI ta), .int sg, .ref nu])), (st, .inl (E.2.1, 293, .inl g))] H := hP
    refine lv_aload_n hx hb dX8_isOff_22 rfl (lv_at hl 2 rfl) ?_
    refine va_get (D := E.1) (ci := 5) (v := .ref st) (C := RX8) (T := TX8) (N := 11) hx hb hts inb_X8 hown hK hP 0 rfl rfl 0 (by decide) (hts _ bw_710) (fun _ h9 => h9) rfl dX8_isOff_23 ?_
    refine lv_iconst (v := nI 1) hx hb dX8_isOff_26 (by decide) ?_
    refine rn_iald (i := 1) hx hb hK hP 1 0 rfl rfl (by omega) (by omega) dX8_isOff_27 ?_
    refine lv_icmp_le (tgt := 35) hx hb dX8_isOff_28 (by decide) (fun c_4 => ?_) (fun c_4 => ?_)
    · refine lv_iconst (v := nI 0) hx hb dX8_isOff_35 (by decide) ?_
      refine lv_istore_n (lv' := [(2, .int (nI 0)), (3, .int (nI 1)), (0, .ref xo), (1, .int (nI p))]) hx hb dX8_isOff_36 rfl hl (by decide) rfl (fun ls hl => ?_)
      refine rn_inc (a := 1) (d := 1) (lv' := [(3, .int (nI 2)), (2, .int (nI 0)), (0, .ref xo), (1, .int (nI p))]) hx hb dX8_isOff_37 hl (k := 1) rfl (by decide) (by decide) rfl (fun ls hl => ?_)
      refine lv_goto (tgt := 4) hx hb dX8_isOff_40 (by decide) ?_
      refine lv_iload_n hx hb dX8_isOff_4 rfl (lv_at hl 0 rfl) ?_
      refine lv_iconst (v := nI 3) hx hb dX8_isOff_5 (by decide) ?_
      refine rn_icmp_ge (a := 2) (b := 3) (tgt := 43) hx hb (by omega) (by omega) dX8_isOff_6 (by decide) (fun c_5 => absurd c_5 (by omega)) (fun c_5 => ?_)
      refine lv_iload_n hx hb dX8_isOff_9 rfl (lv_at hl 1 rfl) ?_
      refine lv_if_ne (tgt := 31) hx hb dX8_isOff_10 (by decide) (fun c9 => by first | exact absurd c9 (by decide) | exact absurd (by decide) c9) (fun _ => ?_)
      refine lv_aload_n hx hb dX8_isOff_13 rfl (lv_at hl 2 rfl) ?_
      refine lv_iload_n hx hb dX8_isOff_14 rfl (lv_at hl 3 rfl) ?_
      refine lv_iload_n hx hb dX8_isOff_15 rfl (lv_at hl 0 rfl) ?_
      refine rwV2 (rest := []) S (c_X8_off l E xo st sp th so sv pd nu sn ln ta sg g p 2 hp (by omega)) cd_X8_off bw_898 ⟨Nat.le_of_ble_eq_true rfl, Nat.le_of_ble_eq_true rfl⟩ ⟨Nat.zero_le _, Nat.zero_le _⟩ hP (hDa.to rfl) hE hA hS [0, 1] rfl rfl [xo, st] rfl rfl (ci := 5) rfl (q0 := 0) rfl (Nat.le_of_ble_eq_true rfl) hl.1 dX8_isOff_16 (fun H locs hP _ hS => ?_)
      have hP : va_P E.1 vwCl [(xo, .inr (5, [.ref st, .ref sp, .ref th, .int (nI sn), .ref so, .ref sv, .ref pd, .int (nI ln), .int (nI ta), .int sg, .ref nu])), (st, .inl (E.2.1, 293, .inl g))] H := hP
      refine rwS1 (rest := []) S (c_X8_sizeOf l E (mOn g p 2)) cd_X8_sizeOf bw_851 ⟨Nat.le_of_ble_eq_true rfl, Nat.le_of_ble_eq_true rfl⟩ ⟨Nat.zero_le _, Nat.zero_le _⟩ hP (hDa.to rfl) hE hA hS [] rfl rfl [] rfl rfl (Nat.le_of_ble_eq_true rfl) hl.1 dX8_isOff_19 (fun H locs hP _ hS => ?_)
      have hP : va_P E.1 vwCl [(xo, .inr (5, [.ref st, .ref sp, .ref th, .int (nI sn), .ref so, .ref sv, .ref pd, .int (nI ln), .int (nI ta), .int sg, .ref nu])), (st, .inl (E.2.1, 293, .inl g))] H := hP
      refine lv_aload_n hx hb dX8_isOff_22 rfl (lv_at hl 2 rfl) ?_
      refine va_get (D := E.1) (ci := 5) (v := .ref st) (C := RX8) (T := TX8) (N := 11) hx hb hts inb_X8 hown hK hP 0 rfl rfl 0 (by decide) (hts _ bw_710) (fun _ h9 => h9) rfl dX8_isOff_23 ?_
      refine lv_iconst (v := nI 1) hx hb dX8_isOff_26 (by decide) ?_
      refine rn_iald (i := 1) hx hb hK hP 1 0 rfl rfl (by omega) (by omega) dX8_isOff_27 ?_
      refine lv_icmp_le (tgt := 35) hx hb dX8_isOff_28 (by decide) (fun c_6 => ?_) (fun c_6 => ?_)
      · refine lv_iconst (v := nI 0) hx hb dX8_isOff_35 (by decide) ?_
        refine lv_istore_n (lv' := [(2, .int (nI 0)), (3, .int (nI 2)), (0, .ref xo), (1, .int (nI p))]) hx hb dX8_isOff_36 rfl hl (by decide) rfl (fun ls hl => ?_)
        refine rn_inc (a := 2) (d := 1) (lv' := [(3, .int (nI 3)), (2, .int (nI 0)), (0, .ref xo), (1, .int (nI p))]) hx hb dX8_isOff_37 hl (k := 1) rfl (by decide) (by decide) rfl (fun ls hl => ?_)
        refine lv_goto (tgt := 4) hx hb dX8_isOff_40 (by decide) ?_
        refine lv_iload_n hx hb dX8_isOff_4 rfl (lv_at hl 0 rfl) ?_
        refine lv_iconst (v := nI 3) hx hb dX8_isOff_5 (by decide) ?_
        refine rn_icmp_ge (a := 3) (b := 3) (tgt := 43) hx hb (by omega) (by omega) dX8_isOff_6 (by decide) (fun c_7 => ?_) (fun c_7 => absurd c_7 (by omega))
        refine lv_iload_n hx hb dX8_isOff_43 rfl (lv_at hl 1 rfl) ?_
        exact hret _ _ _ _ _ _ (by rw [mOo, if_pos c_2, if_pos c_4, if_pos c_6]) rfl (by decide) hP hS dX8_isOff_44
      · refine lv_iconst (v := nI 1) hx hb dX8_isOff_31 (by decide) ?_
        refine lv_goto (tgt := 36) hx hb dX8_isOff_32 (by decide) ?_
        refine lv_istore_n (lv' := [(2, .int (nI 1)), (3, .int (nI 2)), (0, .ref xo), (1, .int (nI p))]) hx hb dX8_isOff_36 rfl hl (by decide) rfl (fun ls hl => ?_)
        refine rn_inc (a := 2) (d := 1) (lv' := [(3, .int (nI 3)), (2, .int (nI 1)), (0, .ref xo), (1, .int (nI p))]) hx hb dX8_isOff_37 hl (k := 1) rfl (by decide) (by decide) rfl (fun ls hl => ?_)
        refine lv_goto (tgt := 4) hx hb dX8_isOff_40 (by decide) ?_
        refine lv_iload_n hx hb dX8_isOff_4 rfl (lv_at hl 0 rfl) ?_
        refine lv_iconst (v := nI 3) hx hb dX8_isOff_5 (by decide) ?_
        refine rn_icmp_ge (a := 3) (b := 3) (tgt := 43) hx hb (by omega) (by omega) dX8_isOff_6 (by decide) (fun c_8 => ?_) (fun c_8 => absurd c_8 (by omega))
        refine lv_iload_n hx hb dX8_isOff_43 rfl (lv_at hl 1 rfl) ?_
        exact hret _ _ _ _ _ _ (by rw [mOo, if_pos c_2, if_pos c_4, if_neg c_6]) rfl (by decide) hP hS dX8_isOff_44
    · refine lv_iconst (v := nI 1) hx hb dX8_isOff_31 (by decide) ?_
      refine lv_goto (tgt := 36) hx hb dX8_isOff_32 (by decide) ?_
      refine lv_istore_n (lv' := [(2, .int (nI 1)), (3, .int (nI 1)), (0, .ref xo), (1, .int (nI p))]) hx hb dX8_isOff_36 rfl hl (by decide) rfl (fun ls hl => ?_)
      refine rn_inc (a := 1) (d := 1) (lv' := [(3, .int (nI 2)), (2, .int (nI 1)), (0, .ref xo), (1, .int (nI p))]) hx hb dX8_isOff_37 hl (k := 1) rfl (by decide) (by decide) rfl (fun ls hl => ?_)
      refine lv_goto (tgt := 4) hx hb dX8_isOff_40 (by decide) ?_
      refine lv_iload_n hx hb dX8_isOff_4 rfl (lv_at hl 0 rfl) ?_
      refine lv_iconst (v := nI 3) hx hb dX8_isOff_5 (by decide) ?_
      refine rn_icmp_ge (a := 2) (b := 3) (tgt := 43) hx hb (by omega) (by omega) dX8_isOff_6 (by decide) (fun c_9 => absurd c_9 (by omega)) (fun c_9 => ?_)
      refine lv_iload_n hx hb dX8_isOff_9 rfl (lv_at hl 1 rfl) ?_
      refine lv_if_ne (tgt := 31) hx hb dX8_isOff_10 (by decide) (fun _ => ?_) (fun c9 => by first | exact absurd (by decide) c9 | exact absurd c9 (by decide))
      refine lv_iconst (v := nI 1) hx hb dX8_isOff_31 (by decide) ?_
      refine lv_goto (tgt := 36) hx hb dX8_isOff_32 (by decide) ?_
      refine lv_istore_n (lv' := [(2, .int (nI 1)), (3, .int (nI 2)), (0, .ref xo), (1, .int (nI p))]) hx hb dX8_isOff_36 rfl hl (by decide) rfl (fun ls hl => ?_)
      refine rn_inc (a := 2) (d := 1) (lv' := [(3, .int (nI 3)), (2, .int (nI 1)), (0, .ref xo), (1, .int (nI p))]) hx hb dX8_isOff_37 hl (k := 1) rfl (by decide) (by decide) rfl (fun ls hl => ?_)
      refine lv_goto (tgt := 4) hx hb dX8_isOff_40 (by decide) ?_
      refine lv_iload_n hx hb dX8_isOff_4 rfl (lv_at hl 0 rfl) ?_
      refine lv_iconst (v := nI 3) hx hb dX8_isOff_5 (by decide) ?_
      refine rn_icmp_ge (a := 3) (b := 3) (tgt := 43) hx hb (by omega) (by omega) dX8_isOff_6 (by decide) (fun c_10 => ?_) (fun c_10 => absurd c_10 (by omega))
      refine lv_iload_n hx hb dX8_isOff_43 rfl (lv_at hl 1 rfl) ?_
      exact hret _ _ _ _ _ _ (by rw [mOo, if_pos c_2, if_neg c_4]) rfl (by decide) hP hS dX8_isOff_44
  · refine lv_iconst (v := nI 1) hx hb dX8_isOff_31 (by decide) ?_
    refine lv_goto (tgt := 36) hx hb dX8_isOff_32 (by decide) ?_
    refine lv_istore_n (lv' := [(2, .int (nI 1)), (3, .int (nI 0)), (0, .ref xo), (1, .int (nI p))]) hx hb dX8_isOff_36 rfl hl (by decide) rfl (fun ls hl => ?_)
    refine rn_inc (a := 0) (d := 1) (lv' := [(3, .int (nI 1)), (2, .int (nI 1)), (0, .ref xo), (1, .int (nI p))]) hx hb dX8_isOff_37 hl (k := 1) rfl (by decide) (by decide) rfl (fun ls hl => ?_)
    refine lv_goto (tgt := 4) hx hb dX8_isOff_40 (by decide) ?_
    refine lv_iload_n hx hb dX8_isOff_4 rfl (lv_at hl 0 rfl) ?_
    refine lv_iconst (v := nI 3) hx hb dX8_isOff_5 (by decide) ?_
    refine rn_icmp_ge (a := 1) (b := 3) (tgt := 43) hx hb (by omega) (by omega) dX8_isOff_6 (by decide) (fun c_11 => absurd c_11 (by omega)) (fun c_11 => ?_)
    refine lv_iload_n hx hb dX8_isOff_9 rfl (lv_at hl 1 rfl) ?_
    refine lv_if_ne (tgt := 31) hx hb dX8_isOff_10 (by decide) (fun _ => ?_) (fun c9 => by first | exact absurd (by decide) c9 | exact absurd c9 (by decide))
    refine lv_iconst (v := nI 1) hx hb dX8_isOff_31 (by decide) ?_
    refine lv_goto (tgt := 36) hx hb dX8_isOff_32 (by decide) ?_
    refine lv_istore_n (lv' := [(2, .int (nI 1)), (3, .int (nI 1)), (0, .ref xo), (1, .int (nI p))]) hx hb dX8_isOff_36 rfl hl (by decide) rfl (fun ls hl => ?_)
    refine rn_inc (a := 1) (d := 1) (lv' := [(3, .int (nI 2)), (2, .int (nI 1)), (0, .ref xo), (1, .int (nI p))]) hx hb dX8_isOff_37 hl (k := 1) rfl (by decide) (by decide) rfl (fun ls hl => ?_)
    refine lv_goto (tgt := 4) hx hb dX8_isOff_40 (by decide) ?_
    refine lv_iload_n hx hb dX8_isOff_4 rfl (lv_at hl 0 rfl) ?_
    refine lv_iconst (v := nI 3) hx hb dX8_isOff_5 (by decide) ?_
    refine rn_icmp_ge (a := 2) (b := 3) (tgt := 43) hx hb (by omega) (by omega) dX8_isOff_6 (by decide) (fun c_12 => absurd c_12 (by omega)) (fun c_12 => ?_)
    refine lv_iload_n hx hb dX8_isOff_9 rfl (lv_at hl 1 rfl) ?_
    refine lv_if_ne (tgt := 31) hx hb dX8_isOff_10 (by decide) (fun _ => ?_) (fun c9 => by first | exact absurd (by decide) c9 | exact absurd c9 (by decide))
    refine lv_iconst (v := nI 1) hx hb dX8_isOff_31 (by decide) ?_
    refine lv_goto (tgt := 36) hx hb dX8_isOff_32 (by decide) ?_
    refine lv_istore_n (lv' := [(2, .int (nI 1)), (3, .int (nI 2)), (0, .ref xo), (1, .int (nI p))]) hx hb dX8_isOff_36 rfl hl (by decide) rfl (fun ls hl => ?_)
    refine rn_inc (a := 2) (d := 1) (lv' := [(3, .int (nI 3)), (2, .int (nI 1)), (0, .ref xo), (1, .int (nI p))]) hx hb dX8_isOff_37 hl (k := 1) rfl (by decide) (by decide) rfl (fun ls hl => ?_)
    refine lv_goto (tgt := 4) hx hb dX8_isOff_40 (by decide) ?_
    refine lv_iload_n hx hb dX8_isOff_4 rfl (lv_at hl 0 rfl) ?_
    refine lv_iconst (v := nI 3) hx hb dX8_isOff_5 (by decide) ?_
    refine rn_icmp_ge (a := 3) (b := 3) (tgt := 43) hx hb (by omega) (by omega) dX8_isOff_6 (by decide) (fun c_13 => ?_) (fun c_13 => absurd c_13 (by omega))
    refine lv_iload_n hx hb dX8_isOff_43 rfl (lv_at hl 1 rfl) ?_
    exact hret _ _ _ _ _ _ (by rw [mOo, if_neg c_2]) rfl (by decide) hP hS dX8_isOff_44

def mFt (g : Nat → Int32) : Nat → Int32
  | 0 => nI 0
  | k + 1 => mFt g k + g (13 + 14 * k + 0)
theorem cd_X8_feetTo : cdV RX8 yX8_feetTo cX8_feetTo 4 (some .int) 1 := ⟨⟨bw_893, bw_65, by decide, by decide, by decide +kernel⟩, bw_892, bw_29⟩
set_option maxHeartbeats 4000000 in
set_option maxRecDepth 100000 in
theorem c_X8_feetTo (l : Launch) (E : EV) (xo : Nat) (st : Nat) (sp : Nat) (th : Nat) (so : Nat) (sv : Nat) (pd : Nat) (nu : Nat) (sn : Nat) (ln : Nat) (ta : Nat) (sg : Int32) (g : Nat → Int32) (p : Nat) (hp : p ≤ 20) : rcI l E yX8_feetTo cX8_feetTo 4 .int 1 [.ref xo, .int (nI p)] [(xo, .inr (5, [.ref st, .ref sp, .ref th, .int (nI sn), .ref so, .ref sv, .ref pd, .int (nI ln), .int (nI ta), .int sg, .ref nu])), (st, .inl (E.2.1, 293, .inl g))] (mFt g p) [(xo, .inr (5, [.ref st, .ref sp, .ref th, .int (nI sn), .ref so, .ref sv, .ref pd, .int (nI ln), .int (nI ta), .int sg, .ref nu])), (st, .inl (E.2.1, 293, .inl g))] := by
  refine rcI_of (by decide) (Nat.le_of_ble_eq_true rfl) ?_
  intro pg e s m below meth c Q A ls S hP hD0 hE hA hl hret
  have hx := S.1
  have hb := S.2.1
  have hown := S.2.2.2.1
  have hts := S.2.2.2.2
  have hK := hE.1
  have hS : va_S A s.heap s.heap [] := va_S.rf
  have hDa : va_Da A [xo, st] := ⟨_, hD0, rfl⟩
  have hl : lv_has ls 4 [(0, .ref xo), (1, .int (nI p))] := hl
  refine lv_iconst (v := nI 0) hx hb dX8_feetTo_0 (by decide) ?_
  refine lv_istore_n (lv' := [(2, .int (nI 0)), (0, .ref xo), (1, .int (nI p))]) hx hb dX8_feetTo_1 rfl hl (by decide) rfl (fun ls hl => ?_)
  refine lv_iconst (v := nI 0) hx hb dX8_feetTo_2 (by decide) ?_
  refine lv_istore_n (lv' := [(3, .int (nI 0)), (2, .int (nI 0)), (0, .ref xo), (1, .int (nI p))]) hx hb dX8_feetTo_3 rfl hl (by decide) rfl (fun ls hl => ?_)
  have loop4 : ∀ (fuel : Nat) (k : Nat), p - k < fuel → (k ≤ p) → ∀ (H : Heap) (locs : List Loc), va_P E.1 vwCl [(xo, .inr (5, [.ref st, .ref sp, .ref th, .int (nI sn), .ref so, .ref sv, .ref pd, .int (nI ln), .int (nI ta), .int sg, .ref nu])), (st, .inl (E.2.1, 293, .inl g))] H → va_S A s.heap H locs → ∀ ls : Array Slot, lv_has ls 4 [(3, .int (nI k)), (2, .int (mFt g k)), (0, .ref xo), (1, .int (nI p))] → W pg l e (rq 1) s m ([.ref xo, .int (nI p)] : List Value).toArray below meth c H locs 0 0 Q (F0 m 4 ls []) := by
    intro fuel
    induction fuel with
    | zero => intro k h9; exact absurd h9 (Nat.not_lt_zero _)
    | succ fuel ih4 =>
      intro k hfu4 hk H locs hP hS ls hl
      refine lv_iload_n hx hb dX8_feetTo_4 rfl (lv_at hl 0 rfl) ?_
      refine lv_iload_n hx hb dX8_feetTo_5 rfl (lv_at hl 3 rfl) ?_
      refine rn_icmp_ge (a := k) (b := p) (tgt := 24) hx hb (by omega) (by omega) dX8_feetTo_6 (by decide) (fun c_1 => ?_) (fun c_1 => ?_)
      · have hex : p = k := by omega
        subst hex
        refine lv_iload_n hx hb dX8_feetTo_24 rfl (lv_at hl 1 rfl) ?_
        exact hret _ _ _ _ _ _ rfl rfl rfl hP hS dX8_feetTo_25
      · refine lv_iload_n hx hb dX8_feetTo_9 rfl (lv_at hl 1 rfl) ?_
        refine lv_aload_n hx hb dX8_feetTo_10 rfl (lv_at hl 2 rfl) ?_
        refine lv_iload_n hx hb dX8_feetTo_11 rfl (lv_at hl 0 rfl) ?_
        refine lv_iconst (v := nI 0) hx hb dX8_feetTo_12 (by decide) ?_
        refine rwV2 (rest := [.int (mFt g k)]) S (c_X8_of14 l E xo st sp th so sv pd nu sn ln ta sg g k 0 (by omega) (by omega)) cd_X8_of14 bw_827 ⟨Nat.le_of_ble_eq_true rfl, Nat.le_of_ble_eq_true rfl⟩ ⟨Nat.zero_le _, Nat.zero_le _⟩ hP (hDa.to rfl) hE hA hS [0, 1] rfl rfl [xo, st] rfl rfl (ci := 5) rfl (q0 := 0) rfl (Nat.le_of_ble_eq_true rfl) hl.1 dX8_feetTo_13 (fun H locs hP _ hS => ?_)
        have hP : va_P E.1 vwCl [(xo, .inr (5, [.ref st, .ref sp, .ref th, .int (nI sn), .ref so, .ref sv, .ref pd, .int (nI ln), .int (nI ta), .int sg, .ref nu])), (st, .inl (E.2.1, 293, .inl g))] H := hP
        refine lv_iadd hx hb dX8_feetTo_16 ?_
        refine lv_istore_n (lv' := [(2, .int (mFt g k + (g (13 + 14 * k + 0)))), (3, .int (nI k)), (0, .ref xo), (1, .int (nI p))]) hx hb dX8_feetTo_17 rfl hl (by decide) rfl (fun ls hl => ?_)
        refine rn_inc (a := k) (d := 1) (lv' := [(3, .int (nI (k + 1))), (2, .int (mFt g k + (g (13 + 14 * k + 0)))), (0, .ref xo), (1, .int (nI p))]) hx hb dX8_feetTo_18 hl (k := 1) rfl (by decide) (by decide) rfl (fun ls hl => ?_)
        refine lv_goto (tgt := 4) hx hb dX8_feetTo_21 (by decide) ?_
        have hl : lv_has ls 4 [(3, .int (nI (k + 1))), (2, .int (mFt g (k + 1))), (0, .ref xo), (1, .int (nI p))] := lv_sub hl [0, 1, 2, 3] rfl
        exact ih4 (k + 1) (by omega) (by omega) _ _ hP hS _ hl
  have hl : lv_has ls 4 [(3, .int (nI 0)), (2, .int (mFt g 0)), (0, .ref xo), (1, .int (nI p))] := lv_sub hl [0, 1, 2, 3] rfl
  exact loop4 _ 0 (Nat.lt_succ_self _) (by omega) _ _ hP hS _ hl

