/-! the reference: the changes, slots -/
theorem cd_X8_shot : cdV RX8 yX8_shot cX8_shot 6 (some .int) 5 := ⟨⟨bw_784, bw_65, by decide, by decide, by decide +kernel⟩, bw_782, bw_783⟩
set_option maxHeartbeats 4000000 in
set_option maxRecDepth 100000 in
theorem c_X8_shot (l : Launch) (E : EV) (xo : Nat) (st : Nat) (sp : Nat) (th : Nat) (so : Nat) (sv : Nat) (pd : Nat) (nu : Nat) (sn : Nat) (ln : Nat) (ta : Nat) (sg : Int32) (g : Nat → Int32) (gp : Nat → Int32) (gh : Nat → Int32) (n : Nat) (a1 : Int32) (a2 : Int32) (a3 : Int32) (a4 : Int32) (a5 : Int32) (hf : g 4 = nI n) (hn : n ≤ 20) (hsn : sn ≤ 6) : rcI l E yX8_shot cX8_shot 6 .int 6 [.ref xo, .int a1, .int a2, .int a3, .int a4, .int a5] [(xo, .inr (5, [.ref st, .ref sp, .ref th, .int (nI sn), .ref so, .ref sv, .ref pd, .int (nI ln), .int (nI ta), .int sg, .ref nu])), (st, .inl (E.2.1, 293, .inl g)), (sp, .inl (E.2.1, 293, .inl gp)), (th, .inl (E.2.1, 1758, .inl gh))] (mAv g n a1 a2 a3 a4 a5) [(xo, .inr (5, [.ref st, .ref sp, .ref th, .int (nI (rcN (mAv g n a1 a2 a3 a4 a5) sn)), .ref so, .ref sv, .ref pd, .int (nI ln), .int (nI ta), .int sg, .ref nu])), (st, .inl (E.2.1, 293, .inl (mAw g n a1 a2 a3 a4 a5))), (sp, .inl (E.2.1, 293, .inl (va_cpy g gp 0 0 293))), (th, .inl (E.2.1, 1758, .inl (rcH (mAv g n a1 a2 a3 a4 a5) sn (va_cpy g gp 0 0 293) gh)))] := by
  refine rcI_of (by decide) (Nat.le_of_ble_eq_true rfl) ?_
  intro pg e s m below meth c Q A ls S hP hD0 hE hA hl hret
  have hx := S.1
  have hb := S.2.1
  have hown := S.2.2.2.1
  have hts := S.2.2.2.2
  have hK := hE.1
  have hS : va_S A s.heap s.heap [] := va_S.rf
  have hDa : va_Da A [xo, st, sp, th] := ⟨_, hD0, rfl⟩
  have hl : lv_has ls 6 [(0, .ref xo), (1, .int a1), (2, .int a2), (3, .int a3), (4, .int a4), (5, .int a5)] := hl
  refine lv_aload_n hx hb dX8_shot_0 rfl (lv_at hl 0 rfl) ?_
  refine rwVv0 (rest := []) S (c_X8_putAside l E xo st sp th so sv pd nu sn ln ta sg g gp) cd_X8_putAside bw_762 ⟨Nat.le_of_ble_eq_true rfl, Nat.le_of_ble_eq_true rfl⟩ ⟨Nat.zero_le _, Nat.zero_le _⟩ hP (hDa.to rfl) hE hA hS [0, 1, 2] rfl rfl [xo, st, sp] rfl rfl (ci := 5) rfl (q0 := 0) rfl (Nat.le_of_ble_eq_true rfl) hl.1 dX8_shot_1 (fun H locs hP _ hS => ?_)
  have hP : va_P E.1 vwCl [(xo, .inr (5, [.ref st, .ref sp, .ref th, .int (nI sn), .ref so, .ref sv, .ref pd, .int (nI ln), .int (nI ta), .int sg, .ref nu])), (st, .inl (E.2.1, 293, .inl g)), (sp, .inl (E.2.1, 293, .inl (va_cpy g gp 0 0 293))), (th, .inl (E.2.1, 1758, .inl gh))] H := hP
  refine lv_aload_n hx hb dX8_shot_4 rfl (lv_at hl 0 rfl) ?_
  refine lv_aload_n hx hb dX8_shot_5 rfl (lv_at hl 0 rfl) ?_
  refine lv_iload_n hx hb dX8_shot_6 rfl (lv_at hl 1 rfl) ?_
  refine lv_iload_n hx hb dX8_shot_7 rfl (lv_at hl 2 rfl) ?_
  refine lv_iload_n hx hb dX8_shot_8 rfl (lv_at hl 3 rfl) ?_
  refine lv_iload hx hb dX8_shot_9 (lv_at hl 4 rfl) ?_
  refine lv_iload hx hb dX8_shot_11 (lv_at hl 5 rfl) ?_
  refine rwV5 (rest := [.ref xo]) S (c_X8_comes l E xo st sp th so sv pd nu sn ln ta sg g n a1 a2 a3 a4 a5 hf hn) cd_X8_comes bw_785 ⟨Nat.le_of_ble_eq_true rfl, Nat.le_of_ble_eq_true rfl⟩ ⟨Nat.zero_le _, Nat.zero_le _⟩ hP (hDa.to rfl) hE hA hS [0, 1] rfl rfl [xo, st] rfl rfl (ci := 5) rfl (q0 := 0) rfl (Nat.le_of_ble_eq_true rfl) hl.1 dX8_shot_13 (fun H locs hP _ hS => ?_)
  have hP : va_P E.1 vwCl [(xo, .inr (5, [.ref st, .ref sp, .ref th, .int (nI sn), .ref so, .ref sv, .ref pd, .int (nI ln), .int (nI ta), .int sg, .ref nu])), (st, .inl (E.2.1, 293, .inl (mAw g n a1 a2 a3 a4 a5))), (sp, .inl (E.2.1, 293, .inl (va_cpy g gp 0 0 293))), (th, .inl (E.2.1, 1758, .inl gh))] H := hP
  refine rwV1 (rest := []) S (c_X8_recorded l E xo st sp th so sv pd nu sn ln ta sg (va_cpy g gp 0 0 293) gh (mAv g n a1 a2 a3 a4 a5) hsn) cd_X8_recorded bw_777 ⟨Nat.le_of_ble_eq_true rfl, Nat.le_of_ble_eq_true rfl⟩ ⟨Nat.zero_le _, Nat.zero_le _⟩ hP (hDa.to rfl) hE hA hS [0, 2, 3] rfl rfl [xo, sp, th] rfl rfl (ci := 5) rfl (q0 := 0) rfl (Nat.le_of_ble_eq_true rfl) hl.1 dX8_shot_16 (fun H locs hP _ hS => ?_)
  have hP : va_P E.1 vwCl [(xo, .inr (5, [.ref st, .ref sp, .ref th, .int (nI (rcN (mAv g n a1 a2 a3 a4 a5) sn)), .ref so, .ref sv, .ref pd, .int (nI ln), .int (nI ta), .int sg, .ref nu])), (st, .inl (E.2.1, 293, .inl (mAw g n a1 a2 a3 a4 a5))), (sp, .inl (E.2.1, 293, .inl (va_cpy g gp 0 0 293))), (th, .inl (E.2.1, 1758, .inl (rcH (mAv g n a1 a2 a3 a4 a5) sn (va_cpy g gp 0 0 293) gh)))] H := hP
  exact hret _ _ _ _ _ _ rfl rfl rfl hP hS dX8_shot_19

theorem cd_X8_light : cdV RX8 yX8_light cX8_light 4 (some .int) 3 := ⟨⟨bw_819, bw_65, by decide, by decide, by decide +kernel⟩, bw_817, bw_818⟩
set_option maxHeartbeats 4000000 in
set_option maxRecDepth 100000 in
theorem c_X8_light (l : Launch) (E : EV) (xo : Nat) (st : Nat) (sp : Nat) (th : Nat) (so : Nat) (sv : Nat) (pd : Nat) (nu : Nat) (sn : Nat) (ln : Nat) (ta : Nat) (sg : Int32) (g : Nat → Int32) (gp : Nat → Int32) (gh : Nat → Int32) (n : Nat) (a1 : Int32) (a2 : Int32) (a3 : Int32) (hf : g 4 = nI n) (hn : n ≤ 20) (hsn : sn ≤ 6) : rcI l E yX8_light cX8_light 4 .int 6 [.ref xo, .int a1, .int a2, .int a3] [(xo, .inr (5, [.ref st, .ref sp, .ref th, .int (nI sn), .ref so, .ref sv, .ref pd, .int (nI ln), .int (nI ta), .int sg, .ref nu])), (st, .inl (E.2.1, 293, .inl g)), (sp, .inl (E.2.1, 293, .inl gp)), (th, .inl (E.2.1, 1758, .inl gh))] (mLv g n a1 a2 a3) [(xo, .inr (5, [.ref st, .ref sp, .ref th, .int (nI (rcN (mLv g n a1 a2 a3) sn)), .ref so, .ref sv, .ref pd, .int (nI ln), .int (nI ta), .int sg, .ref nu])), (st, .inl (E.2.1, 293, .inl (mLw g n a1 a2 a3))), (sp, .inl (E.2.1, 293, .inl (va_cpy g gp 0 0 293))), (th, .inl (E.2.1, 1758, .inl (rcH (mLv g n a1 a2 a3) sn (va_cpy g gp 0 0 293) gh)))] := by
  refine rcI_of (by decide) (Nat.le_of_ble_eq_true rfl) ?_
  intro pg e s m below meth c Q A ls S hP hD0 hE hA hl hret
  have hx := S.1
  have hb := S.2.1
  have hown := S.2.2.2.1
  have hts := S.2.2.2.2
  have hK := hE.1
  have hS : va_S A s.heap s.heap [] := va_S.rf
  have hDa : va_Da A [xo, st, sp, th] := ⟨_, hD0, rfl⟩
  have hl : lv_has ls 4 [(0, .ref xo), (1, .int a1), (2, .int a2), (3, .int a3)] := hl
  refine lv_aload_n hx hb dX8_light_0 rfl (lv_at hl 0 rfl) ?_
  refine rwVv0 (rest := []) S (c_X8_putAside l E xo st sp th so sv pd nu sn ln ta sg g gp) cd_X8_putAside bw_762 ⟨Nat.le_of_ble_eq_true rfl, Nat.le_of_ble_eq_true rfl⟩ ⟨Nat.zero_le _, Nat.zero_le _⟩ hP (hDa.to rfl) hE hA hS [0, 1, 2] rfl rfl [xo, st, sp] rfl rfl (ci := 5) rfl (q0 := 0) rfl (Nat.le_of_ble_eq_true rfl) hl.1 dX8_light_1 (fun H locs hP _ hS => ?_)
  have hP : va_P E.1 vwCl [(xo, .inr (5, [.ref st, .ref sp, .ref th, .int (nI sn), .ref so, .ref sv, .ref pd, .int (nI ln), .int (nI ta), .int sg, .ref nu])), (st, .inl (E.2.1, 293, .inl g)), (sp, .inl (E.2.1, 293, .inl (va_cpy g gp 0 0 293))), (th, .inl (E.2.1, 1758, .inl gh))] H := hP
  refine lv_aload_n hx hb dX8_light_4 rfl (lv_at hl 0 rfl) ?_
  refine lv_aload_n hx hb dX8_light_5 rfl (lv_at hl 0 rfl) ?_
  refine lv_iload_n hx hb dX8_light_6 rfl (lv_at hl 1 rfl) ?_
  refine lv_iload_n hx hb dX8_light_7 rfl (lv_at hl 2 rfl) ?_
  refine lv_iload_n hx hb dX8_light_8 rfl (lv_at hl 3 rfl) ?_
  refine rwV3 (rest := [.ref xo]) S (c_X8_lights l E xo st sp th so sv pd nu sn ln ta sg g n a1 a2 a3 hf hn) cd_X8_lights bw_820 ⟨Nat.le_of_ble_eq_true rfl, Nat.le_of_ble_eq_true rfl⟩ ⟨Nat.zero_le _, Nat.zero_le _⟩ hP (hDa.to rfl) hE hA hS [0, 1] rfl rfl [xo, st] rfl rfl (ci := 5) rfl (q0 := 0) rfl (Nat.le_of_ble_eq_true rfl) hl.1 dX8_light_9 (fun H locs hP _ hS => ?_)
  have hP : va_P E.1 vwCl [(xo, .inr (5, [.ref st, .ref sp, .ref th, .int (nI sn), .ref so, .ref sv, .ref pd, .int (nI ln), .int (nI ta), .int sg, .ref nu])), (st, .inl (E.2.1, 293, .inl (mLw g n a1 a2 a3))), (sp, .inl (E.2.1, 293, .inl (va_cpy g gp 0 0 293))), (th, .inl (E.2.1, 1758, .inl gh))] H := hP
  refine rwV1 (rest := []) S (c_X8_recorded l E xo st sp th so sv pd nu sn ln ta sg (va_cpy g gp 0 0 293) gh (mLv g n a1 a2 a3) hsn) cd_X8_recorded bw_777 ⟨Nat.le_of_ble_eq_true rfl, Nat.le_of_ble_eq_true rfl⟩ ⟨Nat.zero_le _, Nat.zero_le _⟩ hP (hDa.to rfl) hE hA hS [0, 2, 3] rfl rfl [xo, sp, th] rfl rfl (ci := 5) rfl (q0 := 0) rfl (Nat.le_of_ble_eq_true rfl) hl.1 dX8_light_12 (fun H locs hP _ hS => ?_)
  have hP : va_P E.1 vwCl [(xo, .inr (5, [.ref st, .ref sp, .ref th, .int (nI (rcN (mLv g n a1 a2 a3) sn)), .ref so, .ref sv, .ref pd, .int (nI ln), .int (nI ta), .int sg, .ref nu])), (st, .inl (E.2.1, 293, .inl (mLw g n a1 a2 a3))), (sp, .inl (E.2.1, 293, .inl (va_cpy g gp 0 0 293))), (th, .inl (E.2.1, 1758, .inl (rcH (mLv g n a1 a2 a3) sn (va_cpy g gp 0 0 293) gh)))] H := hP
  exact hret _ _ _ _ _ _ rfl rfl rfl hP hS dX8_light_15

theorem cd_X8_wish : cdV RX8 yX8_wish cX8_wish 4 (some .int) 3 := ⟨⟨bw_834, bw_65, by decide, by decide, by decide +kernel⟩, bw_832, bw_833⟩
set_option maxHeartbeats 4000000 in
set_option maxRecDepth 100000 in
theorem c_X8_wish (l : Launch) (E : EV) (xo : Nat) (st : Nat) (sp : Nat) (th : Nat) (so : Nat) (sv : Nat) (pd : Nat) (nu : Nat) (sn : Nat) (ln : Nat) (ta : Nat) (sg : Int32) (g : Nat → Int32) (gp : Nat → Int32) (gh : Nat → Int32) (n : Nat) (a1 : Int32) (a2 : Int32) (a3 : Int32) (hf : g 4 = nI n) (hn : n ≤ 20) (hsn : sn ≤ 6) : rcI l E yX8_wish cX8_wish 4 .int 6 [.ref xo, .int a1, .int a2, .int a3] [(xo, .inr (5, [.ref st, .ref sp, .ref th, .int (nI sn), .ref so, .ref sv, .ref pd, .int (nI ln), .int (nI ta), .int sg, .ref nu])), (st, .inl (E.2.1, 293, .inl g)), (sp, .inl (E.2.1, 293, .inl gp)), (th, .inl (E.2.1, 1758, .inl gh))] (mWv g n a1 a2 a3) [(xo, .inr (5, [.ref st, .ref sp, .ref th, .int (nI (rcN (mWv g n a1 a2 a3) sn)), .ref so, .ref sv, .ref pd, .int (nI ln), .int (nI ta), .int sg, .ref nu])), (st, .inl (E.2.1, 293, .inl (mWw g n a1 a2 a3))), (sp, .inl (E.2.1, 293, .inl (va_cpy g gp 0 0 293))), (th, .inl (E.2.1, 1758, .inl (rcH (mWv g n a1 a2 a3) sn (va_cpy g gp 0 0 293) gh)))] := by
  refine rcI_of (by decide) (Nat.le_of_ble_eq_true rfl) ?_
  intro pg e s m below meth c Q A ls S hP hD0 hE hA hl hret
  have hx := S.1
  have hb := S.2.1
  have hown := S.2.2.2.1
  have hts := S.2.2.2.2
  have hK := hE.1
  have hS : va_S A s.heap s.heap [] := va_S.rf
  have hDa : va_Da A [xo, st, sp, th] := ⟨_, hD0, rfl⟩
  have hl : lv_has ls 4 [(0, .ref xo), (1, .int a1), (2, .int a2), (3, .int a3)] := hl
  refine lv_aload_n hx hb dX8_wish_0 rfl (lv_at hl 0 rfl) ?_
  refine rwVv0 (rest := []) S (c_X8_putAside l E xo st sp th so sv pd nu sn ln ta sg g gp) cd_X8_putAside bw_762 ⟨Nat.le_of_ble_eq_true rfl, Nat.le_of_ble_eq_true rfl⟩ ⟨Nat.zero_le _, Nat.zero_le _⟩ hP (hDa.to rfl) hE hA hS [0, 1, 2] rfl rfl [xo, st, sp] rfl rfl (ci := 5) rfl (q0 := 0) rfl (Nat.le_of_ble_eq_true rfl) hl.1 dX8_wish_1 (fun H locs hP _ hS => ?_)
  have hP : va_P E.1 vwCl [(xo, .inr (5, [.ref st, .ref sp, .ref th, .int (nI sn), .ref so, .ref sv, .ref pd, .int (nI ln), .int (nI ta), .int sg, .ref nu])), (st, .inl (E.2.1, 293, .inl g)), (sp, .inl (E.2.1, 293, .inl (va_cpy g gp 0 0 293))), (th, .inl (E.2.1, 1758, .inl gh))] H := hP
  refine lv_aload_n hx hb dX8_wish_4 rfl (lv_at hl 0 rfl) ?_
  refine lv_aload_n hx hb dX8_wish_5 rfl (lv_at hl 0 rfl) ?_
  refine lv_iload_n hx hb dX8_wish_6 rfl (lv_at hl 1 rfl) ?_
  refine lv_iload_n hx hb dX8_wish_7 rfl (lv_at hl 2 rfl) ?_
  refine lv_iload_n hx hb dX8_wish_8 rfl (lv_at hl 3 rfl) ?_
  refine rwV3 (rest := [.ref xo]) S (c_X8_wishes l E xo st sp th so sv pd nu sn ln ta sg g n a1 a2 a3 hf hn) cd_X8_wishes bw_835 ⟨Nat.le_of_ble_eq_true rfl, Nat.le_of_ble_eq_true rfl⟩ ⟨Nat.zero_le _, Nat.zero_le _⟩ hP (hDa.to rfl) hE hA hS [0, 1] rfl rfl [xo, st] rfl rfl (ci := 5) rfl (q0 := 0) rfl (Nat.le_of_ble_eq_true rfl) hl.1 dX8_wish_9 (fun H locs hP _ hS => ?_)
  have hP : va_P E.1 vwCl [(xo, .inr (5, [.ref st, .ref sp, .ref th, .int (nI sn), .ref so, .ref sv, .ref pd, .int (nI ln), .int (nI ta), .int sg, .ref nu])), (st, .inl (E.2.1, 293, .inl (mWw g n a1 a2 a3))), (sp, .inl (E.2.1, 293, .inl (va_cpy g gp 0 0 293))), (th, .inl (E.2.1, 1758, .inl gh))] H := hP
  refine rwV1 (rest := []) S (c_X8_recorded l E xo st sp th so sv pd nu sn ln ta sg (va_cpy g gp 0 0 293) gh (mWv g n a1 a2 a3) hsn) cd_X8_recorded bw_777 ⟨Nat.le_of_ble_eq_true rfl, Nat.le_of_ble_eq_true rfl⟩ ⟨Nat.zero_le _, Nat.zero_le _⟩ hP (hDa.to rfl) hE hA hS [0, 2, 3] rfl rfl [xo, sp, th] rfl rfl (ci := 5) rfl (q0 := 0) rfl (Nat.le_of_ble_eq_true rfl) hl.1 dX8_wish_12 (fun H locs hP _ hS => ?_)
  have hP : va_P E.1 vwCl [(xo, .inr (5, [.ref st, .ref sp, .ref th, .int (nI (rcN (mWv g n a1 a2 a3) sn)), .ref so, .ref sv, .ref pd, .int (nI ln), .int (nI ta), .int sg, .ref nu])), (st, .inl (E.2.1, 293, .inl (mWw g n a1 a2 a3))), (sp, .inl (E.2.1, 293, .inl (va_cpy g gp 0 0 293))), (th, .inl (E.2.1, 1758, .inl (rcH (mWv g n a1 a2 a3) sn (va_cpy g gp 0 0 293) gh)))] H := hP
  exact hret _ _ _ _ _ _ rfl rfl rfl hP hS dX8_wish_15

theorem cd_X8_move : cdV RX8 yX8_move cX8_move 3 (some .int) 2 := ⟨⟨bw_842, bw_65, by decide, by decide, by decide +kernel⟩, bw_840, bw_841⟩
set_option maxHeartbeats 4000000 in
set_option maxRecDepth 100000 in
theorem c_X8_move (l : Launch) (E : EV) (xo : Nat) (st : Nat) (sp : Nat) (th : Nat) (so : Nat) (sv : Nat) (pd : Nat) (nu : Nat) (sn : Nat) (ln : Nat) (ta : Nat) (sg : Int32) (g : Nat → Int32) (gp : Nat → Int32) (gh : Nat → Int32) (n : Nat) (a1 : Int32) (a2 : Int32) (hf : g 4 = nI n) (hn : n ≤ 20) (hsn : sn ≤ 6) : rcI l E yX8_move cX8_move 3 .int 6 [.ref xo, .int a1, .int a2] [(xo, .inr (5, [.ref st, .ref sp, .ref th, .int (nI sn), .ref so, .ref sv, .ref pd, .int (nI ln), .int (nI ta), .int sg, .ref nu])), (st, .inl (E.2.1, 293, .inl g)), (sp, .inl (E.2.1, 293, .inl gp)), (th, .inl (E.2.1, 1758, .inl gh))] (mMv g n a1 a2) [(xo, .inr (5, [.ref st, .ref sp, .ref th, .int (nI (rcN (mMv g n a1 a2) sn)), .ref so, .ref sv, .ref pd, .int (nI ln), .int (nI ta), .int sg, .ref nu])), (st, .inl (E.2.1, 293, .inl (mMw g n a1 a2))), (sp, .inl (E.2.1, 293, .inl (va_cpy g gp 0 0 293))), (th, .inl (E.2.1, 1758, .inl (rcH (mMv g n a1 a2) sn (va_cpy g gp 0 0 293) gh)))] := by
  refine rcI_of (by decide) (Nat.le_of_ble_eq_true rfl) ?_
  intro pg e s m below meth c Q A ls S hP hD0 hE hA hl hret
  have hx := S.1
  have hb := S.2.1
  have hown := S.2.2.2.1
  have hts := S.2.2.2.2
  have hK := hE.1
  have hS : va_S A s.heap s.heap [] := va_S.rf
  have hDa : va_Da A [xo, st, sp, th] := ⟨_, hD0, rfl⟩
  have hl : lv_has ls 3 [(0, .ref xo), (1, .int a1), (2, .int a2)] := hl
  refine lv_aload_n hx hb dX8_move_0 rfl (lv_at hl 0 rfl) ?_
  refine rwVv0 (rest := []) S (c_X8_putAside l E xo st sp th so sv pd nu sn ln ta sg g gp) cd_X8_putAside bw_762 ⟨Nat.le_of_ble_eq_true rfl, Nat.le_of_ble_eq_true rfl⟩ ⟨Nat.zero_le _, Nat.zero_le _⟩ hP (hDa.to rfl) hE hA hS [0, 1, 2] rfl rfl [xo, st, sp] rfl rfl (ci := 5) rfl (q0 := 0) rfl (Nat.le_of_ble_eq_true rfl) hl.1 dX8_move_1 (fun H locs hP _ hS => ?_)
  have hP : va_P E.1 vwCl [(xo, .inr (5, [.ref st, .ref sp, .ref th, .int (nI sn), .ref so, .ref sv, .ref pd, .int (nI ln), .int (nI ta), .int sg, .ref nu])), (st, .inl (E.2.1, 293, .inl g)), (sp, .inl (E.2.1, 293, .inl (va_cpy g gp 0 0 293))), (th, .inl (E.2.1, 1758, .inl gh))] H := hP
  refine lv_aload_n hx hb dX8_move_4 rfl (lv_at hl 0 rfl) ?_
  refine lv_aload_n hx hb dX8_move_5 rfl (lv_at hl 0 rfl) ?_
  refine lv_iload_n hx hb dX8_move_6 rfl (lv_at hl 1 rfl) ?_
  refine lv_iload_n hx hb dX8_move_7 rfl (lv_at hl 2 rfl) ?_
  refine rwV2 (rest := [.ref xo]) S (c_X8_moves l E xo st sp th so sv pd nu sn ln ta sg g n a1 a2 hf hn) cd_X8_moves bw_843 ⟨Nat.le_of_ble_eq_true rfl, Nat.le_of_ble_eq_true rfl⟩ ⟨Nat.zero_le _, Nat.zero_le _⟩ hP (hDa.to rfl) hE hA hS [0, 1] rfl rfl [xo, st] rfl rfl (ci := 5) rfl (q0 := 0) rfl (Nat.le_of_ble_eq_true rfl) hl.1 dX8_move_8 (fun H locs hP _ hS => ?_)
  have hP : va_P E.1 vwCl [(xo, .inr (5, [.ref st, .ref sp, .ref th, .int (nI sn), .ref so, .ref sv, .ref pd, .int (nI ln), .int (nI ta), .int sg, .ref nu])), (st, .inl (E.2.1, 293, .inl (mMw g n a1 a2))), (sp, .inl (E.2.1, 293, .inl (va_cpy g gp 0 0 293))), (th, .inl (E.2.1, 1758, .inl gh))] H := hP
  refine rwV1 (rest := []) S (c_X8_recorded l E xo st sp th so sv pd nu sn ln ta sg (va_cpy g gp 0 0 293) gh (mMv g n a1 a2) hsn) cd_X8_recorded bw_777 ⟨Nat.le_of_ble_eq_true rfl, Nat.le_of_ble_eq_true rfl⟩ ⟨Nat.zero_le _, Nat.zero_le _⟩ hP (hDa.to rfl) hE hA hS [0, 2, 3] rfl rfl [xo, sp, th] rfl rfl (ci := 5) rfl (q0 := 0) rfl (Nat.le_of_ble_eq_true rfl) hl.1 dX8_move_11 (fun H locs hP _ hS => ?_)
  have hP : va_P E.1 vwCl [(xo, .inr (5, [.ref st, .ref sp, .ref th, .int (nI (rcN (mMv g n a1 a2) sn)), .ref so, .ref sv, .ref pd, .int (nI ln), .int (nI ta), .int sg, .ref nu])), (st, .inl (E.2.1, 293, .inl (mMw g n a1 a2))), (sp, .inl (E.2.1, 293, .inl (va_cpy g gp 0 0 293))), (th, .inl (E.2.1, 1758, .inl (rcH (mMv g n a1 a2) sn (va_cpy g gp 0 0 293) gh)))] H := hP
  exact hret _ _ _ _ _ _ rfl rfl rfl hP hS dX8_move_14

theorem cd_X8_split : cdV RX8 yX8_split cX8_split 3 (some .int) 2 := ⟨⟨bw_857, bw_65, by decide, by decide, by decide +kernel⟩, bw_855, bw_856⟩
set_option maxHeartbeats 4000000 in
set_option maxRecDepth 100000 in
theorem c_X8_split (l : Launch) (E : EV) (xo : Nat) (st : Nat) (sp : Nat) (th : Nat) (so : Nat) (sv : Nat) (pd : Nat) (nu : Nat) (sn : Nat) (ln : Nat) (ta : Nat) (sg : Int32) (g : Nat → Int32) (gp : Nat → Int32) (gh : Nat → Int32) (n : Nat) (a1 : Int32) (a2 : Int32) (hf : g 4 = nI n) (hn : n ≤ 20) (hsn : sn ≤ 6) : rcI l E yX8_split cX8_split 3 .int 6 [.ref xo, .int a1, .int a2] [(xo, .inr (5, [.ref st, .ref sp, .ref th, .int (nI sn), .ref so, .ref sv, .ref pd, .int (nI ln), .int (nI ta), .int sg, .ref nu])), (st, .inl (E.2.1, 293, .inl g)), (sp, .inl (E.2.1, 293, .inl gp)), (th, .inl (E.2.1, 1758, .inl gh))] (mPv g n a1 a2) [(xo, .inr (5, [.ref st, .ref sp, .ref th, .int (nI (rcN (mPv g n a1 a2) sn)), .ref so, .ref sv, .ref pd, .int (nI ln), .int (nI ta), .int sg, .ref nu])), (st, .inl (E.2.1, 293, .inl (mPw g n a1 a2))), (sp, .inl (E.2.1, 293, .inl (va_cpy g gp 0 0 293))), (th, .inl (E.2.1, 1758, .inl (rcH (mPv g n a1 a2) sn (va_cpy g gp 0 0 293) gh)))] := by
  refine rcI_of (by decide) (Nat.le_of_ble_eq_true rfl) ?_
  intro pg e s m below meth c Q A ls S hP hD0 hE hA hl hret
  have hx := S.1
  have hb := S.2.1
  have hown := S.2.2.2.1
  have hts := S.2.2.2.2
  have hK := hE.1
  have hS : va_S A s.heap s.heap [] := va_S.rf
  have hDa : va_Da A [xo, st, sp, th] := ⟨_, hD0, rfl⟩
  have hl : lv_has ls 3 [(0, .ref xo), (1, .int a1), (2, .int a2)] := hl
  refine lv_aload_n hx hb dX8_split_0 rfl (lv_at hl 0 rfl) ?_
  refine rwVv0 (rest := []) S (c_X8_putAside l E xo st sp th so sv pd nu sn ln ta sg g gp) cd_X8_putAside bw_762 ⟨Nat.le_of_ble_eq_true rfl, Nat.le_of_ble_eq_true rfl⟩ ⟨Nat.zero_le _, Nat.zero_le _⟩ hP (hDa.to rfl) hE hA hS [0, 1, 2] rfl rfl [xo, st, sp] rfl rfl (ci := 5) rfl (q0 := 0) rfl (Nat.le_of_ble_eq_true rfl) hl.1 dX8_split_1 (fun H locs hP _ hS => ?_)
  have hP : va_P E.1 vwCl [(xo, .inr (5, [.ref st, .ref sp, .ref th, .int (nI sn), .ref so, .ref sv, .ref pd, .int (nI ln), .int (nI ta), .int sg, .ref nu])), (st, .inl (E.2.1, 293, .inl g)), (sp, .inl (E.2.1, 293, .inl (va_cpy g gp 0 0 293))), (th, .inl (E.2.1, 1758, .inl gh))] H := hP
  refine lv_aload_n hx hb dX8_split_4 rfl (lv_at hl 0 rfl) ?_
  refine lv_aload_n hx hb dX8_split_5 rfl (lv_at hl 0 rfl) ?_
  refine lv_iload_n hx hb dX8_split_6 rfl (lv_at hl 1 rfl) ?_
  refine lv_iload_n hx hb dX8_split_7 rfl (lv_at hl 2 rfl) ?_
  refine rwV2 (rest := [.ref xo]) S (c_X8_splits l E xo st sp th so sv pd nu sn ln ta sg g n a1 a2 hf hn) cd_X8_splits bw_858 ⟨Nat.le_of_ble_eq_true rfl, Nat.le_of_ble_eq_true rfl⟩ ⟨Nat.zero_le _, Nat.zero_le _⟩ hP (hDa.to rfl) hE hA hS [0, 1] rfl rfl [xo, st] rfl rfl (ci := 5) rfl (q0 := 0) rfl (Nat.le_of_ble_eq_true rfl) hl.1 dX8_split_8 (fun H locs hP _ hS => ?_)
  have hP : va_P E.1 vwCl [(xo, .inr (5, [.ref st, .ref sp, .ref th, .int (nI sn), .ref so, .ref sv, .ref pd, .int (nI ln), .int (nI ta), .int sg, .ref nu])), (st, .inl (E.2.1, 293, .inl (mPw g n a1 a2))), (sp, .inl (E.2.1, 293, .inl (va_cpy g gp 0 0 293))), (th, .inl (E.2.1, 1758, .inl gh))] H := hP
  refine rwV1 (rest := []) S (c_X8_recorded l E xo st sp th so sv pd nu sn ln ta sg (va_cpy g gp 0 0 293) gh (mPv g n a1 a2) hsn) cd_X8_recorded bw_777 ⟨Nat.le_of_ble_eq_true rfl, Nat.le_of_ble_eq_true rfl⟩ ⟨Nat.zero_le _, Nat.zero_le _⟩ hP (hDa.to rfl) hE hA hS [0, 2, 3] rfl rfl [xo, sp, th] rfl rfl (ci := 5) rfl (q0 := 0) rfl (Nat.le_of_ble_eq_true rfl) hl.1 dX8_split_11 (fun H locs hP _ hS => ?_)
  have hP : va_P E.1 vwCl [(xo, .inr (5, [.ref st, .ref sp, .ref th, .int (nI (rcN (mPv g n a1 a2) sn)), .ref so, .ref sv, .ref pd, .int (nI ln), .int (nI ta), .int sg, .ref nu])), (st, .inl (E.2.1, 293, .inl (mPw g n a1 a2))), (sp, .inl (E.2.1, 293, .inl (va_cpy g gp 0 0 293))), (th, .inl (E.2.1, 1758, .inl (rcH (mPv g n a1 a2) sn (va_cpy g gp 0 0 293) gh)))] H := hP
  exact hret _ _ _ _ _ _ rfl rfl rfl hP hS dX8_split_14

theorem cd_X8_join : cdV RX8 yX8_join cX8_join 2 (some .int) 1 := ⟨⟨bw_865, bw_65, by decide, by decide, by decide +kernel⟩, bw_863, bw_864⟩
set_option maxHeartbeats 4000000 in
set_option maxRecDepth 100000 in
theorem c_X8_join (l : Launch) (E : EV) (xo : Nat) (st : Nat) (sp : Nat) (th : Nat) (so : Nat) (sv : Nat) (pd : Nat) (nu : Nat) (sn : Nat) (ln : Nat) (ta : Nat) (sg : Int32) (g : Nat → Int32) (gp : Nat → Int32) (gh : Nat → Int32) (n : Nat) (a1 : Int32) (hf : g 4 = nI n) (hn : n ≤ 20) (hsn : sn ≤ 6) : rcI l E yX8_join cX8_join 2 .int 6 [.ref xo, .int a1] [(xo, .inr (5, [.ref st, .ref sp, .ref th, .int (nI sn), .ref so, .ref sv, .ref pd, .int (nI ln), .int (nI ta), .int sg, .ref nu])), (st, .inl (E.2.1, 293, .inl g)), (sp, .inl (E.2.1, 293, .inl gp)), (th, .inl (E.2.1, 1758, .inl gh))] (mJv g n a1) [(xo, .inr (5, [.ref st, .ref sp, .ref th, .int (nI (rcN (mJv g n a1) sn)), .ref so, .ref sv, .ref pd, .int (nI ln), .int (nI ta), .int sg, .ref nu])), (st, .inl (E.2.1, 293, .inl (mJw g n a1))), (sp, .inl (E.2.1, 293, .inl (va_cpy g gp 0 0 293))), (th, .inl (E.2.1, 1758, .inl (rcH (mJv g n a1) sn (va_cpy g gp 0 0 293) gh)))] := by
  refine rcI_of (by decide) (Nat.le_of_ble_eq_true rfl) ?_
  intro pg e s m below meth c Q A ls S hP hD0 hE hA hl hret
  have hx := S.1
  have hb := S.2.1
  have hown := S.2.2.2.1
  have hts := S.2.2.2.2
  have hK := hE.1
  have hS : va_S A s.heap s.heap [] := va_S.rf
  have hDa : va_Da A [xo, st, sp, th] := ⟨_, hD0, rfl⟩
  have hl : lv_has ls 2 [(0, .ref xo), (1, .int a1)] := hl
  refine lv_aload_n hx hb dX8_join_0 rfl (lv_at hl 0 rfl) ?_
  refine rwVv0 (rest := []) S (c_X8_putAside l E xo st sp th so sv pd nu sn ln ta sg g gp) cd_X8_putAside bw_762 ⟨Nat.le_of_ble_eq_true rfl, Nat.le_of_ble_eq_true rfl⟩ ⟨Nat.zero_le _, Nat.zero_le _⟩ hP (hDa.to rfl) hE hA hS [0, 1, 2] rfl rfl [xo, st, sp] rfl rfl (ci := 5) rfl (q0 := 0) rfl (Nat.le_of_ble_eq_true rfl) hl.1 dX8_join_1 (fun H locs hP _ hS => ?_)
  have hP : va_P E.1 vwCl [(xo, .inr (5, [.ref st, .ref sp, .ref th, .int (nI sn), .ref so, .ref sv, .ref pd, .int (nI ln), .int (nI ta), .int sg, .ref nu])), (st, .inl (E.2.1, 293, .inl g)), (sp, .inl (E.2.1, 293, .inl (va_cpy g gp 0 0 293))), (th, .inl (E.2.1, 1758, .inl gh))] H := hP
  refine lv_aload_n hx hb dX8_join_4 rfl (lv_at hl 0 rfl) ?_
  refine lv_aload_n hx hb dX8_join_5 rfl (lv_at hl 0 rfl) ?_
  refine lv_iload_n hx hb dX8_join_6 rfl (lv_at hl 1 rfl) ?_
  refine rwV1 (rest := [.ref xo]) S (c_X8_joins l E xo st sp th so sv pd nu sn ln ta sg g n a1 hf hn) cd_X8_joins bw_866 ⟨Nat.le_of_ble_eq_true rfl, Nat.le_of_ble_eq_true rfl⟩ ⟨Nat.zero_le _, Nat.zero_le _⟩ hP (hDa.to rfl) hE hA hS [0, 1] rfl rfl [xo, st] rfl rfl (ci := 5) rfl (q0 := 0) rfl (Nat.le_of_ble_eq_true rfl) hl.1 dX8_join_7 (fun H locs hP _ hS => ?_)
  have hP : va_P E.1 vwCl [(xo, .inr (5, [.ref st, .ref sp, .ref th, .int (nI sn), .ref so, .ref sv, .ref pd, .int (nI ln), .int (nI ta), .int sg, .ref nu])), (st, .inl (E.2.1, 293, .inl (mJw g n a1))), (sp, .inl (E.2.1, 293, .inl (va_cpy g gp 0 0 293))), (th, .inl (E.2.1, 1758, .inl gh))] H := hP
  refine rwV1 (rest := []) S (c_X8_recorded l E xo st sp th so sv pd nu sn ln ta sg (va_cpy g gp 0 0 293) gh (mJv g n a1) hsn) cd_X8_recorded bw_777 ⟨Nat.le_of_ble_eq_true rfl, Nat.le_of_ble_eq_true rfl⟩ ⟨Nat.zero_le _, Nat.zero_le _⟩ hP (hDa.to rfl) hE hA hS [0, 2, 3] rfl rfl [xo, sp, th] rfl rfl (ci := 5) rfl (q0 := 0) rfl (Nat.le_of_ble_eq_true rfl) hl.1 dX8_join_10 (fun H locs hP _ hS => ?_)
  have hP : va_P E.1 vwCl [(xo, .inr (5, [.ref st, .ref sp, .ref th, .int (nI (rcN (mJv g n a1) sn)), .ref so, .ref sv, .ref pd, .int (nI ln), .int (nI ta), .int sg, .ref nu])), (st, .inl (E.2.1, 293, .inl (mJw g n a1))), (sp, .inl (E.2.1, 293, .inl (va_cpy g gp 0 0 293))), (th, .inl (E.2.1, 1758, .inl (rcH (mJv g n a1) sn (va_cpy g gp 0 0 293) gh)))] H := hP
  exact hret _ _ _ _ _ _ rfl rfl rfl hP hS dX8_join_13

theorem cd_X8_print : cdV RX8 yX8_print cX8_print 1 (some .int) 0 := ⟨⟨bw_877, bw_65, by decide, by decide, by decide +kernel⟩, bw_875, bw_876⟩
set_option maxHeartbeats 4000000 in
set_option maxRecDepth 100000 in
theorem c_X8_print (l : Launch) (E : EV) (xo : Nat) (st : Nat) (sp : Nat) (th : Nat) (so : Nat) (sv : Nat) (pd : Nat) (nu : Nat) (sn : Nat) (ln : Nat) (ta : Nat) (sg : Int32) (g : Nat → Int32) (gp : Nat → Int32) (gh : Nat → Int32) (n : Nat) (hf : g 4 = nI n) (hn : n ≤ 20) (hsn : sn ≤ 6) : rcI l E yX8_print cX8_print 1 .int 6 [.ref xo] [(xo, .inr (5, [.ref st, .ref sp, .ref th, .int (nI sn), .ref so, .ref sv, .ref pd, .int (nI ln), .int (nI ta), .int sg, .ref nu])), (st, .inl (E.2.1, 293, .inl g)), (sp, .inl (E.2.1, 293, .inl gp)), (th, .inl (E.2.1, 1758, .inl gh))] (mKv g n) [(xo, .inr (5, [.ref st, .ref sp, .ref th, .int (nI (rcN (mKv g n) sn)), .ref so, .ref sv, .ref pd, .int (nI ln), .int (nI ta), .int sg, .ref nu])), (st, .inl (E.2.1, 293, .inl (mQw g n))), (sp, .inl (E.2.1, 293, .inl (va_cpy g gp 0 0 293))), (th, .inl (E.2.1, 1758, .inl (rcH (mKv g n) sn (va_cpy g gp 0 0 293) gh)))] := by
  refine rcI_of (by decide) (Nat.le_of_ble_eq_true rfl) ?_
  intro pg e s m below meth c Q A ls S hP hD0 hE hA hl hret
  have hx := S.1
  have hb := S.2.1
  have hown := S.2.2.2.1
  have hts := S.2.2.2.2
  have hK := hE.1
  have hS : va_S A s.heap s.heap [] := va_S.rf
  have hDa : va_Da A [xo, st, sp, th] := ⟨_, hD0, rfl⟩
  have hl : lv_has ls 1 [(0, .ref xo)] := hl
  refine lv_aload_n hx hb dX8_print_0 rfl (lv_at hl 0 rfl) ?_
  refine rwVv0 (rest := []) S (c_X8_putAside l E xo st sp th so sv pd nu sn ln ta sg g gp) cd_X8_putAside bw_762 ⟨Nat.le_of_ble_eq_true rfl, Nat.le_of_ble_eq_true rfl⟩ ⟨Nat.zero_le _, Nat.zero_le _⟩ hP (hDa.to rfl) hE hA hS [0, 1, 2] rfl rfl [xo, st, sp] rfl rfl (ci := 5) rfl (q0 := 0) rfl (Nat.le_of_ble_eq_true rfl) hl.1 dX8_print_1 (fun H locs hP _ hS => ?_)
  have hP : va_P E.1 vwCl [(xo, .inr (5, [.ref st, .ref sp, .ref th, .int (nI sn), .ref so, .ref sv, .ref pd, .int (nI ln), .int (nI ta), .int sg, .ref nu])), (st, .inl (E.2.1, 293, .inl g)), (sp, .inl (E.2.1, 293, .inl (va_cpy g gp 0 0 293))), (th, .inl (E.2.1, 1758, .inl gh))] H := hP
  refine lv_aload_n hx hb dX8_print_4 rfl (lv_at hl 0 rfl) ?_
  refine lv_aload_n hx hb dX8_print_5 rfl (lv_at hl 0 rfl) ?_
  refine rwV0 (rest := [.ref xo]) S (c_X8_makesPrint l E xo st sp th so sv pd nu sn ln ta sg g n hf hn) cd_X8_makesPrint bw_878 ⟨Nat.le_of_ble_eq_true rfl, Nat.le_of_ble_eq_true rfl⟩ ⟨Nat.zero_le _, Nat.zero_le _⟩ hP (hDa.to rfl) hE hA hS [0, 1] rfl rfl [xo, st] rfl rfl (ci := 5) rfl (q0 := 0) rfl (Nat.le_of_ble_eq_true rfl) hl.1 dX8_print_6 (fun H locs hP _ hS => ?_)
  have hP : va_P E.1 vwCl [(xo, .inr (5, [.ref st, .ref sp, .ref th, .int (nI sn), .ref so, .ref sv, .ref pd, .int (nI ln), .int (nI ta), .int sg, .ref nu])), (st, .inl (E.2.1, 293, .inl (mQw g n))), (sp, .inl (E.2.1, 293, .inl (va_cpy g gp 0 0 293))), (th, .inl (E.2.1, 1758, .inl gh))] H := hP
  refine rwV1 (rest := []) S (c_X8_recorded l E xo st sp th so sv pd nu sn ln ta sg (va_cpy g gp 0 0 293) gh (mKv g n) hsn) cd_X8_recorded bw_777 ⟨Nat.le_of_ble_eq_true rfl, Nat.le_of_ble_eq_true rfl⟩ ⟨Nat.zero_le _, Nat.zero_le _⟩ hP (hDa.to rfl) hE hA hS [0, 2, 3] rfl rfl [xo, sp, th] rfl rfl (ci := 5) rfl (q0 := 0) rfl (Nat.le_of_ble_eq_true rfl) hl.1 dX8_print_9 (fun H locs hP _ hS => ?_)
  have hP : va_P E.1 vwCl [(xo, .inr (5, [.ref st, .ref sp, .ref th, .int (nI (rcN (mKv g n) sn)), .ref so, .ref sv, .ref pd, .int (nI ln), .int (nI ta), .int sg, .ref nu])), (st, .inl (E.2.1, 293, .inl (mQw g n))), (sp, .inl (E.2.1, 293, .inl (va_cpy g gp 0 0 293))), (th, .inl (E.2.1, 1758, .inl (rcH (mKv g n) sn (va_cpy g gp 0 0 293) gh)))] H := hP
  exact hret _ _ _ _ _ _ rfl rfl rfl hP hS dX8_print_12

theorem cd_X8_correct : cdV RX8 yX8_correct cX8_correct 2 (some .int) 1 := ⟨⟨bw_931, bw_65, by decide, by decide, by decide +kernel⟩, bw_929, bw_930⟩
set_option maxHeartbeats 4000000 in
set_option maxRecDepth 100000 in
theorem c_X8_correct (l : Launch) (E : EV) (xo : Nat) (st : Nat) (sp : Nat) (th : Nat) (so : Nat) (sv : Nat) (pd : Nat) (nu : Nat) (sn : Nat) (ln : Nat) (ta : Nat) (sg : Int32) (g : Nat → Int32) (gp : Nat → Int32) (gh : Nat → Int32) (n : Nat) (a1 : Int32) (hf : g 4 = nI n) (hn : n ≤ 20) (hsn : sn ≤ 6) (hst : ¬ g 0 = 0) : rcI l E yX8_correct cX8_correct 2 .int 6 [.ref xo, .int a1] [(xo, .inr (5, [.ref st, .ref sp, .ref th, .int (nI sn), .ref so, .ref sv, .ref pd, .int (nI ln), .int (nI ta), .int sg, .ref nu])), (st, .inl (E.2.1, 293, .inl g)), (sp, .inl (E.2.1, 293, .inl gp)), (th, .inl (E.2.1, 1758, .inl gh))] (mCv g n a1) [(xo, .inr (5, [.ref st, .ref sp, .ref th, .int (nI (rcN (mCv g n a1) sn)), .ref so, .ref sv, .ref pd, .int (nI ln), .int (nI ta), .int sg, .ref nu])), (st, .inl (E.2.1, 293, .inl (mCw g n a1))), (sp, .inl (E.2.1, 293, .inl (va_cpy g gp 0 0 293))), (th, .inl (E.2.1, 1758, .inl (rcH (mCv g n a1) sn (va_cpy g gp 0 0 293) gh)))] := by
  refine rcI_of (by decide) (Nat.le_of_ble_eq_true rfl) ?_
  intro pg e s m below meth c Q A ls S hP hD0 hE hA hl hret
  have hx := S.1
  have hb := S.2.1
  have hown := S.2.2.2.1
  have hts := S.2.2.2.2
  have hK := hE.1
  have hS : va_S A s.heap s.heap [] := va_S.rf
  have hDa : va_Da A [xo, st, sp, th] := ⟨_, hD0, rfl⟩
  have hl : lv_has ls 2 [(0, .ref xo), (1, .int a1)] := hl
  refine lv_aload_n hx hb dX8_correct_0 rfl (lv_at hl 0 rfl) ?_
  refine rwVv0 (rest := []) S (c_X8_putAside l E xo st sp th so sv pd nu sn ln ta sg g gp) cd_X8_putAside bw_762 ⟨Nat.le_of_ble_eq_true rfl, Nat.le_of_ble_eq_true rfl⟩ ⟨Nat.zero_le _, Nat.zero_le _⟩ hP (hDa.to rfl) hE hA hS [0, 1, 2] rfl rfl [xo, st, sp] rfl rfl (ci := 5) rfl (q0 := 0) rfl (Nat.le_of_ble_eq_true rfl) hl.1 dX8_correct_1 (fun H locs hP _ hS => ?_)
  have hP : va_P E.1 vwCl [(xo, .inr (5, [.ref st, .ref sp, .ref th, .int (nI sn), .ref so, .ref sv, .ref pd, .int (nI ln), .int (nI ta), .int sg, .ref nu])), (st, .inl (E.2.1, 293, .inl g)), (sp, .inl (E.2.1, 293, .inl (va_cpy g gp 0 0 293))), (th, .inl (E.2.1, 1758, .inl gh))] H := hP
  refine lv_aload_n hx hb dX8_correct_4 rfl (lv_at hl 0 rfl) ?_
  refine lv_aload_n hx hb dX8_correct_5 rfl (lv_at hl 0 rfl) ?_
  refine lv_iload_n hx hb dX8_correct_6 rfl (lv_at hl 1 rfl) ?_
  refine rwV1 (rest := [.ref xo]) S (c_X8_corrects l E xo st sp th so sv pd nu sn ln ta sg g n a1 hf hn hst) cd_X8_corrects bw_932 ⟨Nat.le_of_ble_eq_true rfl, Nat.le_of_ble_eq_true rfl⟩ ⟨Nat.zero_le _, Nat.zero_le _⟩ hP (hDa.to rfl) hE hA hS [0, 1] rfl rfl [xo, st] rfl rfl (ci := 5) rfl (q0 := 0) rfl (Nat.le_of_ble_eq_true rfl) hl.1 dX8_correct_7 (fun H locs hP _ hS => ?_)
  have hP : va_P E.1 vwCl [(xo, .inr (5, [.ref st, .ref sp, .ref th, .int (nI sn), .ref so, .ref sv, .ref pd, .int (nI ln), .int (nI ta), .int sg, .ref nu])), (st, .inl (E.2.1, 293, .inl (mCw g n a1))), (sp, .inl (E.2.1, 293, .inl (va_cpy g gp 0 0 293))), (th, .inl (E.2.1, 1758, .inl gh))] H := hP
  refine rwV1 (rest := []) S (c_X8_recorded l E xo st sp th so sv pd nu sn ln ta sg (va_cpy g gp 0 0 293) gh (mCv g n a1) hsn) cd_X8_recorded bw_777 ⟨Nat.le_of_ble_eq_true rfl, Nat.le_of_ble_eq_true rfl⟩ ⟨Nat.zero_le _, Nat.zero_le _⟩ hP (hDa.to rfl) hE hA hS [0, 2, 3] rfl rfl [xo, sp, th] rfl rfl (ci := 5) rfl (q0 := 0) rfl (Nat.le_of_ble_eq_true rfl) hl.1 dX8_correct_10 (fun H locs hP _ hS => ?_)
  have hP : va_P E.1 vwCl [(xo, .inr (5, [.ref st, .ref sp, .ref th, .int (nI (rcN (mCv g n a1) sn)), .ref so, .ref sv, .ref pd, .int (nI ln), .int (nI ta), .int sg, .ref nu])), (st, .inl (E.2.1, 293, .inl (mCw g n a1))), (sp, .inl (E.2.1, 293, .inl (va_cpy g gp 0 0 293))), (th, .inl (E.2.1, 1758, .inl (rcH (mCv g n a1) sn (va_cpy g gp 0 0 293) gh)))] H := hP
  exact hret _ _ _ _ _ _ rfl rfl rfl hP hS dX8_correct_13

theorem cd_X8_correctAll : cdV RX8 yX8_correctAll cX8_correctAll 1 (some .int) 0 := ⟨⟨bw_943, bw_65, by decide, by decide, by decide +kernel⟩, bw_941, bw_942⟩
set_option maxHeartbeats 4000000 in
set_option maxRecDepth 100000 in
theorem c_X8_correctAll (l : Launch) (E : EV) (xo : Nat) (st : Nat) (sp : Nat) (th : Nat) (so : Nat) (sv : Nat) (pd : Nat) (nu : Nat) (sn : Nat) (ln : Nat) (ta : Nat) (sg : Int32) (g : Nat → Int32) (gp : Nat → Int32) (gh : Nat → Int32) (n : Nat) (hf : g 4 = nI n) (hn : n ≤ 20) (hsn : sn ≤ 6) (hst : ¬ g 0 = 0) : rcI l E yX8_correctAll cX8_correctAll 1 .int 6 [.ref xo] [(xo, .inr (5, [.ref st, .ref sp, .ref th, .int (nI sn), .ref so, .ref sv, .ref pd, .int (nI ln), .int (nI ta), .int sg, .ref nu])), (st, .inl (E.2.1, 293, .inl g)), (sp, .inl (E.2.1, 293, .inl gp)), (th, .inl (E.2.1, 1758, .inl gh))] (mZv g n) [(xo, .inr (5, [.ref st, .ref sp, .ref th, .int (nI (rcN (mZv g n) sn)), .ref so, .ref sv, .ref pd, .int (nI ln), .int (nI ta), .int sg, .ref nu])), (st, .inl (E.2.1, 293, .inl (mZw g n))), (sp, .inl (E.2.1, 293, .inl (va_cpy g gp 0 0 293))), (th, .inl (E.2.1, 1758, .inl (rcH (mZv g n) sn (va_cpy g gp 0 0 293) gh)))] := by
  refine rcI_of (by decide) (Nat.le_of_ble_eq_true rfl) ?_
  intro pg e s m below meth c Q A ls S hP hD0 hE hA hl hret
  have hx := S.1
  have hb := S.2.1
  have hown := S.2.2.2.1
  have hts := S.2.2.2.2
  have hK := hE.1
  have hS : va_S A s.heap s.heap [] := va_S.rf
  have hDa : va_Da A [xo, st, sp, th] := ⟨_, hD0, rfl⟩
  have hl : lv_has ls 1 [(0, .ref xo)] := hl
  refine lv_aload_n hx hb dX8_correctAll_0 rfl (lv_at hl 0 rfl) ?_
  refine rwVv0 (rest := []) S (c_X8_putAside l E xo st sp th so sv pd nu sn ln ta sg g gp) cd_X8_putAside bw_762 ⟨Nat.le_of_ble_eq_true rfl, Nat.le_of_ble_eq_true rfl⟩ ⟨Nat.zero_le _, Nat.zero_le _⟩ hP (hDa.to rfl) hE hA hS [0, 1, 2] rfl rfl [xo, st, sp] rfl rfl (ci := 5) rfl (q0 := 0) rfl (Nat.le_of_ble_eq_true rfl) hl.1 dX8_correctAll_1 (fun H locs hP _ hS => ?_)
  have hP : va_P E.1 vwCl [(xo, .inr (5, [.ref st, .ref sp, .ref th, .int (nI sn), .ref so, .ref sv, .ref pd, .int (nI ln), .int (nI ta), .int sg, .ref nu])), (st, .inl (E.2.1, 293, .inl g)), (sp, .inl (E.2.1, 293, .inl (va_cpy g gp 0 0 293))), (th, .inl (E.2.1, 1758, .inl gh))] H := hP
  refine lv_aload_n hx hb dX8_correctAll_4 rfl (lv_at hl 0 rfl) ?_
  refine lv_aload_n hx hb dX8_correctAll_5 rfl (lv_at hl 0 rfl) ?_
  refine rwV0 (rest := [.ref xo]) S (c_X8_correctsAll l E xo st sp th so sv pd nu sn ln ta sg g n hf hn hst) cd_X8_correctsAll bw_944 ⟨Nat.le_of_ble_eq_true rfl, Nat.le_of_ble_eq_true rfl⟩ ⟨Nat.zero_le _, Nat.zero_le _⟩ hP (hDa.to rfl) hE hA hS [0, 1] rfl rfl [xo, st] rfl rfl (ci := 5) rfl (q0 := 0) rfl (Nat.le_of_ble_eq_true rfl) hl.1 dX8_correctAll_6 (fun H locs hP _ hS => ?_)
  have hP : va_P E.1 vwCl [(xo, .inr (5, [.ref st, .ref sp, .ref th, .int (nI sn), .ref so, .ref sv, .ref pd, .int (nI ln), .int (nI ta), .int sg, .ref nu])), (st, .inl (E.2.1, 293, .inl (mZw g n))), (sp, .inl (E.2.1, 293, .inl (va_cpy g gp 0 0 293))), (th, .inl (E.2.1, 1758, .inl gh))] H := hP
  refine rwV1 (rest := []) S (c_X8_recorded l E xo st sp th so sv pd nu sn ln ta sg (va_cpy g gp 0 0 293) gh (mZv g n) hsn) cd_X8_recorded bw_777 ⟨Nat.le_of_ble_eq_true rfl, Nat.le_of_ble_eq_true rfl⟩ ⟨Nat.zero_le _, Nat.zero_le _⟩ hP (hDa.to rfl) hE hA hS [0, 2, 3] rfl rfl [xo, sp, th] rfl rfl (ci := 5) rfl (q0 := 0) rfl (Nat.le_of_ble_eq_true rfl) hl.1 dX8_correctAll_9 (fun H locs hP _ hS => ?_)
  have hP : va_P E.1 vwCl [(xo, .inr (5, [.ref st, .ref sp, .ref th, .int (nI (rcN (mZv g n) sn)), .ref so, .ref sv, .ref pd, .int (nI ln), .int (nI ta), .int sg, .ref nu])), (st, .inl (E.2.1, 293, .inl (mZw g n))), (sp, .inl (E.2.1, 293, .inl (va_cpy g gp 0 0 293))), (th, .inl (E.2.1, 1758, .inl (rcH (mZv g n) sn (va_cpy g gp 0 0 293) gh)))] H := hP
  exact hret _ _ _ _ _ _ rfl rfl rfl hP hS dX8_correctAll_12

theorem cd_X8_card : cdV RX8 yX8_card cX8_card 1 (some .int) 0 := ⟨⟨bw_951, bw_65, by decide, by decide, by decide +kernel⟩, bw_949, bw_950⟩
set_option maxHeartbeats 4000000 in
set_option maxRecDepth 100000 in
theorem c_X8_card (l : Launch) (E : EV) (xo : Nat) (st : Nat) (sp : Nat) (th : Nat) (so : Nat) (sv : Nat) (pd : Nat) (nu : Nat) (sn : Nat) (ln : Nat) (ta : Nat) (sg : Int32) (g : Nat → Int32) (gp : Nat → Int32) (gh : Nat → Int32) (hsn : sn ≤ 6) : rcI l E yX8_card cX8_card 1 .int 6 [.ref xo] [(xo, .inr (5, [.ref st, .ref sp, .ref th, .int (nI sn), .ref so, .ref sv, .ref pd, .int (nI ln), .int (nI ta), .int sg, .ref nu])), (st, .inl (E.2.1, 293, .inl g)), (sp, .inl (E.2.1, 293, .inl gp)), (th, .inl (E.2.1, 1758, .inl gh))] (mTn g 3) [(xo, .inr (5, [.ref st, .ref sp, .ref th, .int (nI (rcN (mTn g 3) sn)), .ref so, .ref sv, .ref pd, .int (nI ln), .int (nI ta), .int sg, .ref nu])), (st, .inl (E.2.1, 293, .inl (mTc g 3))), (sp, .inl (E.2.1, 293, .inl (va_cpy g gp 0 0 293))), (th, .inl (E.2.1, 1758, .inl (rcH (mTn g 3) sn (va_cpy g gp 0 0 293) gh)))] := by
  refine rcI_of (by decide) (Nat.le_of_ble_eq_true rfl) ?_
  intro pg e s m below meth c Q A ls S hP hD0 hE hA hl hret
  have hx := S.1
  have hb := S.2.1
  have hown := S.2.2.2.1
  have hts := S.2.2.2.2
  have hK := hE.1
  have hS : va_S A s.heap s.heap [] := va_S.rf
  have hDa : va_Da A [xo, st, sp, th] := ⟨_, hD0, rfl⟩
  have hl : lv_has ls 1 [(0, .ref xo)] := hl
  refine lv_aload_n hx hb dX8_card_0 rfl (lv_at hl 0 rfl) ?_
  refine rwVv0 (rest := []) S (c_X8_putAside l E xo st sp th so sv pd nu sn ln ta sg g gp) cd_X8_putAside bw_762 ⟨Nat.le_of_ble_eq_true rfl, Nat.le_of_ble_eq_true rfl⟩ ⟨Nat.zero_le _, Nat.zero_le _⟩ hP (hDa.to rfl) hE hA hS [0, 1, 2] rfl rfl [xo, st, sp] rfl rfl (ci := 5) rfl (q0 := 0) rfl (Nat.le_of_ble_eq_true rfl) hl.1 dX8_card_1 (fun H locs hP _ hS => ?_)
  have hP : va_P E.1 vwCl [(xo, .inr (5, [.ref st, .ref sp, .ref th, .int (nI sn), .ref so, .ref sv, .ref pd, .int (nI ln), .int (nI ta), .int sg, .ref nu])), (st, .inl (E.2.1, 293, .inl g)), (sp, .inl (E.2.1, 293, .inl (va_cpy g gp 0 0 293))), (th, .inl (E.2.1, 1758, .inl gh))] H := hP
  refine lv_aload_n hx hb dX8_card_4 rfl (lv_at hl 0 rfl) ?_
  refine lv_aload_n hx hb dX8_card_5 rfl (lv_at hl 0 rfl) ?_
  refine rwV0 (rest := [.ref xo]) S (c_X8_cards l E xo st sp th so sv pd nu sn ln ta sg g) cd_X8_cards bw_952 ⟨Nat.le_of_ble_eq_true rfl, Nat.le_of_ble_eq_true rfl⟩ ⟨Nat.zero_le _, Nat.zero_le _⟩ hP (hDa.to rfl) hE hA hS [0, 1] rfl rfl [xo, st] rfl rfl (ci := 5) rfl (q0 := 0) rfl (Nat.le_of_ble_eq_true rfl) hl.1 dX8_card_6 (fun H locs hP _ hS => ?_)
  have hP : va_P E.1 vwCl [(xo, .inr (5, [.ref st, .ref sp, .ref th, .int (nI sn), .ref so, .ref sv, .ref pd, .int (nI ln), .int (nI ta), .int sg, .ref nu])), (st, .inl (E.2.1, 293, .inl (mTc g 3))), (sp, .inl (E.2.1, 293, .inl (va_cpy g gp 0 0 293))), (th, .inl (E.2.1, 1758, .inl gh))] H := hP
  refine rwV1 (rest := []) S (c_X8_recorded l E xo st sp th so sv pd nu sn ln ta sg (va_cpy g gp 0 0 293) gh (mTn g 3) hsn) cd_X8_recorded bw_777 ⟨Nat.le_of_ble_eq_true rfl, Nat.le_of_ble_eq_true rfl⟩ ⟨Nat.zero_le _, Nat.zero_le _⟩ hP (hDa.to rfl) hE hA hS [0, 2, 3] rfl rfl [xo, sp, th] rfl rfl (ci := 5) rfl (q0 := 0) rfl (Nat.le_of_ble_eq_true rfl) hl.1 dX8_card_9 (fun H locs hP _ hS => ?_)
  have hP : va_P E.1 vwCl [(xo, .inr (5, [.ref st, .ref sp, .ref th, .int (nI (rcN (mTn g 3) sn)), .ref so, .ref sv, .ref pd, .int (nI ln), .int (nI ta), .int sg, .ref nu])), (st, .inl (E.2.1, 293, .inl (mTc g 3))), (sp, .inl (E.2.1, 293, .inl (va_cpy g gp 0 0 293))), (th, .inl (E.2.1, 1758, .inl (rcH (mTn g 3) sn (va_cpy g gp 0 0 293) gh)))] H := hP
  exact hret _ _ _ _ _ _ rfl rfl rfl hP hS dX8_card_12

theorem cd_X8_mostOf : cdS yX8_mostOf cX8_mostOf 1 (some .int) 1 := ⟨⟨bw_776, bw_65, by decide, by decide, by decide +kernel⟩, bw_775⟩
def mMo (x : Int32) : Int32 := if x = 0 then nI 5 else if x = nI 1 then nI 9 else if x = nI 2 then nI 40 else nI 50
set_option maxHeartbeats 4000000 in
set_option maxRecDepth 100000 in
theorem c_X8_mostOf (l : Launch) (E : EV) (x : Int32)  : rcI l E yX8_mostOf cX8_mostOf 1 .int 0 [.int x] [] (mMo x) [] := by
  refine rcI_of (by decide) (Nat.le_of_ble_eq_true rfl) ?_
  intro pg e s m below meth c Q A ls S hP hD0 hE hA hl hret
  have hx := S.1
  have hb := S.2.1
  have hown := S.2.2.2.1
  have hts := S.2.2.2.2
  have hK := hE.1
  have hS : va_S A s.heap s.heap [] := va_S.rf
  have hDa : va_Da A [] := ⟨_, hD0, rfl⟩
  have hl : lv_has ls 1 [(0, .int x)] := hl
  refine lv_iload_n hx hb dX8_mostOf_0 rfl (lv_at hl 0 rfl) ?_
  refine lv_if_ne (tgt := 8) hx hb dX8_mostOf_1 (by decide) (fun c_1 => ?_) (fun c_1 => ?_)
  · refine lv_iload_n hx hb dX8_mostOf_8 rfl (lv_at hl 0 rfl) ?_
    refine lv_iconst (v := nI 1) hx hb dX8_mostOf_9 (by decide) ?_
    refine lv_icmp_ne (tgt := 18) hx hb dX8_mostOf_10 (by decide) (fun c_2 => ?_) (fun c_2 => ?_)
    · refine lv_iload_n hx hb dX8_mostOf_18 rfl (lv_at hl 0 rfl) ?_
      refine lv_iconst (v := nI 2) hx hb dX8_mostOf_19 (by decide) ?_
      refine lv_icmp_ne (tgt := 28) hx hb dX8_mostOf_20 (by decide) (fun c_3 => ?_) (fun c_3 => ?_)
      · refine lv_bipush (v := nI 50) hx hb dX8_mostOf_28 (by decide) ?_
        exact hret _ _ _ _ _ _ (by rw [mMo, if_neg c_1, if_neg c_2, if_neg c_3]) rfl rfl hP hS dX8_mostOf_30
      · refine lv_bipush (v := nI 40) hx hb dX8_mostOf_23 (by decide) ?_
        refine lv_goto (tgt := 30) hx hb dX8_mostOf_25 (by decide) ?_
        exact hret _ _ _ _ _ _ (by rw [mMo, if_neg c_1, if_neg c_2, if_pos c_3]) rfl rfl hP hS dX8_mostOf_30
    · refine lv_bipush (v := nI 9) hx hb dX8_mostOf_13 (by decide) ?_
      refine lv_goto (tgt := 30) hx hb dX8_mostOf_15 (by decide) ?_
      exact hret _ _ _ _ _ _ (by rw [mMo, if_neg c_1, if_pos c_2]) rfl rfl hP hS dX8_mostOf_30
  · refine lv_iconst (v := nI 5) hx hb dX8_mostOf_4 (by decide) ?_
    refine lv_goto (tgt := 30) hx hb dX8_mostOf_5 (by decide) ?_
    exact hret _ _ _ _ _ _ (by rw [mMo, if_pos c_1]) rfl rfl hP hS dX8_mostOf_30

theorem cd_X8_set : cdV RX8 yX8_set cX8_set 4 (some .int) 2 := ⟨⟨bw_773, bw_65, by decide, by decide, by decide +kernel⟩, bw_771, bw_772⟩
def mSeV (sn : Nat) (g : Nat → Int32) (gp : Nat → Int32) (gh : Nat → Int32) (a1 : Int32) (a2 : Int32) : Int32 := if mIw a1 (nI 0) (nI 3) = 0 then (-2) else if a1 = 0 then if mIw a2 (nI 1) (mMo a1) = 0 then (-2) else (g (ix a1)) else if a1 = nI 2 then if mIw a2 (nI 1) (mMo a1) = 0 then (-2) else (g (ix a1)) else if mIw a2 (nI 0) (mMo a1) = 0 then (-2) else (g (ix a1))
def mSeG (sn : Nat) (g : Nat → Int32) (gp : Nat → Int32) (gh : Nat → Int32) (a1 : Int32) (a2 : Int32) : Nat → Int32 := if mIw a1 (nI 0) (nI 3) = 0 then g else if a1 = 0 then if mIw a2 (nI 1) (mMo a1) = 0 then g else upd g (ix a1) a2 else if a1 = nI 2 then if mIw a2 (nI 1) (mMo a1) = 0 then g else upd g (ix a1) a2 else if mIw a2 (nI 0) (mMo a1) = 0 then g else upd g (ix a1) a2
def mSeP (sn : Nat) (g : Nat → Int32) (gp : Nat → Int32) (gh : Nat → Int32) (a1 : Int32) (a2 : Int32) : Nat → Int32 := if mIw a1 (nI 0) (nI 3) = 0 then gp else if a1 = 0 then if mIw a2 (nI 1) (mMo a1) = 0 then gp else (va_cpy g gp 0 0 293) else if a1 = nI 2 then if mIw a2 (nI 1) (mMo a1) = 0 then gp else (va_cpy g gp 0 0 293) else if mIw a2 (nI 0) (mMo a1) = 0 then gp else (va_cpy g gp 0 0 293)
def mSeN (sn : Nat) (g : Nat → Int32) (gp : Nat → Int32) (gh : Nat → Int32) (a1 : Int32) (a2 : Int32) : Nat := if mIw a1 (nI 0) (nI 3) = 0 then sn else if a1 = 0 then if mIw a2 (nI 1) (mMo a1) = 0 then sn else rcN (g (ix a1)) sn else if a1 = nI 2 then if mIw a2 (nI 1) (mMo a1) = 0 then sn else rcN (g (ix a1)) sn else if mIw a2 (nI 0) (mMo a1) = 0 then sn else rcN (g (ix a1)) sn
def mSeH (sn : Nat) (g : Nat → Int32) (gp : Nat → Int32) (gh : Nat → Int32) (a1 : Int32) (a2 : Int32) : Nat → Int32 := if mIw a1 (nI 0) (nI 3) = 0 then gh else if a1 = 0 then if mIw a2 (nI 1) (mMo a1) = 0 then gh else rcH (g (ix a1)) sn (va_cpy g gp 0 0 293) gh else if a1 = nI 2 then if mIw a2 (nI 1) (mMo a1) = 0 then gh else rcH (g (ix a1)) sn (va_cpy g gp 0 0 293) gh else if mIw a2 (nI 0) (mMo a1) = 0 then gh else rcH (g (ix a1)) sn (va_cpy g gp 0 0 293) gh
set_option maxHeartbeats 4000000 in
set_option maxRecDepth 100000 in
theorem c_X8_set (l : Launch) (E : EV) (xo : Nat) (st : Nat) (sp : Nat) (th : Nat) (so : Nat) (sv : Nat) (pd : Nat) (nu : Nat) (sn : Nat) (ln : Nat) (ta : Nat) (sg : Int32) (g : Nat → Int32) (gp : Nat → Int32) (gh : Nat → Int32) (a1 : Int32) (a2 : Int32) (hsn : sn ≤ 6) : rcI l E yX8_set cX8_set 4 .int 4 [.ref xo, .int a1, .int a2] [(xo, .inr (5, [.ref st, .ref sp, .ref th, .int (nI sn), .ref so, .ref sv, .ref pd, .int (nI ln), .int (nI ta), .int sg, .ref nu])), (st, .inl (E.2.1, 293, .inl g)), (sp, .inl (E.2.1, 293, .inl gp)), (th, .inl (E.2.1, 1758, .inl gh))] (mSeV sn g gp gh a1 a2) [(xo, .inr (5, [.ref st, .ref sp, .ref th, .int (nI (mSeN sn g gp gh a1 a2)), .ref so, .ref sv, .ref pd, .int (nI ln), .int (nI ta), .int sg, .ref nu])), (st, .inl (E.2.1, 293, .inl (mSeG sn g gp gh a1 a2))), (sp, .inl (E.2.1, 293, .inl (mSeP sn g gp gh a1 a2))), (th, .inl (E.2.1, 1758, .inl (mSeH sn g gp gh a1 a2)))] := by
  refine rcI_of (by decide) (Nat.le_of_ble_eq_true rfl) ?_
  intro pg e s m below meth c Q A ls S hP hD0 hE hA hl hret
  have hx := S.1
  have hb := S.2.1
  have hown := S.2.2.2.1
  have hts := S.2.2.2.2
  have hK := hE.1
  have hS : va_S A s.heap s.heap [] := va_S.rf
  have hDa : va_Da A [xo, st, sp, th] := ⟨_, hD0, rfl⟩
  have hl : lv_has ls 4 [(0, .ref xo), (1, .int a1), (2, .int a2)] := hl
  refine lv_iload_n hx hb dX8_set_0 rfl (lv_at hl 1 rfl) ?_
  refine lv_iconst (v := nI 0) hx hb dX8_set_1 (by decide) ?_
  refine lv_iconst (v := nI 3) hx hb dX8_set_2 (by decide) ?_
  refine rwS3 (rest := []) S (c_X8_within l E a1 (nI 0) (nI 3)) cd_X8_within bw_755 ⟨Nat.le_of_ble_eq_true rfl, Nat.le_of_ble_eq_true rfl⟩ ⟨Nat.zero_le _, Nat.zero_le _⟩ hP (hDa.to rfl) hE hA hS [] rfl rfl [] rfl rfl (Nat.le_of_ble_eq_true rfl) hl.1 dX8_set_3 (fun H locs hP _ hS => ?_)
  have hP : va_P E.1 vwCl [(xo, .inr (5, [.ref st, .ref sp, .ref th, .int (nI sn), .ref so, .ref sv, .ref pd, .int (nI ln), .int (nI ta), .int sg, .ref nu])), (st, .inl (E.2.1, 293, .inl g)), (sp, .inl (E.2.1, 293, .inl gp)), (th, .inl (E.2.1, 1758, .inl gh))] H := hP
  refine lv_if_eq (tgt := 34) hx hb dX8_set_6 (by decide) (fun c_1 => ?_) (fun c_1 => ?_)
  · refine lv_bipush (v := (-2)) hx hb dX8_set_34 (by decide) ?_
    exact hret _ _ _ _ _ _ (by rw [mSeV, if_pos c_1]) (by rw [show mSeG sn g gp gh a1 a2 = g from by rw [mSeG, if_pos c_1], show mSeP sn g gp gh a1 a2 = gp from by rw [mSeP, if_pos c_1], show mSeN sn g gp gh a1 a2 = sn from by rw [mSeN, if_pos c_1], show mSeH sn g gp gh a1 a2 = gh from by rw [mSeH, if_pos c_1]]) rfl hP hS dX8_set_36
  · refine lv_iload_n hx hb dX8_set_9 rfl (lv_at hl 2 rfl) ?_
    refine lv_iload_n hx hb dX8_set_10 rfl (lv_at hl 1 rfl) ?_
    refine lv_if_eq (tgt := 19) hx hb dX8_set_11 (by decide) (fun c_2 => ?_) (fun c_2 => ?_)
    · refine lv_iconst (v := nI 1) hx hb dX8_set_19 (by decide) ?_
      refine lv_goto (tgt := 24) hx hb dX8_set_20 (by decide) ?_
      refine lv_iload_n hx hb dX8_set_24 rfl (lv_at hl 1 rfl) ?_
      refine rwS1 (rest := [.int (nI 1), .int a2]) S (c_X8_mostOf l E a1) cd_X8_mostOf bw_774 ⟨Nat.le_of_ble_eq_true rfl, Nat.le_of_ble_eq_true rfl⟩ ⟨Nat.zero_le _, Nat.zero_le _⟩ hP (hDa.to rfl) hE hA hS [] rfl rfl [] rfl rfl (Nat.le_of_ble_eq_true rfl) hl.1 dX8_set_25 (fun H locs hP _ hS => ?_)
      have hP : va_P E.1 vwCl [(xo, .inr (5, [.ref st, .ref sp, .ref th, .int (nI sn), .ref so, .ref sv, .ref pd, .int (nI ln), .int (nI ta), .int sg, .ref nu])), (st, .inl (E.2.1, 293, .inl g)), (sp, .inl (E.2.1, 293, .inl gp)), (th, .inl (E.2.1, 1758, .inl gh))] H := hP
      refine rwS3 (rest := []) S (c_X8_within l E a2 (nI 1) (mMo a1)) cd_X8_within bw_755 ⟨Nat.le_of_ble_eq_true rfl, Nat.le_of_ble_eq_true rfl⟩ ⟨Nat.zero_le _, Nat.zero_le _⟩ hP (hDa.to rfl) hE hA hS [] rfl rfl [] rfl rfl (Nat.le_of_ble_eq_true rfl) hl.1 dX8_set_28 (fun H locs hP _ hS => ?_)
      have hP : va_P E.1 vwCl [(xo, .inr (5, [.ref st, .ref sp, .ref th, .int (nI sn), .ref so, .ref sv, .ref pd, .int (nI ln), .int (nI ta), .int sg, .ref nu])), (st, .inl (E.2.1, 293, .inl g)), (sp, .inl (E.2.1, 293, .inl gp)), (th, .inl (E.2.1, 1758, .inl gh))] H := hP
      refine lv_if_ne (tgt := 37) hx hb dX8_set_31 (by decide) (fun c_3 => ?_) (fun c_3 => ?_)
      · obtain ⟨i, h9_i, rfl⟩ : ∃ i : Nat, i < 4 ∧ a1 = nI i := (mIw_of (n := 3) (by omega) c_1)
        refine lv_aload_n hx hb dX8_set_37 rfl (lv_at hl 0 rfl) ?_
        refine rwVv0 (rest := []) S (c_X8_putAside l E xo st sp th so sv pd nu sn ln ta sg g gp) cd_X8_putAside bw_762 ⟨Nat.le_of_ble_eq_true rfl, Nat.le_of_ble_eq_true rfl⟩ ⟨Nat.zero_le _, Nat.zero_le _⟩ hP (hDa.to rfl) hE hA hS [0, 1, 2] rfl rfl [xo, st, sp] rfl rfl (ci := 5) rfl (q0 := 0) rfl (Nat.le_of_ble_eq_true rfl) hl.1 dX8_set_38 (fun H locs hP _ hS => ?_)
        have hP : va_P E.1 vwCl [(xo, .inr (5, [.ref st, .ref sp, .ref th, .int (nI sn), .ref so, .ref sv, .ref pd, .int (nI ln), .int (nI ta), .int sg, .ref nu])), (st, .inl (E.2.1, 293, .inl g)), (sp, .inl (E.2.1, 293, .inl (va_cpy g gp 0 0 293))), (th, .inl (E.2.1, 1758, .inl gh))] H := hP
        refine lv_aload_n hx hb dX8_set_41 rfl (lv_at hl 0 rfl) ?_
        refine va_get (D := E.1) (ci := 5) (v := .ref st) (C := RX8) (T := TX8) (N := 11) hx hb hts inb_X8 hown hK hP 0 rfl rfl 0 (by decide) (hts _ bw_710) (fun _ h9 => h9) rfl dX8_set_42 ?_
        refine lv_iload_n hx hb dX8_set_45 rfl (lv_at hl 1 rfl) ?_
        refine rn_iald (i := i) hx hb hK hP 1 0 rfl rfl (by omega) (by omega) dX8_set_46 ?_
        refine lv_istore_n (lv' := [(3, .int (g i)), (0, .ref xo), (1, .int (nI i)), (2, .int a2)]) hx hb dX8_set_47 rfl hl (by decide) rfl (fun ls hl => ?_)
        refine lv_aload_n hx hb dX8_set_48 rfl (lv_at hl 1 rfl) ?_
        refine va_get (D := E.1) (ci := 5) (v := .ref st) (C := RX8) (T := TX8) (N := 11) hx hb hts inb_X8 hown hK hP 0 rfl rfl 0 (by decide) (hts _ bw_710) (fun _ h9 => h9) rfl dX8_set_49 ?_
        refine lv_iload_n hx hb dX8_set_52 rfl (lv_at hl 2 rfl) ?_
        refine lv_iload_n hx hb dX8_set_53 rfl (lv_at hl 3 rfl) ?_
        refine rn_iast (i := i) hx hb hK hP (hDa.to rfl) hS 1 0 rfl rfl (by omega) (by omega) dX8_set_54 (fun H locs hP _ hS => ?_)
        have hP : va_P E.1 vwCl [(xo, .inr (5, [.ref st, .ref sp, .ref th, .int (nI sn), .ref so, .ref sv, .ref pd, .int (nI ln), .int (nI ta), .int sg, .ref nu])), (st, .inl (E.2.1, 293, .inl (upd g i a2))), (sp, .inl (E.2.1, 293, .inl (va_cpy g gp 0 0 293))), (th, .inl (E.2.1, 1758, .inl gh))] H := hP
        refine lv_aload_n hx hb dX8_set_55 rfl (lv_at hl 1 rfl) ?_
        refine lv_iload_n hx hb dX8_set_56 rfl (lv_at hl 0 rfl) ?_
        refine rwV1 (rest := []) S (c_X8_recorded l E xo st sp th so sv pd nu sn ln ta sg (va_cpy g gp 0 0 293) gh (g i) hsn) cd_X8_recorded bw_777 ⟨Nat.le_of_ble_eq_true rfl, Nat.le_of_ble_eq_true rfl⟩ ⟨Nat.zero_le _, Nat.zero_le _⟩ hP (hDa.to rfl) hE hA hS [0, 2, 3] rfl rfl [xo, sp, th] rfl rfl (ci := 5) rfl (q0 := 0) rfl (Nat.le_of_ble_eq_true rfl) hl.1 dX8_set_57 (fun H locs hP _ hS => ?_)
        have hP : va_P E.1 vwCl [(xo, .inr (5, [.ref st, .ref sp, .ref th, .int (nI (rcN (g i) sn)), .ref so, .ref sv, .ref pd, .int (nI ln), .int (nI ta), .int sg, .ref nu])), (st, .inl (E.2.1, 293, .inl (upd g i a2))), (sp, .inl (E.2.1, 293, .inl (va_cpy g gp 0 0 293))), (th, .inl (E.2.1, 1758, .inl (rcH (g i) sn (va_cpy g gp 0 0 293) gh)))] H := hP
        exact hret _ _ _ _ _ _ (by first | rw [mSeV, ix_nI (show i < 2 ^ 31 by omega), if_neg c_1, if_pos c_2, if_neg c_3] | rw [mSeV, if_neg c_1, if_pos c_2, if_neg c_3] | simp only [mSeV, ix_nI (show i < 2 ^ 31 by omega), if_neg c_1, if_pos c_2, if_neg c_3]) (by rw [show mSeG sn g gp gh (nI i) a2 = upd g i a2 from by first | rw [mSeG, ix_nI (show i < 2 ^ 31 by omega), if_neg c_1, if_pos c_2, if_neg c_3] | rw [mSeG, if_neg c_1, if_pos c_2, if_neg c_3] | simp only [mSeG, ix_nI (show i < 2 ^ 31 by omega), if_neg c_1, if_pos c_2, if_neg c_3], show mSeP sn g gp gh (nI i) a2 = (va_cpy g gp 0 0 293) from by first | rw [mSeP, ix_nI (show i < 2 ^ 31 by omega), if_neg c_1, if_pos c_2, if_neg c_3] | rw [mSeP, if_neg c_1, if_pos c_2, if_neg c_3] | simp only [mSeP, ix_nI (show i < 2 ^ 31 by omega), if_neg c_1, if_pos c_2, if_neg c_3], show mSeN sn g gp gh (nI i) a2 = rcN (g i) sn from by first | rw [mSeN, ix_nI (show i < 2 ^ 31 by omega), if_neg c_1, if_pos c_2, if_neg c_3] | rw [mSeN, if_neg c_1, if_pos c_2, if_neg c_3] | simp only [mSeN, ix_nI (show i < 2 ^ 31 by omega), if_neg c_1, if_pos c_2, if_neg c_3], show mSeH sn g gp gh (nI i) a2 = rcH (g i) sn (va_cpy g gp 0 0 293) gh from by first | rw [mSeH, ix_nI (show i < 2 ^ 31 by omega), if_neg c_1, if_pos c_2, if_neg c_3] | rw [mSeH, if_neg c_1, if_pos c_2, if_neg c_3] | simp only [mSeH, ix_nI (show i < 2 ^ 31 by omega), if_neg c_1, if_pos c_2, if_neg c_3]]) rfl hP hS dX8_set_60
      · refine lv_bipush (v := (-2)) hx hb dX8_set_34 (by decide) ?_
        exact hret _ _ _ _ _ _ (by rw [mSeV, if_neg c_1, if_pos c_2, if_pos c_3]) (by rw [show mSeG sn g gp gh a1 a2 = g from by rw [mSeG, if_neg c_1, if_pos c_2, if_pos c_3], show mSeP sn g gp gh a1 a2 = gp from by rw [mSeP, if_neg c_1, if_pos c_2, if_pos c_3], show mSeN sn g gp gh a1 a2 = sn from by rw [mSeN, if_neg c_1, if_pos c_2, if_pos c_3], show mSeH sn g gp gh a1 a2 = gh from by rw [mSeH, if_neg c_1, if_pos c_2, if_pos c_3]]) rfl hP hS dX8_set_36
    · refine lv_iload_n hx hb dX8_set_14 rfl (lv_at hl 1 rfl) ?_
      refine lv_iconst (v := nI 2) hx hb dX8_set_15 (by decide) ?_
      refine lv_icmp_ne (tgt := 23) hx hb dX8_set_16 (by decide) (fun c_4 => ?_) (fun c_4 => ?_)
      · refine lv_iconst (v := nI 0) hx hb dX8_set_23 (by decide) ?_
        refine lv_iload_n hx hb dX8_set_24 rfl (lv_at hl 1 rfl) ?_
        refine rwS1 (rest := [.int (nI 0), .int a2]) S (c_X8_mostOf l E a1) cd_X8_mostOf bw_774 ⟨Nat.le_of_ble_eq_true rfl, Nat.le_of_ble_eq_true rfl⟩ ⟨Nat.zero_le _, Nat.zero_le _⟩ hP (hDa.to rfl) hE hA hS [] rfl rfl [] rfl rfl (Nat.le_of_ble_eq_true rfl) hl.1 dX8_set_25 (fun H locs hP _ hS => ?_)
        have hP : va_P E.1 vwCl [(xo, .inr (5, [.ref st, .ref sp, .ref th, .int (nI sn), .ref so, .ref sv, .ref pd, .int (nI ln), .int (nI ta), .int sg, .ref nu])), (st, .inl (E.2.1, 293, .inl g)), (sp, .inl (E.2.1, 293, .inl gp)), (th, .inl (E.2.1, 1758, .inl gh))] H := hP
        refine rwS3 (rest := []) S (c_X8_within l E a2 (nI 0) (mMo a1)) cd_X8_within bw_755 ⟨Nat.le_of_ble_eq_true rfl, Nat.le_of_ble_eq_true rfl⟩ ⟨Nat.zero_le _, Nat.zero_le _⟩ hP (hDa.to rfl) hE hA hS [] rfl rfl [] rfl rfl (Nat.le_of_ble_eq_true rfl) hl.1 dX8_set_28 (fun H locs hP _ hS => ?_)
        have hP : va_P E.1 vwCl [(xo, .inr (5, [.ref st, .ref sp, .ref th, .int (nI sn), .ref so, .ref sv, .ref pd, .int (nI ln), .int (nI ta), .int sg, .ref nu])), (st, .inl (E.2.1, 293, .inl g)), (sp, .inl (E.2.1, 293, .inl gp)), (th, .inl (E.2.1, 1758, .inl gh))] H := hP
        refine lv_if_ne (tgt := 37) hx hb dX8_set_31 (by decide) (fun c_5 => ?_) (fun c_5 => ?_)
        · obtain ⟨i, h9_i, rfl⟩ : ∃ i : Nat, i < 4 ∧ a1 = nI i := (mIw_of (n := 3) (by omega) c_1)
          refine lv_aload_n hx hb dX8_set_37 rfl (lv_at hl 0 rfl) ?_
          refine rwVv0 (rest := []) S (c_X8_putAside l E xo st sp th so sv pd nu sn ln ta sg g gp) cd_X8_putAside bw_762 ⟨Nat.le_of_ble_eq_true rfl, Nat.le_of_ble_eq_true rfl⟩ ⟨Nat.zero_le _, Nat.zero_le _⟩ hP (hDa.to rfl) hE hA hS [0, 1, 2] rfl rfl [xo, st, sp] rfl rfl (ci := 5) rfl (q0 := 0) rfl (Nat.le_of_ble_eq_true rfl) hl.1 dX8_set_38 (fun H locs hP _ hS => ?_)
          have hP : va_P E.1 vwCl [(xo, .inr (5, [.ref st, .ref sp, .ref th, .int (nI sn), .ref so, .ref sv, .ref pd, .int (nI ln), .int (nI ta), .int sg, .ref nu])), (st, .inl (E.2.1, 293, .inl g)), (sp, .inl (E.2.1, 293, .inl (va_cpy g gp 0 0 293))), (th, .inl (E.2.1, 1758, .inl gh))] H := hP
          refine lv_aload_n hx hb dX8_set_41 rfl (lv_at hl 0 rfl) ?_
          refine va_get (D := E.1) (ci := 5) (v := .ref st) (C := RX8) (T := TX8) (N := 11) hx hb hts inb_X8 hown hK hP 0 rfl rfl 0 (by decide) (hts _ bw_710) (fun _ h9 => h9) rfl dX8_set_42 ?_
          refine lv_iload_n hx hb dX8_set_45 rfl (lv_at hl 1 rfl) ?_
          refine rn_iald (i := i) hx hb hK hP 1 0 rfl rfl (by omega) (by omega) dX8_set_46 ?_
          refine lv_istore_n (lv' := [(3, .int (g i)), (0, .ref xo), (1, .int (nI i)), (2, .int a2)]) hx hb dX8_set_47 rfl hl (by decide) rfl (fun ls hl => ?_)
          refine lv_aload_n hx hb dX8_set_48 rfl (lv_at hl 1 rfl) ?_
          refine va_get (D := E.1) (ci := 5) (v := .ref st) (C := RX8) (T := TX8) (N := 11) hx hb hts inb_X8 hown hK hP 0 rfl rfl 0 (by decide) (hts _ bw_710) (fun _ h9 => h9) rfl dX8_set_49 ?_
          refine lv_iload_n hx hb dX8_set_52 rfl (lv_at hl 2 rfl) ?_
          refine lv_iload_n hx hb dX8_set_53 rfl (lv_at hl 3 rfl) ?_
          refine rn_iast (i := i) hx hb hK hP (hDa.to rfl) hS 1 0 rfl rfl (by omega) (by omega) dX8_set_54 (fun H locs hP _ hS => ?_)
          have hP : va_P E.1 vwCl [(xo, .inr (5, [.ref st, .ref sp, .ref th, .int (nI sn), .ref so, .ref sv, .ref pd, .int (nI ln), .int (nI ta), .int sg, .ref nu])), (st, .inl (E.2.1, 293, .inl (upd g i a2))), (sp, .inl (E.2.1, 293, .inl (va_cpy g gp 0 0 293))), (th, .inl (E.2.1, 1758, .inl gh))] H := hP
          refine lv_aload_n hx hb dX8_set_55 rfl (lv_at hl 1 rfl) ?_
          refine lv_iload_n hx hb dX8_set_56 rfl (lv_at hl 0 rfl) ?_
          refine rwV1 (rest := []) S (c_X8_recorded l E xo st sp th so sv pd nu sn ln ta sg (va_cpy g gp 0 0 293) gh (g i) hsn) cd_X8_recorded bw_777 ⟨Nat.le_of_ble_eq_true rfl, Nat.le_of_ble_eq_true rfl⟩ ⟨Nat.zero_le _, Nat.zero_le _⟩ hP (hDa.to rfl) hE hA hS [0, 2, 3] rfl rfl [xo, sp, th] rfl rfl (ci := 5) rfl (q0 := 0) rfl (Nat.le_of_ble_eq_true rfl) hl.1 dX8_set_57 (fun H locs hP _ hS => ?_)
          have hP : va_P E.1 vwCl [(xo, .inr (5, [.ref st, .ref sp, .ref th, .int (nI (rcN (g i) sn)), .ref so, .ref sv, .ref pd, .int (nI ln), .int (nI ta), .int sg, .ref nu])), (st, .inl (E.2.1, 293, .inl (upd g i a2))), (sp, .inl (E.2.1, 293, .inl (va_cpy g gp 0 0 293))), (th, .inl (E.2.1, 1758, .inl (rcH (g i) sn (va_cpy g gp 0 0 293) gh)))] H := hP
          exact hret _ _ _ _ _ _ (by first | rw [mSeV, ix_nI (show i < 2 ^ 31 by omega), if_neg c_1, if_neg c_2, if_neg c_4, if_neg c_5] | rw [mSeV, if_neg c_1, if_neg c_2, if_neg c_4, if_neg c_5] | simp only [mSeV, ix_nI (show i < 2 ^ 31 by omega), if_neg c_1, if_neg c_2, if_neg c_4, if_neg c_5]) (by rw [show mSeG sn g gp gh (nI i) a2 = upd g i a2 from by first | rw [mSeG, ix_nI (show i < 2 ^ 31 by omega), if_neg c_1, if_neg c_2, if_neg c_4, if_neg c_5] | rw [mSeG, if_neg c_1, if_neg c_2, if_neg c_4, if_neg c_5] | simp only [mSeG, ix_nI (show i < 2 ^ 31 by omega), if_neg c_1, if_neg c_2, if_neg c_4, if_neg c_5], show mSeP sn g gp gh (nI i) a2 = (va_cpy g gp 0 0 293) from by first | rw [mSeP, ix_nI (show i < 2 ^ 31 by omega), if_neg c_1, if_neg c_2, if_neg c_4, if_neg c_5] | rw [mSeP, if_neg c_1, if_neg c_2, if_neg c_4, if_neg c_5] | simp only [mSeP, ix_nI (show i < 2 ^ 31 by omega), if_neg c_1, if_neg c_2, if_neg c_4, if_neg c_5], show mSeN sn g gp gh (nI i) a2 = rcN (g i) sn from by first | rw [mSeN, ix_nI (show i < 2 ^ 31 by omega), if_neg c_1, if_neg c_2, if_neg c_4, if_neg c_5] | rw [mSeN, if_neg c_1, if_neg c_2, if_neg c_4, if_neg c_5] | simp only [mSeN, ix_nI (show i < 2 ^ 31 by omega), if_neg c_1, if_neg c_2, if_neg c_4, if_neg c_5], show mSeH sn g gp gh (nI i) a2 = rcH (g i) sn (va_cpy g gp 0 0 293) gh from by first | rw [mSeH, ix_nI (show i < 2 ^ 31 by omega), if_neg c_1, if_neg c_2, if_neg c_4, if_neg c_5] | rw [mSeH, if_neg c_1, if_neg c_2, if_neg c_4, if_neg c_5] | simp only [mSeH, ix_nI (show i < 2 ^ 31 by omega), if_neg c_1, if_neg c_2, if_neg c_4, if_neg c_5]]) rfl hP hS dX8_set_60
        · refine lv_bipush (v := (-2)) hx hb dX8_set_34 (by decide) ?_
          exact hret _ _ _ _ _ _ (by rw [mSeV, if_neg c_1, if_neg c_2, if_neg c_4, if_pos c_5]) (by rw [show mSeG sn g gp gh a1 a2 = g from by rw [mSeG, if_neg c_1, if_neg c_2, if_neg c_4, if_pos c_5], show mSeP sn g gp gh a1 a2 = gp from by rw [mSeP, if_neg c_1, if_neg c_2, if_neg c_4, if_pos c_5], show mSeN sn g gp gh a1 a2 = sn from by rw [mSeN, if_neg c_1, if_neg c_2, if_neg c_4, if_pos c_5], show mSeH sn g gp gh a1 a2 = gh from by rw [mSeH, if_neg c_1, if_neg c_2, if_neg c_4, if_pos c_5]]) rfl hP hS dX8_set_36
      · refine lv_iconst (v := nI 1) hx hb dX8_set_19 (by decide) ?_
        refine lv_goto (tgt := 24) hx hb dX8_set_20 (by decide) ?_
        refine lv_iload_n hx hb dX8_set_24 rfl (lv_at hl 1 rfl) ?_
        refine rwS1 (rest := [.int (nI 1), .int a2]) S (c_X8_mostOf l E a1) cd_X8_mostOf bw_774 ⟨Nat.le_of_ble_eq_true rfl, Nat.le_of_ble_eq_true rfl⟩ ⟨Nat.zero_le _, Nat.zero_le _⟩ hP (hDa.to rfl) hE hA hS [] rfl rfl [] rfl rfl (Nat.le_of_ble_eq_true rfl) hl.1 dX8_set_25 (fun H locs hP _ hS => ?_)
        have hP : va_P E.1 vwCl [(xo, .inr (5, [.ref st, .ref sp, .ref th, .int (nI sn), .ref so, .ref sv, .ref pd, .int (nI ln), .int (nI ta), .int sg, .ref nu])), (st, .inl (E.2.1, 293, .inl g)), (sp, .inl (E.2.1, 293, .inl gp)), (th, .inl (E.2.1, 1758, .inl gh))] H := hP
        refine rwS3 (rest := []) S (c_X8_within l E a2 (nI 1) (mMo a1)) cd_X8_within bw_755 ⟨Nat.le_of_ble_eq_true rfl, Nat.le_of_ble_eq_true rfl⟩ ⟨Nat.zero_le _, Nat.zero_le _⟩ hP (hDa.to rfl) hE hA hS [] rfl rfl [] rfl rfl (Nat.le_of_ble_eq_true rfl) hl.1 dX8_set_28 (fun H locs hP _ hS => ?_)
        have hP : va_P E.1 vwCl [(xo, .inr (5, [.ref st, .ref sp, .ref th, .int (nI sn), .ref so, .ref sv, .ref pd, .int (nI ln), .int (nI ta), .int sg, .ref nu])), (st, .inl (E.2.1, 293, .inl g)), (sp, .inl (E.2.1, 293, .inl gp)), (th, .inl (E.2.1, 1758, .inl gh))] H := hP
        refine lv_if_ne (tgt := 37) hx hb dX8_set_31 (by decide) (fun c_6 => ?_) (fun c_6 => ?_)
        · obtain ⟨i, h9_i, rfl⟩ : ∃ i : Nat, i < 4 ∧ a1 = nI i := (mIw_of (n := 3) (by omega) c_1)
          refine lv_aload_n hx hb dX8_set_37 rfl (lv_at hl 0 rfl) ?_
          refine rwVv0 (rest := []) S (c_X8_putAside l E xo st sp th so sv pd nu sn ln ta sg g gp) cd_X8_putAside bw_762 ⟨Nat.le_of_ble_eq_true rfl, Nat.le_of_ble_eq_true rfl⟩ ⟨Nat.zero_le _, Nat.zero_le _⟩ hP (hDa.to rfl) hE hA hS [0, 1, 2] rfl rfl [xo, st, sp] rfl rfl (ci := 5) rfl (q0 := 0) rfl (Nat.le_of_ble_eq_true rfl) hl.1 dX8_set_38 (fun H locs hP _ hS => ?_)
          have hP : va_P E.1 vwCl [(xo, .inr (5, [.ref st, .ref sp, .ref th, .int (nI sn), .ref so, .ref sv, .ref pd, .int (nI ln), .int (nI ta), .int sg, .ref nu])), (st, .inl (E.2.1, 293, .inl g)), (sp, .inl (E.2.1, 293, .inl (va_cpy g gp 0 0 293))), (th, .inl (E.2.1, 1758, .inl gh))] H := hP
          refine lv_aload_n hx hb dX8_set_41 rfl (lv_at hl 0 rfl) ?_
          refine va_get (D := E.1) (ci := 5) (v := .ref st) (C := RX8) (T := TX8) (N := 11) hx hb hts inb_X8 hown hK hP 0 rfl rfl 0 (by decide) (hts _ bw_710) (fun _ h9 => h9) rfl dX8_set_42 ?_
          refine lv_iload_n hx hb dX8_set_45 rfl (lv_at hl 1 rfl) ?_
          refine rn_iald (i := i) hx hb hK hP 1 0 rfl rfl (by omega) (by omega) dX8_set_46 ?_
          refine lv_istore_n (lv' := [(3, .int (g i)), (0, .ref xo), (1, .int (nI i)), (2, .int a2)]) hx hb dX8_set_47 rfl hl (by decide) rfl (fun ls hl => ?_)
          refine lv_aload_n hx hb dX8_set_48 rfl (lv_at hl 1 rfl) ?_
          refine va_get (D := E.1) (ci := 5) (v := .ref st) (C := RX8) (T := TX8) (N := 11) hx hb hts inb_X8 hown hK hP 0 rfl rfl 0 (by decide) (hts _ bw_710) (fun _ h9 => h9) rfl dX8_set_49 ?_
          refine lv_iload_n hx hb dX8_set_52 rfl (lv_at hl 2 rfl) ?_
          refine lv_iload_n hx hb dX8_set_53 rfl (lv_at hl 3 rfl) ?_
          refine rn_iast (i := i) hx hb hK hP (hDa.to rfl) hS 1 0 rfl rfl (by omega) (by omega) dX8_set_54 (fun H locs hP _ hS => ?_)
          have hP : va_P E.1 vwCl [(xo, .inr (5, [.ref st, .ref sp, .ref th, .int (nI sn), .ref so, .ref sv, .ref pd, .int (nI ln), .int (nI ta), .int sg, .ref nu])), (st, .inl (E.2.1, 293, .inl (upd g i a2))), (sp, .inl (E.2.1, 293, .inl (va_cpy g gp 0 0 293))), (th, .inl (E.2.1, 1758, .inl gh))] H := hP
          refine lv_aload_n hx hb dX8_set_55 rfl (lv_at hl 1 rfl) ?_
          refine lv_iload_n hx hb dX8_set_56 rfl (lv_at hl 0 rfl) ?_
          refine rwV1 (rest := []) S (c_X8_recorded l E xo st sp th so sv pd nu sn ln ta sg (va_cpy g gp 0 0 293) gh (g i) hsn) cd_X8_recorded bw_777 ⟨Nat.le_of_ble_eq_true rfl, Nat.le_of_ble_eq_true rfl⟩ ⟨Nat.zero_le _, Nat.zero_le _⟩ hP (hDa.to rfl) hE hA hS [0, 2, 3] rfl rfl [xo, sp, th] rfl rfl (ci := 5) rfl (q0 := 0) rfl (Nat.le_of_ble_eq_true rfl) hl.1 dX8_set_57 (fun H locs hP _ hS => ?_)
          have hP : va_P E.1 vwCl [(xo, .inr (5, [.ref st, .ref sp, .ref th, .int (nI (rcN (g i) sn)), .ref so, .ref sv, .ref pd, .int (nI ln), .int (nI ta), .int sg, .ref nu])), (st, .inl (E.2.1, 293, .inl (upd g i a2))), (sp, .inl (E.2.1, 293, .inl (va_cpy g gp 0 0 293))), (th, .inl (E.2.1, 1758, .inl (rcH (g i) sn (va_cpy g gp 0 0 293) gh)))] H := hP
          exact hret _ _ _ _ _ _ (by first | rw [mSeV, ix_nI (show i < 2 ^ 31 by omega), if_neg c_1, if_neg c_2, if_pos c_4, if_neg c_6] | rw [mSeV, if_neg c_1, if_neg c_2, if_pos c_4, if_neg c_6] | simp only [mSeV, ix_nI (show i < 2 ^ 31 by omega), if_neg c_1, if_neg c_2, if_pos c_4, if_neg c_6]) (by rw [show mSeG sn g gp gh (nI i) a2 = upd g i a2 from by first | rw [mSeG, ix_nI (show i < 2 ^ 31 by omega), if_neg c_1, if_neg c_2, if_pos c_4, if_neg c_6] | rw [mSeG, if_neg c_1, if_neg c_2, if_pos c_4, if_neg c_6] | simp only [mSeG, ix_nI (show i < 2 ^ 31 by omega), if_neg c_1, if_neg c_2, if_pos c_4, if_neg c_6], show mSeP sn g gp gh (nI i) a2 = (va_cpy g gp 0 0 293) from by first | rw [mSeP, ix_nI (show i < 2 ^ 31 by omega), if_neg c_1, if_neg c_2, if_pos c_4, if_neg c_6] | rw [mSeP, if_neg c_1, if_neg c_2, if_pos c_4, if_neg c_6] | simp only [mSeP, ix_nI (show i < 2 ^ 31 by omega), if_neg c_1, if_neg c_2, if_pos c_4, if_neg c_6], show mSeN sn g gp gh (nI i) a2 = rcN (g i) sn from by first | rw [mSeN, ix_nI (show i < 2 ^ 31 by omega), if_neg c_1, if_neg c_2, if_pos c_4, if_neg c_6] | rw [mSeN, if_neg c_1, if_neg c_2, if_pos c_4, if_neg c_6] | simp only [mSeN, ix_nI (show i < 2 ^ 31 by omega), if_neg c_1, if_neg c_2, if_pos c_4, if_neg c_6], show mSeH sn g gp gh (nI i) a2 = rcH (g i) sn (va_cpy g gp 0 0 293) gh from by first | rw [mSeH, ix_nI (show i < 2 ^ 31 by omega), if_neg c_1, if_neg c_2, if_pos c_4, if_neg c_6] | rw [mSeH, if_neg c_1, if_neg c_2, if_pos c_4, if_neg c_6] | simp only [mSeH, ix_nI (show i < 2 ^ 31 by omega), if_neg c_1, if_neg c_2, if_pos c_4, if_neg c_6]]) rfl hP hS dX8_set_60
        · refine lv_bipush (v := (-2)) hx hb dX8_set_34 (by decide) ?_
          exact hret _ _ _ _ _ _ (by rw [mSeV, if_neg c_1, if_neg c_2, if_pos c_4, if_pos c_6]) (by rw [show mSeG sn g gp gh a1 a2 = g from by rw [mSeG, if_neg c_1, if_neg c_2, if_pos c_4, if_pos c_6], show mSeP sn g gp gh a1 a2 = gp from by rw [mSeP, if_neg c_1, if_neg c_2, if_pos c_4, if_pos c_6], show mSeN sn g gp gh a1 a2 = sn from by rw [mSeN, if_neg c_1, if_neg c_2, if_pos c_4, if_pos c_6], show mSeH sn g gp gh a1 a2 = gh from by rw [mSeH, if_neg c_1, if_neg c_2, if_pos c_4, if_pos c_6]]) rfl hP hS dX8_set_36

theorem cd_X8_takeOut : cdV RX8 yX8_takeOut cX8_takeOut 2 (some .int) 1 := ⟨⟨bw_807, bw_65, by decide, by decide, by decide +kernel⟩, bw_805, bw_806⟩
def mToV (sn : Nat) (g : Nat → Int32) (gp : Nat → Int32) (gh : Nat → Int32) (n : Nat) (a1 : Int32) : Int32 := if mIs g a1 = 0 then (-1) else (nI (n - 1))
def mToG (sn : Nat) (g : Nat → Int32) (gp : Nat → Int32) (gh : Nat → Int32) (n : Nat) (a1 : Int32) : Nat → Int32 := if mIs g a1 = 0 then g else clM g n (ix a1)
def mToP (sn : Nat) (g : Nat → Int32) (gp : Nat → Int32) (gh : Nat → Int32) (n : Nat) (a1 : Int32) : Nat → Int32 := if mIs g a1 = 0 then gp else (va_cpy g gp 0 0 293)
def mToN (sn : Nat) (g : Nat → Int32) (gp : Nat → Int32) (gh : Nat → Int32) (n : Nat) (a1 : Int32) : Nat := if mIs g a1 = 0 then sn else rcN (nI (n - 1)) sn
def mToH (sn : Nat) (g : Nat → Int32) (gp : Nat → Int32) (gh : Nat → Int32) (n : Nat) (a1 : Int32) : Nat → Int32 := if mIs g a1 = 0 then gh else rcH (nI (n - 1)) sn (va_cpy g gp 0 0 293) gh
set_option maxHeartbeats 4000000 in
set_option maxRecDepth 100000 in
theorem c_X8_takeOut (l : Launch) (E : EV) (xo : Nat) (st : Nat) (sp : Nat) (th : Nat) (so : Nat) (sv : Nat) (pd : Nat) (nu : Nat) (sn : Nat) (ln : Nat) (ta : Nat) (sg : Int32) (g : Nat → Int32) (gp : Nat → Int32) (gh : Nat → Int32) (n : Nat) (a1 : Int32) (hf : g 4 = nI n) (hn : n ≤ 20) (hsn : sn ≤ 6) : rcI l E yX8_takeOut cX8_takeOut 2 .int 4 [.ref xo, .int a1] [(xo, .inr (5, [.ref st, .ref sp, .ref th, .int (nI sn), .ref so, .ref sv, .ref pd, .int (nI ln), .int (nI ta), .int sg, .ref nu])), (st, .inl (E.2.1, 293, .inl g)), (sp, .inl (E.2.1, 293, .inl gp)), (th, .inl (E.2.1, 1758, .inl gh))] (mToV sn g gp gh n a1) [(xo, .inr (5, [.ref st, .ref sp, .ref th, .int (nI (mToN sn g gp gh n a1)), .ref so, .ref sv, .ref pd, .int (nI ln), .int (nI ta), .int sg, .ref nu])), (st, .inl (E.2.1, 293, .inl (mToG sn g gp gh n a1))), (sp, .inl (E.2.1, 293, .inl (mToP sn g gp gh n a1))), (th, .inl (E.2.1, 1758, .inl (mToH sn g gp gh n a1)))] := by
  refine rcI_of (by decide) (Nat.le_of_ble_eq_true rfl) ?_
  intro pg e s m below meth c Q A ls S hP hD0 hE hA hl hret
  have hx := S.1
  have hb := S.2.1
  have hown := S.2.2.2.1
  have hts := S.2.2.2.2
  have hK := hE.1
  have hS : va_S A s.heap s.heap [] := va_S.rf
  have hDa : va_Da A [xo, st, sp, th] := ⟨_, hD0, rfl⟩
  have hl : lv_has ls 2 [(0, .ref xo), (1, .int a1)] := hl
  refine lv_aload_n hx hb dX8_takeOut_0 rfl (lv_at hl 0 rfl) ?_
  refine lv_iload_n hx hb dX8_takeOut_1 rfl (lv_at hl 1 rfl) ?_
  refine rwV1 (rest := []) S (c_X8_isShot l E xo st sp th so sv pd nu sn ln ta sg g a1) cd_X8_isShot bw_808 ⟨Nat.le_of_ble_eq_true rfl, Nat.le_of_ble_eq_true rfl⟩ ⟨Nat.zero_le _, Nat.zero_le _⟩ hP (hDa.to rfl) hE hA hS [0, 1] rfl rfl [xo, st] rfl rfl (ci := 5) rfl (q0 := 0) rfl (Nat.le_of_ble_eq_true rfl) hl.1 dX8_takeOut_2 (fun H locs hP _ hS => ?_)
  have hP : va_P E.1 vwCl [(xo, .inr (5, [.ref st, .ref sp, .ref th, .int (nI sn), .ref so, .ref sv, .ref pd, .int (nI ln), .int (nI ta), .int sg, .ref nu])), (st, .inl (E.2.1, 293, .inl g)), (sp, .inl (E.2.1, 293, .inl gp)), (th, .inl (E.2.1, 1758, .inl gh))] H := hP
  refine lv_if_ne (tgt := 10) hx hb dX8_takeOut_5 (by decide) (fun c_1 => ?_) (fun c_1 => ?_)
  · obtain ⟨p, h9_p, rfl⟩ : ∃ p : Nat, p < n ∧ a1 = nI p := (mIs_of hf hn c_1)
    refine lv_aload_n hx hb dX8_takeOut_10 rfl (lv_at hl 0 rfl) ?_
    refine rwVv0 (rest := []) S (c_X8_putAside l E xo st sp th so sv pd nu sn ln ta sg g gp) cd_X8_putAside bw_762 ⟨Nat.le_of_ble_eq_true rfl, Nat.le_of_ble_eq_true rfl⟩ ⟨Nat.zero_le _, Nat.zero_le _⟩ hP (hDa.to rfl) hE hA hS [0, 1, 2] rfl rfl [xo, st, sp] rfl rfl (ci := 5) rfl (q0 := 0) rfl (Nat.le_of_ble_eq_true rfl) hl.1 dX8_takeOut_11 (fun H locs hP _ hS => ?_)
    have hP : va_P E.1 vwCl [(xo, .inr (5, [.ref st, .ref sp, .ref th, .int (nI sn), .ref so, .ref sv, .ref pd, .int (nI ln), .int (nI ta), .int sg, .ref nu])), (st, .inl (E.2.1, 293, .inl g)), (sp, .inl (E.2.1, 293, .inl (va_cpy g gp 0 0 293))), (th, .inl (E.2.1, 1758, .inl gh))] H := hP
    refine lv_aload_n hx hb dX8_takeOut_14 rfl (lv_at hl 0 rfl) ?_
    refine lv_iload_n hx hb dX8_takeOut_15 rfl (lv_at hl 1 rfl) ?_
    refine rwVv1 (rest := []) S (c_X8_shut l E xo st sp th so sv pd nu sn ln ta sg g n p hf hn (by omega)) cd_X8_shut bw_812 ⟨Nat.le_of_ble_eq_true rfl, Nat.le_of_ble_eq_true rfl⟩ ⟨Nat.zero_le _, Nat.zero_le _⟩ hP (hDa.to rfl) hE hA hS [0, 1] rfl rfl [xo, st] rfl rfl (ci := 5) rfl (q0 := 0) rfl (Nat.le_of_ble_eq_true rfl) hl.1 dX8_takeOut_16 (fun H locs hP _ hS => ?_)
    have hP : va_P E.1 vwCl [(xo, .inr (5, [.ref st, .ref sp, .ref th, .int (nI sn), .ref so, .ref sv, .ref pd, .int (nI ln), .int (nI ta), .int sg, .ref nu])), (st, .inl (E.2.1, 293, .inl (clM g n p))), (sp, .inl (E.2.1, 293, .inl (va_cpy g gp 0 0 293))), (th, .inl (E.2.1, 1758, .inl gh))] H := hP
    refine lv_aload_n hx hb dX8_takeOut_19 rfl (lv_at hl 0 rfl) ?_
    refine lv_aload_n hx hb dX8_takeOut_20 rfl (lv_at hl 0 rfl) ?_
    refine va_get (D := E.1) (ci := 5) (v := .ref st) (C := RX8) (T := TX8) (N := 11) hx hb hts inb_X8 hown hK hP 0 rfl rfl 0 (by decide) (hts _ bw_710) (fun _ h9 => h9) rfl dX8_takeOut_21 ?_
    refine lv_iconst (v := nI 4) hx hb dX8_takeOut_24 (by decide) ?_
    refine rn_iald (i := 4) hx hb hK hP 1 0 rfl rfl (by omega) (by omega) dX8_takeOut_25 ?_
    refine W.eq (congrArg (fun z => F0 m 26 ls (.int z :: [.ref xo])) (show clM g n p 4 = nI (n - 1) from (clM_4 _ _ _))) ?_
    refine rwV1 (rest := []) S (c_X8_recorded l E xo st sp th so sv pd nu sn ln ta sg (va_cpy g gp 0 0 293) gh (nI (n - 1)) hsn) cd_X8_recorded bw_777 ⟨Nat.le_of_ble_eq_true rfl, Nat.le_of_ble_eq_true rfl⟩ ⟨Nat.zero_le _, Nat.zero_le _⟩ hP (hDa.to rfl) hE hA hS [0, 2, 3] rfl rfl [xo, sp, th] rfl rfl (ci := 5) rfl (q0 := 0) rfl (Nat.le_of_ble_eq_true rfl) hl.1 dX8_takeOut_26 (fun H locs hP _ hS => ?_)
    have hP : va_P E.1 vwCl [(xo, .inr (5, [.ref st, .ref sp, .ref th, .int (nI (rcN (nI (n - 1)) sn)), .ref so, .ref sv, .ref pd, .int (nI ln), .int (nI ta), .int sg, .ref nu])), (st, .inl (E.2.1, 293, .inl (clM g n p))), (sp, .inl (E.2.1, 293, .inl (va_cpy g gp 0 0 293))), (th, .inl (E.2.1, 1758, .inl (rcH (nI (n - 1)) sn (va_cpy g gp 0 0 293) gh)))] H := hP
    exact hret _ _ _ _ _ _ (by first | rw [mToV, ix_nI (show p < 2 ^ 31 by omega), if_neg c_1] | rw [mToV, if_neg c_1] | simp only [mToV, ix_nI (show p < 2 ^ 31 by omega), if_neg c_1]) (by rw [show mToG sn g gp gh n (nI p) = clM g n p from by first | rw [mToG, ix_nI (show p < 2 ^ 31 by omega), if_neg c_1] | rw [mToG, if_neg c_1] | simp only [mToG, ix_nI (show p < 2 ^ 31 by omega), if_neg c_1], show mToP sn g gp gh n (nI p) = (va_cpy g gp 0 0 293) from by first | rw [mToP, ix_nI (show p < 2 ^ 31 by omega), if_neg c_1] | rw [mToP, if_neg c_1] | simp only [mToP, ix_nI (show p < 2 ^ 31 by omega), if_neg c_1], show mToN sn g gp gh n (nI p) = rcN (nI (n - 1)) sn from by first | rw [mToN, ix_nI (show p < 2 ^ 31 by omega), if_neg c_1] | rw [mToN, if_neg c_1] | simp only [mToN, ix_nI (show p < 2 ^ 31 by omega), if_neg c_1], show mToH sn g gp gh n (nI p) = rcH (nI (n - 1)) sn (va_cpy g gp 0 0 293) gh from by first | rw [mToH, ix_nI (show p < 2 ^ 31 by omega), if_neg c_1] | rw [mToH, if_neg c_1] | simp only [mToH, ix_nI (show p < 2 ^ 31 by omega), if_neg c_1]]) rfl hP hS dX8_takeOut_29
  · refine lv_iconst (v := (-1)) hx hb dX8_takeOut_8 (by decide) ?_
    exact hret _ _ _ _ _ _ (by rw [mToV, if_pos c_1]) (by rw [show mToG sn g gp gh n a1 = g from by rw [mToG, if_pos c_1], show mToP sn g gp gh n a1 = gp from by rw [mToP, if_pos c_1], show mToN sn g gp gh n a1 = sn from by rw [mToN, if_pos c_1], show mToH sn g gp gh n a1 = gh from by rw [mToH, if_pos c_1]]) rfl hP hS dX8_takeOut_9

theorem cd_X8_trim : cdV RX8 yX8_trim cX8_trim 4 (some .int) 2 := ⟨⟨bw_959, bw_65, by decide, by decide, by decide +kernel⟩, bw_957, bw_958⟩
def mTrV (sn : Nat) (g : Nat → Int32) (gp : Nat → Int32) (gh : Nat → Int32) (a1 : Int32) (a2 : Int32) : Int32 := if mIc a1 = 0 then (-2) else if mIw a2 (-20) (nI 20) = 0 then (-2) else (g (10 + (ix a1)) + (nI 20))
def mTrG (sn : Nat) (g : Nat → Int32) (gp : Nat → Int32) (gh : Nat → Int32) (a1 : Int32) (a2 : Int32) : Nat → Int32 := if mIc a1 = 0 then g else if mIw a2 (-20) (nI 20) = 0 then g else upd g (10 + (ix a1)) a2
def mTrP (sn : Nat) (g : Nat → Int32) (gp : Nat → Int32) (gh : Nat → Int32) (a1 : Int32) (a2 : Int32) : Nat → Int32 := if mIc a1 = 0 then gp else if mIw a2 (-20) (nI 20) = 0 then gp else (va_cpy g gp 0 0 293)
def mTrN (sn : Nat) (g : Nat → Int32) (gp : Nat → Int32) (gh : Nat → Int32) (a1 : Int32) (a2 : Int32) : Nat := if mIc a1 = 0 then sn else if mIw a2 (-20) (nI 20) = 0 then sn else rcN (g (10 + (ix a1)) + (nI 20)) sn
def mTrH (sn : Nat) (g : Nat → Int32) (gp : Nat → Int32) (gh : Nat → Int32) (a1 : Int32) (a2 : Int32) : Nat → Int32 := if mIc a1 = 0 then gh else if mIw a2 (-20) (nI 20) = 0 then gh else rcH (g (10 + (ix a1)) + (nI 20)) sn (va_cpy g gp 0 0 293) gh
set_option maxHeartbeats 4000000 in
set_option maxRecDepth 100000 in
theorem c_X8_trim (l : Launch) (E : EV) (xo : Nat) (st : Nat) (sp : Nat) (th : Nat) (so : Nat) (sv : Nat) (pd : Nat) (nu : Nat) (sn : Nat) (ln : Nat) (ta : Nat) (sg : Int32) (g : Nat → Int32) (gp : Nat → Int32) (gh : Nat → Int32) (a1 : Int32) (a2 : Int32) (hsn : sn ≤ 6) : rcI l E yX8_trim cX8_trim 4 .int 4 [.ref xo, .int a1, .int a2] [(xo, .inr (5, [.ref st, .ref sp, .ref th, .int (nI sn), .ref so, .ref sv, .ref pd, .int (nI ln), .int (nI ta), .int sg, .ref nu])), (st, .inl (E.2.1, 293, .inl g)), (sp, .inl (E.2.1, 293, .inl gp)), (th, .inl (E.2.1, 1758, .inl gh))] (mTrV sn g gp gh a1 a2) [(xo, .inr (5, [.ref st, .ref sp, .ref th, .int (nI (mTrN sn g gp gh a1 a2)), .ref so, .ref sv, .ref pd, .int (nI ln), .int (nI ta), .int sg, .ref nu])), (st, .inl (E.2.1, 293, .inl (mTrG sn g gp gh a1 a2))), (sp, .inl (E.2.1, 293, .inl (mTrP sn g gp gh a1 a2))), (th, .inl (E.2.1, 1758, .inl (mTrH sn g gp gh a1 a2)))] := by
  refine rcI_of (by decide) (Nat.le_of_ble_eq_true rfl) ?_
  intro pg e s m below meth c Q A ls S hP hD0 hE hA hl hret
  have hx := S.1
  have hb := S.2.1
  have hown := S.2.2.2.1
  have hts := S.2.2.2.2
  have hK := hE.1
  have hS : va_S A s.heap s.heap [] := va_S.rf
  have hDa : va_Da A [xo, st, sp, th] := ⟨_, hD0, rfl⟩
  have hl : lv_has ls 4 [(0, .ref xo), (1, .int a1), (2, .int a2)] := hl
  refine lv_iload_n hx hb dX8_trim_0 rfl (lv_at hl 1 rfl) ?_
  refine rwS1 (rest := []) S (c_X8_isColour l E a1) cd_X8_isColour bw_824 ⟨Nat.le_of_ble_eq_true rfl, Nat.le_of_ble_eq_true rfl⟩ ⟨Nat.zero_le _, Nat.zero_le _⟩ hP (hDa.to rfl) hE hA hS [] rfl rfl [] rfl rfl (Nat.le_of_ble_eq_true rfl) hl.1 dX8_trim_1 (fun H locs hP _ hS => ?_)
  have hP : va_P E.1 vwCl [(xo, .inr (5, [.ref st, .ref sp, .ref th, .int (nI sn), .ref so, .ref sv, .ref pd, .int (nI ln), .int (nI ta), .int sg, .ref nu])), (st, .inl (E.2.1, 293, .inl g)), (sp, .inl (E.2.1, 293, .inl gp)), (th, .inl (E.2.1, 1758, .inl gh))] H := hP
  refine lv_if_eq (tgt := 18) hx hb dX8_trim_4 (by decide) (fun c_1 => ?_) (fun c_1 => ?_)
  · refine lv_bipush (v := (-2)) hx hb dX8_trim_18 (by decide) ?_
    exact hret _ _ _ _ _ _ (by rw [mTrV, if_pos c_1]) (by rw [show mTrG sn g gp gh a1 a2 = g from by rw [mTrG, if_pos c_1], show mTrP sn g gp gh a1 a2 = gp from by rw [mTrP, if_pos c_1], show mTrN sn g gp gh a1 a2 = sn from by rw [mTrN, if_pos c_1], show mTrH sn g gp gh a1 a2 = gh from by rw [mTrH, if_pos c_1]]) rfl hP hS dX8_trim_20
  · obtain ⟨co, h9_co, rfl⟩ : ∃ co : Nat, co < 3 ∧ a1 = nI co := (mIc_of c_1)
    refine lv_iload_n hx hb dX8_trim_7 rfl (lv_at hl 2 rfl) ?_
    refine lv_bipush (v := (-20)) hx hb dX8_trim_8 (by decide) ?_
    refine lv_bipush (v := nI 20) hx hb dX8_trim_10 (by decide) ?_
    refine rwS3 (rest := []) S (c_X8_within l E a2 (-20) (nI 20)) cd_X8_within bw_755 ⟨Nat.le_of_ble_eq_true rfl, Nat.le_of_ble_eq_true rfl⟩ ⟨Nat.zero_le _, Nat.zero_le _⟩ hP (hDa.to rfl) hE hA hS [] rfl rfl [] rfl rfl (Nat.le_of_ble_eq_true rfl) hl.1 dX8_trim_12 (fun H locs hP _ hS => ?_)
    have hP : va_P E.1 vwCl [(xo, .inr (5, [.ref st, .ref sp, .ref th, .int (nI sn), .ref so, .ref sv, .ref pd, .int (nI ln), .int (nI ta), .int sg, .ref nu])), (st, .inl (E.2.1, 293, .inl g)), (sp, .inl (E.2.1, 293, .inl gp)), (th, .inl (E.2.1, 1758, .inl gh))] H := hP
    refine lv_if_ne (tgt := 21) hx hb dX8_trim_15 (by decide) (fun c_2 => ?_) (fun c_2 => ?_)
    · refine lv_aload_n hx hb dX8_trim_21 rfl (lv_at hl 0 rfl) ?_
      refine rwVv0 (rest := []) S (c_X8_putAside l E xo st sp th so sv pd nu sn ln ta sg g gp) cd_X8_putAside bw_762 ⟨Nat.le_of_ble_eq_true rfl, Nat.le_of_ble_eq_true rfl⟩ ⟨Nat.zero_le _, Nat.zero_le _⟩ hP (hDa.to rfl) hE hA hS [0, 1, 2] rfl rfl [xo, st, sp] rfl rfl (ci := 5) rfl (q0 := 0) rfl (Nat.le_of_ble_eq_true rfl) hl.1 dX8_trim_22 (fun H locs hP _ hS => ?_)
      have hP : va_P E.1 vwCl [(xo, .inr (5, [.ref st, .ref sp, .ref th, .int (nI sn), .ref so, .ref sv, .ref pd, .int (nI ln), .int (nI ta), .int sg, .ref nu])), (st, .inl (E.2.1, 293, .inl g)), (sp, .inl (E.2.1, 293, .inl (va_cpy g gp 0 0 293))), (th, .inl (E.2.1, 1758, .inl gh))] H := hP
      refine lv_aload_n hx hb dX8_trim_25 rfl (lv_at hl 0 rfl) ?_
      refine va_get (D := E.1) (ci := 5) (v := .ref st) (C := RX8) (T := TX8) (N := 11) hx hb hts inb_X8 hown hK hP 0 rfl rfl 0 (by decide) (hts _ bw_710) (fun _ h9 => h9) rfl dX8_trim_26 ?_
      refine lv_bipush (v := nI 10) hx hb dX8_trim_29 (by decide) ?_
      refine lv_iload_n hx hb dX8_trim_31 rfl (lv_at hl 1 rfl) ?_
      refine rn_add (a := 10) (b := co) hx hb dX8_trim_32 ?_
      refine rn_iald (i := 10 + co) hx hb hK hP 1 0 rfl rfl (by omega) (by omega) dX8_trim_33 ?_
      refine lv_istore_n (lv' := [(3, .int (g (10 + co))), (0, .ref xo), (1, .int (nI co)), (2, .int a2)]) hx hb dX8_trim_34 rfl hl (by decide) rfl (fun ls hl => ?_)
      refine lv_aload_n hx hb dX8_trim_35 rfl (lv_at hl 1 rfl) ?_
      refine va_get (D := E.1) (ci := 5) (v := .ref st) (C := RX8) (T := TX8) (N := 11) hx hb hts inb_X8 hown hK hP 0 rfl rfl 0 (by decide) (hts _ bw_710) (fun _ h9 => h9) rfl dX8_trim_36 ?_
      refine lv_bipush (v := nI 10) hx hb dX8_trim_39 (by decide) ?_
      refine lv_iload_n hx hb dX8_trim_41 rfl (lv_at hl 2 rfl) ?_
      refine rn_add (a := 10) (b := co) hx hb dX8_trim_42 ?_
      refine lv_iload_n hx hb dX8_trim_43 rfl (lv_at hl 3 rfl) ?_
      refine rn_iast (i := 10 + co) hx hb hK hP (hDa.to rfl) hS 1 0 rfl rfl (by omega) (by omega) dX8_trim_44 (fun H locs hP _ hS => ?_)
      have hP : va_P E.1 vwCl [(xo, .inr (5, [.ref st, .ref sp, .ref th, .int (nI sn), .ref so, .ref sv, .ref pd, .int (nI ln), .int (nI ta), .int sg, .ref nu])), (st, .inl (E.2.1, 293, .inl (upd g (10 + co) a2))), (sp, .inl (E.2.1, 293, .inl (va_cpy g gp 0 0 293))), (th, .inl (E.2.1, 1758, .inl gh))] H := hP
      refine lv_aload_n hx hb dX8_trim_45 rfl (lv_at hl 1 rfl) ?_
      refine lv_iload_n hx hb dX8_trim_46 rfl (lv_at hl 0 rfl) ?_
      refine lv_bipush (v := nI 20) hx hb dX8_trim_47 (by decide) ?_
      refine lv_iadd hx hb dX8_trim_49 ?_
      refine rwV1 (rest := []) S (c_X8_recorded l E xo st sp th so sv pd nu sn ln ta sg (va_cpy g gp 0 0 293) gh (g (10 + co) + (nI 20)) hsn) cd_X8_recorded bw_777 ⟨Nat.le_of_ble_eq_true rfl, Nat.le_of_ble_eq_true rfl⟩ ⟨Nat.zero_le _, Nat.zero_le _⟩ hP (hDa.to rfl) hE hA hS [0, 2, 3] rfl rfl [xo, sp, th] rfl rfl (ci := 5) rfl (q0 := 0) rfl (Nat.le_of_ble_eq_true rfl) hl.1 dX8_trim_50 (fun H locs hP _ hS => ?_)
      have hP : va_P E.1 vwCl [(xo, .inr (5, [.ref st, .ref sp, .ref th, .int (nI (rcN (g (10 + co) + (nI 20)) sn)), .ref so, .ref sv, .ref pd, .int (nI ln), .int (nI ta), .int sg, .ref nu])), (st, .inl (E.2.1, 293, .inl (upd g (10 + co) a2))), (sp, .inl (E.2.1, 293, .inl (va_cpy g gp 0 0 293))), (th, .inl (E.2.1, 1758, .inl (rcH (g (10 + co) + (nI 20)) sn (va_cpy g gp 0 0 293) gh)))] H := hP
      exact hret _ _ _ _ _ _ (by first | rw [mTrV, ix_nI (show co < 2 ^ 31 by omega), if_neg c_1, if_neg c_2] | rw [mTrV, if_neg c_1, if_neg c_2] | simp only [mTrV, ix_nI (show co < 2 ^ 31 by omega), if_neg c_1, if_neg c_2]) (by rw [show mTrG sn g gp gh (nI co) a2 = upd g (10 + co) a2 from by first | rw [mTrG, ix_nI (show co < 2 ^ 31 by omega), if_neg c_1, if_neg c_2] | rw [mTrG, if_neg c_1, if_neg c_2] | simp only [mTrG, ix_nI (show co < 2 ^ 31 by omega), if_neg c_1, if_neg c_2], show mTrP sn g gp gh (nI co) a2 = (va_cpy g gp 0 0 293) from by first | rw [mTrP, ix_nI (show co < 2 ^ 31 by omega), if_neg c_1, if_neg c_2] | rw [mTrP, if_neg c_1, if_neg c_2] | simp only [mTrP, ix_nI (show co < 2 ^ 31 by omega), if_neg c_1, if_neg c_2], show mTrN sn g gp gh (nI co) a2 = rcN (g (10 + co) + (nI 20)) sn from by first | rw [mTrN, ix_nI (show co < 2 ^ 31 by omega), if_neg c_1, if_neg c_2] | rw [mTrN, if_neg c_1, if_neg c_2] | simp only [mTrN, ix_nI (show co < 2 ^ 31 by omega), if_neg c_1, if_neg c_2], show mTrH sn g gp gh (nI co) a2 = rcH (g (10 + co) + (nI 20)) sn (va_cpy g gp 0 0 293) gh from by first | rw [mTrH, ix_nI (show co < 2 ^ 31 by omega), if_neg c_1, if_neg c_2] | rw [mTrH, if_neg c_1, if_neg c_2] | simp only [mTrH, ix_nI (show co < 2 ^ 31 by omega), if_neg c_1, if_neg c_2]]) rfl hP hS dX8_trim_53
    · refine lv_bipush (v := (-2)) hx hb dX8_trim_18 (by decide) ?_
      exact hret _ _ _ _ _ _ (by first | rw [mTrV, ix_nI (show co < 2 ^ 31 by omega), if_neg c_1, if_pos c_2] | rw [mTrV, if_neg c_1, if_pos c_2] | simp only [mTrV, ix_nI (show co < 2 ^ 31 by omega), if_neg c_1, if_pos c_2]) (by rw [show mTrG sn g gp gh (nI co) a2 = g from by first | rw [mTrG, ix_nI (show co < 2 ^ 31 by omega), if_neg c_1, if_pos c_2] | rw [mTrG, if_neg c_1, if_pos c_2] | simp only [mTrG, ix_nI (show co < 2 ^ 31 by omega), if_neg c_1, if_pos c_2], show mTrP sn g gp gh (nI co) a2 = gp from by first | rw [mTrP, ix_nI (show co < 2 ^ 31 by omega), if_neg c_1, if_pos c_2] | rw [mTrP, if_neg c_1, if_pos c_2] | simp only [mTrP, ix_nI (show co < 2 ^ 31 by omega), if_neg c_1, if_pos c_2], show mTrN sn g gp gh (nI co) a2 = sn from by first | rw [mTrN, ix_nI (show co < 2 ^ 31 by omega), if_neg c_1, if_pos c_2] | rw [mTrN, if_neg c_1, if_pos c_2] | simp only [mTrN, ix_nI (show co < 2 ^ 31 by omega), if_neg c_1, if_pos c_2], show mTrH sn g gp gh (nI co) a2 = gh from by first | rw [mTrH, ix_nI (show co < 2 ^ 31 by omega), if_neg c_1, if_pos c_2] | rw [mTrH, if_neg c_1, if_pos c_2] | simp only [mTrH, ix_nI (show co < 2 ^ 31 by omega), if_neg c_1, if_pos c_2]]) rfl hP hS dX8_trim_20

theorem cd_X8_lamp : cdV RX8 yX8_lamp cX8_lamp 3 (some .int) 1 := ⟨⟨bw_963, bw_65, by decide, by decide, by decide +kernel⟩, bw_961, bw_962⟩
def mLpV (sn : Nat) (g : Nat → Int32) (gp : Nat → Int32) (gh : Nat → Int32) (a1 : Int32) : Int32 := if mIc a1 = 0 then (-2) else (g (7 + (ix a1)))
def mLpG (sn : Nat) (g : Nat → Int32) (gp : Nat → Int32) (gh : Nat → Int32) (a1 : Int32) : Nat → Int32 := if mIc a1 = 0 then g else upd g (7 + (ix a1)) (nI 0)
def mLpP (sn : Nat) (g : Nat → Int32) (gp : Nat → Int32) (gh : Nat → Int32) (a1 : Int32) : Nat → Int32 := if mIc a1 = 0 then gp else (va_cpy g gp 0 0 293)
def mLpN (sn : Nat) (g : Nat → Int32) (gp : Nat → Int32) (gh : Nat → Int32) (a1 : Int32) : Nat := if mIc a1 = 0 then sn else rcN (g (7 + (ix a1))) sn
def mLpH (sn : Nat) (g : Nat → Int32) (gp : Nat → Int32) (gh : Nat → Int32) (a1 : Int32) : Nat → Int32 := if mIc a1 = 0 then gh else rcH (g (7 + (ix a1))) sn (va_cpy g gp 0 0 293) gh
set_option maxHeartbeats 4000000 in
set_option maxRecDepth 100000 in
theorem c_X8_lamp (l : Launch) (E : EV) (xo : Nat) (st : Nat) (sp : Nat) (th : Nat) (so : Nat) (sv : Nat) (pd : Nat) (nu : Nat) (sn : Nat) (ln : Nat) (ta : Nat) (sg : Int32) (g : Nat → Int32) (gp : Nat → Int32) (gh : Nat → Int32) (a1 : Int32) (hsn : sn ≤ 6) : rcI l E yX8_lamp cX8_lamp 3 .int 4 [.ref xo, .int a1] [(xo, .inr (5, [.ref st, .ref sp, .ref th, .int (nI sn), .ref so, .ref sv, .ref pd, .int (nI ln), .int (nI ta), .int sg, .ref nu])), (st, .inl (E.2.1, 293, .inl g)), (sp, .inl (E.2.1, 293, .inl gp)), (th, .inl (E.2.1, 1758, .inl gh))] (mLpV sn g gp gh a1) [(xo, .inr (5, [.ref st, .ref sp, .ref th, .int (nI (mLpN sn g gp gh a1)), .ref so, .ref sv, .ref pd, .int (nI ln), .int (nI ta), .int sg, .ref nu])), (st, .inl (E.2.1, 293, .inl (mLpG sn g gp gh a1))), (sp, .inl (E.2.1, 293, .inl (mLpP sn g gp gh a1))), (th, .inl (E.2.1, 1758, .inl (mLpH sn g gp gh a1)))] := by
  refine rcI_of (by decide) (Nat.le_of_ble_eq_true rfl) ?_
  intro pg e s m below meth c Q A ls S hP hD0 hE hA hl hret
  have hx := S.1
  have hb := S.2.1
  have hown := S.2.2.2.1
  have hts := S.2.2.2.2
  have hK := hE.1
  have hS : va_S A s.heap s.heap [] := va_S.rf
  have hDa : va_Da A [xo, st, sp, th] := ⟨_, hD0, rfl⟩
  have hl : lv_has ls 3 [(0, .ref xo), (1, .int a1)] := hl
  refine lv_iload_n hx hb dX8_lamp_0 rfl (lv_at hl 1 rfl) ?_
  refine rwS1 (rest := []) S (c_X8_isColour l E a1) cd_X8_isColour bw_824 ⟨Nat.le_of_ble_eq_true rfl, Nat.le_of_ble_eq_true rfl⟩ ⟨Nat.zero_le _, Nat.zero_le _⟩ hP (hDa.to rfl) hE hA hS [] rfl rfl [] rfl rfl (Nat.le_of_ble_eq_true rfl) hl.1 dX8_lamp_1 (fun H locs hP _ hS => ?_)
  have hP : va_P E.1 vwCl [(xo, .inr (5, [.ref st, .ref sp, .ref th, .int (nI sn), .ref so, .ref sv, .ref pd, .int (nI ln), .int (nI ta), .int sg, .ref nu])), (st, .inl (E.2.1, 293, .inl g)), (sp, .inl (E.2.1, 293, .inl gp)), (th, .inl (E.2.1, 1758, .inl gh))] H := hP
  refine lv_if_ne (tgt := 10) hx hb dX8_lamp_4 (by decide) (fun c_1 => ?_) (fun c_1 => ?_)
  · obtain ⟨co, h9_co, rfl⟩ : ∃ co : Nat, co < 3 ∧ a1 = nI co := (mIc_of c_1)
    refine lv_aload_n hx hb dX8_lamp_10 rfl (lv_at hl 0 rfl) ?_
    refine rwVv0 (rest := []) S (c_X8_putAside l E xo st sp th so sv pd nu sn ln ta sg g gp) cd_X8_putAside bw_762 ⟨Nat.le_of_ble_eq_true rfl, Nat.le_of_ble_eq_true rfl⟩ ⟨Nat.zero_le _, Nat.zero_le _⟩ hP (hDa.to rfl) hE hA hS [0, 1, 2] rfl rfl [xo, st, sp] rfl rfl (ci := 5) rfl (q0 := 0) rfl (Nat.le_of_ble_eq_true rfl) hl.1 dX8_lamp_11 (fun H locs hP _ hS => ?_)
    have hP : va_P E.1 vwCl [(xo, .inr (5, [.ref st, .ref sp, .ref th, .int (nI sn), .ref so, .ref sv, .ref pd, .int (nI ln), .int (nI ta), .int sg, .ref nu])), (st, .inl (E.2.1, 293, .inl g)), (sp, .inl (E.2.1, 293, .inl (va_cpy g gp 0 0 293))), (th, .inl (E.2.1, 1758, .inl gh))] H := hP
    refine lv_aload_n hx hb dX8_lamp_14 rfl (lv_at hl 0 rfl) ?_
    refine va_get (D := E.1) (ci := 5) (v := .ref st) (C := RX8) (T := TX8) (N := 11) hx hb hts inb_X8 hown hK hP 0 rfl rfl 0 (by decide) (hts _ bw_710) (fun _ h9 => h9) rfl dX8_lamp_15 ?_
    refine lv_bipush (v := nI 7) hx hb dX8_lamp_18 (by decide) ?_
    refine lv_iload_n hx hb dX8_lamp_20 rfl (lv_at hl 1 rfl) ?_
    refine rn_add (a := 7) (b := co) hx hb dX8_lamp_21 ?_
    refine rn_iald (i := 7 + co) hx hb hK hP 1 0 rfl rfl (by omega) (by omega) dX8_lamp_22 ?_
    refine lv_istore_n (lv' := [(2, .int (g (7 + co))), (0, .ref xo), (1, .int (nI co))]) hx hb dX8_lamp_23 rfl hl (by decide) rfl (fun ls hl => ?_)
    refine lv_aload_n hx hb dX8_lamp_24 rfl (lv_at hl 1 rfl) ?_
    refine va_get (D := E.1) (ci := 5) (v := .ref st) (C := RX8) (T := TX8) (N := 11) hx hb hts inb_X8 hown hK hP 0 rfl rfl 0 (by decide) (hts _ bw_710) (fun _ h9 => h9) rfl dX8_lamp_25 ?_
    refine lv_bipush (v := nI 7) hx hb dX8_lamp_28 (by decide) ?_
    refine lv_iload_n hx hb dX8_lamp_30 rfl (lv_at hl 2 rfl) ?_
    refine rn_add (a := 7) (b := co) hx hb dX8_lamp_31 ?_
    refine lv_iconst (v := nI 0) hx hb dX8_lamp_32 (by decide) ?_
    refine rn_iast (i := 7 + co) hx hb hK hP (hDa.to rfl) hS 1 0 rfl rfl (by omega) (by omega) dX8_lamp_33 (fun H locs hP _ hS => ?_)
    have hP : va_P E.1 vwCl [(xo, .inr (5, [.ref st, .ref sp, .ref th, .int (nI sn), .ref so, .ref sv, .ref pd, .int (nI ln), .int (nI ta), .int sg, .ref nu])), (st, .inl (E.2.1, 293, .inl (upd g (7 + co) (nI 0)))), (sp, .inl (E.2.1, 293, .inl (va_cpy g gp 0 0 293))), (th, .inl (E.2.1, 1758, .inl gh))] H := hP
    refine lv_aload_n hx hb dX8_lamp_34 rfl (lv_at hl 1 rfl) ?_
    refine lv_iload_n hx hb dX8_lamp_35 rfl (lv_at hl 0 rfl) ?_
    refine rwV1 (rest := []) S (c_X8_recorded l E xo st sp th so sv pd nu sn ln ta sg (va_cpy g gp 0 0 293) gh (g (7 + co)) hsn) cd_X8_recorded bw_777 ⟨Nat.le_of_ble_eq_true rfl, Nat.le_of_ble_eq_true rfl⟩ ⟨Nat.zero_le _, Nat.zero_le _⟩ hP (hDa.to rfl) hE hA hS [0, 2, 3] rfl rfl [xo, sp, th] rfl rfl (ci := 5) rfl (q0 := 0) rfl (Nat.le_of_ble_eq_true rfl) hl.1 dX8_lamp_36 (fun H locs hP _ hS => ?_)
    have hP : va_P E.1 vwCl [(xo, .inr (5, [.ref st, .ref sp, .ref th, .int (nI (rcN (g (7 + co)) sn)), .ref so, .ref sv, .ref pd, .int (nI ln), .int (nI ta), .int sg, .ref nu])), (st, .inl (E.2.1, 293, .inl (upd g (7 + co) (nI 0)))), (sp, .inl (E.2.1, 293, .inl (va_cpy g gp 0 0 293))), (th, .inl (E.2.1, 1758, .inl (rcH (g (7 + co)) sn (va_cpy g gp 0 0 293) gh)))] H := hP
    exact hret _ _ _ _ _ _ (by first | rw [mLpV, ix_nI (show co < 2 ^ 31 by omega), if_neg c_1] | rw [mLpV, if_neg c_1] | simp only [mLpV, ix_nI (show co < 2 ^ 31 by omega), if_neg c_1]) (by rw [show mLpG sn g gp gh (nI co) = upd g (7 + co) (nI 0) from by first | rw [mLpG, ix_nI (show co < 2 ^ 31 by omega), if_neg c_1] | rw [mLpG, if_neg c_1] | simp only [mLpG, ix_nI (show co < 2 ^ 31 by omega), if_neg c_1], show mLpP sn g gp gh (nI co) = (va_cpy g gp 0 0 293) from by first | rw [mLpP, ix_nI (show co < 2 ^ 31 by omega), if_neg c_1] | rw [mLpP, if_neg c_1] | simp only [mLpP, ix_nI (show co < 2 ^ 31 by omega), if_neg c_1], show mLpN sn g gp gh (nI co) = rcN (g (7 + co)) sn from by first | rw [mLpN, ix_nI (show co < 2 ^ 31 by omega), if_neg c_1] | rw [mLpN, if_neg c_1] | simp only [mLpN, ix_nI (show co < 2 ^ 31 by omega), if_neg c_1], show mLpH sn g gp gh (nI co) = rcH (g (7 + co)) sn (va_cpy g gp 0 0 293) gh from by first | rw [mLpH, ix_nI (show co < 2 ^ 31 by omega), if_neg c_1] | rw [mLpH, if_neg c_1] | simp only [mLpH, ix_nI (show co < 2 ^ 31 by omega), if_neg c_1]]) rfl hP hS dX8_lamp_39
  · refine lv_bipush (v := (-2)) hx hb dX8_lamp_7 (by decide) ?_
    exact hret _ _ _ _ _ _ (by rw [mLpV, if_pos c_1]) (by rw [show mLpG sn g gp gh a1 = g from by rw [mLpG, if_pos c_1], show mLpP sn g gp gh a1 = gp from by rw [mLpP, if_pos c_1], show mLpN sn g gp gh a1 = sn from by rw [mLpN, if_pos c_1], show mLpH sn g gp gh a1 = gh from by rw [mLpH, if_pos c_1]]) rfl hP hS dX8_lamp_9

theorem cd_X8_save : cdV RX8 yX8_save cX8_save 3 (some .int) 1 := ⟨⟨bw_751, bw_65, by decide, by decide, by decide +kernel⟩, bw_749, bw_750⟩
def mSvV (n : Nat) (gs : Nat → Int32) (gv : Nat → Int32) (g : Nat → Int32) (a1 : Int32) : Int32 := if mIl a1 = 0 then (-2) else nI n
def mSvS (n : Nat) (gs : Nat → Int32) (gv : Nat → Int32) (g : Nat → Int32) (a1 : Int32) : Nat → Int32 := if mIl a1 = 0 then gs else va_cpy g gs 0 ((ix a1) * 293) 293
def mSvF (n : Nat) (gs : Nat → Int32) (gv : Nat → Int32) (g : Nat → Int32) (a1 : Int32) : Nat → Int32 := if mIl a1 = 0 then gv else upd gv (ix a1) (nI 1)
set_option maxHeartbeats 4000000 in
set_option maxRecDepth 100000 in
theorem c_X8_save (l : Launch) (E : EV) (xo : Nat) (st : Nat) (sp : Nat) (th : Nat) (so : Nat) (sv : Nat) (pd : Nat) (nu : Nat) (sn : Nat) (ln : Nat) (ta : Nat) (sg : Int32) (g : Nat → Int32) (gs : Nat → Int32) (gv : Nat → Int32) (n : Nat) (a1 : Int32) (hf : g 4 = nI n) (hn : n ≤ 20) : rcI l E yX8_save cX8_save 3 .int 2 [.ref xo, .int a1] [(xo, .inr (5, [.ref st, .ref sp, .ref th, .int (nI sn), .ref so, .ref sv, .ref pd, .int (nI ln), .int (nI ta), .int sg, .ref nu])), (st, .inl (E.2.1, 293, .inl g)), (so, .inl (E.2.1, 586, .inl gs)), (sv, .inl (E.2.1, 2, .inl gv))] (mSvV n gs gv g a1) [(xo, .inr (5, [.ref st, .ref sp, .ref th, .int (nI sn), .ref so, .ref sv, .ref pd, .int (nI ln), .int (nI ta), .int sg, .ref nu])), (st, .inl (E.2.1, 293, .inl g)), (so, .inl (E.2.1, 586, .inl (mSvS n gs gv g a1))), (sv, .inl (E.2.1, 2, .inl (mSvF n gs gv g a1)))] := by
  refine rcI_of (by decide) (Nat.le_of_ble_eq_true rfl) ?_
  intro pg e s m below meth c Q A ls S hP hD0 hE hA hl hret
  have hx := S.1
  have hb := S.2.1
  have hown := S.2.2.2.1
  have hts := S.2.2.2.2
  have hK := hE.1
  have hS : va_S A s.heap s.heap [] := va_S.rf
  have hDa : va_Da A [xo, st, so, sv] := ⟨_, hD0, rfl⟩
  have hl : lv_has ls 3 [(0, .ref xo), (1, .int a1)] := hl
  refine lv_iload_n hx hb dX8_save_0 rfl (lv_at hl 1 rfl) ?_
  refine rwS1 (rest := []) S (c_X8_isSlot l E a1) cd_X8_isSlot bw_752 ⟨Nat.le_of_ble_eq_true rfl, Nat.le_of_ble_eq_true rfl⟩ ⟨Nat.zero_le _, Nat.zero_le _⟩ hP (hDa.to rfl) hE hA hS [] rfl rfl [] rfl rfl (Nat.le_of_ble_eq_true rfl) hl.1 dX8_save_1 (fun H locs hP _ hS => ?_)
  have hP : va_P E.1 vwCl [(xo, .inr (5, [.ref st, .ref sp, .ref th, .int (nI sn), .ref so, .ref sv, .ref pd, .int (nI ln), .int (nI ta), .int sg, .ref nu])), (st, .inl (E.2.1, 293, .inl g)), (so, .inl (E.2.1, 586, .inl gs)), (sv, .inl (E.2.1, 2, .inl gv))] H := hP
  refine lv_if_ne (tgt := 10) hx hb dX8_save_4 (by decide) (fun c_1 => ?_) (fun c_1 => ?_)
  · obtain ⟨i, h9_i, rfl⟩ : ∃ i : Nat, i < 2 ∧ a1 = nI i := (mIw_of (n := 1) (by omega) c_1)
    refine lv_iconst (v := nI 0) hx hb dX8_save_10 (by decide) ?_
    refine lv_istore_n (lv' := [(2, .int (nI 0)), (0, .ref xo), (1, .int (nI i))]) hx hb dX8_save_11 rfl hl (by decide) rfl (fun ls hl => ?_)
    have loop12 : ∀ (fuel : Nat) (k : Nat), 293 - k < fuel → (k ≤ 293) → ∀ (H : Heap) (locs : List Loc), va_P E.1 vwCl [(xo, .inr (5, [.ref st, .ref sp, .ref th, .int (nI sn), .ref so, .ref sv, .ref pd, .int (nI ln), .int (nI ta), .int sg, .ref nu])), (st, .inl (E.2.1, 293, .inl g)), (so, .inl (E.2.1, 586, .inl (va_cpy g gs 0 (i * 293) k))), (sv, .inl (E.2.1, 2, .inl gv))] H → va_S A s.heap H locs → ∀ ls : Array Slot, lv_has ls 3 [(2, .int (nI k)), (0, .ref xo), (1, .int (nI i))] → W pg l e (rq 2) s m ([.ref xo, .int (nI i)] : List Value).toArray below meth c H locs 0 0 Q (F0 m 12 ls []) := by
      intro fuel
      induction fuel with
      | zero => intro k h9; exact absurd h9 (Nat.not_lt_zero _)
      | succ fuel ih12 =>
        intro k hfu12 hk H locs hP hS ls hl
        refine lv_iload_n hx hb dX8_save_12 rfl (lv_at hl 0 rfl) ?_
        refine lv_sipush (v := nI 293) hx hb dX8_save_13 (by decide) ?_
        refine rn_icmp_ge (a := k) (b := 293) (tgt := 43) hx hb (by omega) (by omega) dX8_save_16 (by decide) (fun c_2 => ?_) (fun c_2 => ?_)
        · have hex : 293 = k := by omega
          subst hex
          refine lv_aload_n hx hb dX8_save_43 rfl (lv_at hl 1 rfl) ?_
          refine va_get (D := E.1) (ci := 5) (v := .ref sv) (C := RX8) (T := TX8) (N := 11) hx hb hts inb_X8 hown hK hP 0 rfl rfl 5 (by decide) (hts _ bw_715) (fun _ h9 => h9) rfl dX8_save_44 ?_
          refine lv_iload_n hx hb dX8_save_47 rfl (lv_at hl 2 rfl) ?_
          refine lv_iconst (v := nI 1) hx hb dX8_save_48 (by decide) ?_
          refine rn_iast (i := i) hx hb hK hP (hDa.to rfl) hS 3 0 rfl rfl (by omega) (by omega) dX8_save_49 (fun H locs hP _ hS => ?_)
          have hP : va_P E.1 vwCl [(xo, .inr (5, [.ref st, .ref sp, .ref th, .int (nI sn), .ref so, .ref sv, .ref pd, .int (nI ln), .int (nI ta), .int sg, .ref nu])), (st, .inl (E.2.1, 293, .inl g)), (so, .inl (E.2.1, 586, .inl (va_cpy g gs 0 (i * 293) 293))), (sv, .inl (E.2.1, 2, .inl (upd gv i (nI 1))))] H := hP
          refine lv_aload_n hx hb dX8_save_50 rfl (lv_at hl 1 rfl) ?_
          refine va_get (D := E.1) (ci := 5) (v := .ref st) (C := RX8) (T := TX8) (N := 11) hx hb hts inb_X8 hown hK hP 0 rfl rfl 0 (by decide) (hts _ bw_710) (fun _ h9 => h9) rfl dX8_save_51 ?_
          refine lv_iconst (v := nI 4) hx hb dX8_save_54 (by decide) ?_
          refine rn_iald (i := 4) hx hb hK hP 1 0 rfl rfl (by omega) (by omega) dX8_save_55 ?_
          refine W.eq (congrArg (fun z => F0 m 56 ls (.int z :: [])) (show g 4 = nI n from hf)) ?_
          exact hret _ _ _ _ _ _ (by first | rw [mSvV, ix_nI (show i < 2 ^ 31 by omega), if_neg c_1] | rw [mSvV, if_neg c_1] | simp only [mSvV, ix_nI (show i < 2 ^ 31 by omega), if_neg c_1]) (by rw [show mSvS n gs gv g (nI i) = va_cpy g gs 0 (i * 293) 293 from by first | rw [mSvS, ix_nI (show i < 2 ^ 31 by omega), if_neg c_1] | rw [mSvS, if_neg c_1] | simp only [mSvS, ix_nI (show i < 2 ^ 31 by omega), if_neg c_1], show mSvF n gs gv g (nI i) = upd gv i (nI 1) from by first | rw [mSvF, ix_nI (show i < 2 ^ 31 by omega), if_neg c_1] | rw [mSvF, if_neg c_1] | simp only [mSvF, ix_nI (show i < 2 ^ 31 by omega), if_neg c_1]]) rfl hP hS dX8_save_56
        · refine lv_aload_n hx hb dX8_save_19 rfl (lv_at hl 1 rfl) ?_
          refine va_get (D := E.1) (ci := 5) (v := .ref so) (C := RX8) (T := TX8) (N := 11) hx hb hts inb_X8 hown hK hP 0 rfl rfl 4 (by decide) (hts _ bw_714) (fun _ h9 => h9) rfl dX8_save_20 ?_
          refine lv_iload_n hx hb dX8_save_23 rfl (lv_at hl 2 rfl) ?_
          refine lv_sipush (v := nI 293) hx hb dX8_save_24 (by decide) ?_
          refine rn_mul (a := i) (b := 293) hx hb dX8_save_27 ?_
          refine lv_iload_n hx hb dX8_save_28 rfl (lv_at hl 0 rfl) ?_
          refine rn_add (a := i * 293) (b := k) hx hb dX8_save_29 ?_
          refine lv_aload_n hx hb dX8_save_30 rfl (lv_at hl 1 rfl) ?_
          refine va_get (D := E.1) (ci := 5) (v := .ref st) (C := RX8) (T := TX8) (N := 11) hx hb hts inb_X8 hown hK hP 0 rfl rfl 0 (by decide) (hts _ bw_710) (fun _ h9 => h9) rfl dX8_save_31 ?_
          refine lv_iload_n hx hb dX8_save_34 rfl (lv_at hl 0 rfl) ?_
          refine rn_iald (i := k) hx hb hK hP 1 0 rfl rfl (by omega) (by omega) dX8_save_35 ?_
          refine rn_iast (i := i * 293 + k) hx hb hK hP (hDa.to rfl) hS 2 0 rfl rfl (by omega) (by omega) dX8_save_36 (fun H locs hP _ hS => ?_)
          have hP : va_P E.1 vwCl [(xo, .inr (5, [.ref st, .ref sp, .ref th, .int (nI sn), .ref so, .ref sv, .ref pd, .int (nI ln), .int (nI ta), .int sg, .ref nu])), (st, .inl (E.2.1, 293, .inl g)), (so, .inl (E.2.1, 586, .inl (upd (va_cpy g gs 0 (i * 293) k) (i * 293 + k) (g k)))), (sv, .inl (E.2.1, 2, .inl gv))] H := hP
          refine rn_inc (a := k) (d := 1) (lv' := [(2, .int (nI (k + 1))), (0, .ref xo), (1, .int (nI i))]) hx hb dX8_save_37 hl (k := 0) rfl (by decide) (by decide) rfl (fun ls hl => ?_)
          refine lv_goto (tgt := 12) hx hb dX8_save_40 (by decide) ?_
          have hP : va_P E.1 vwCl [(xo, .inr (5, [.ref st, .ref sp, .ref th, .int (nI sn), .ref so, .ref sv, .ref pd, .int (nI ln), .int (nI ta), .int sg, .ref nu])), (st, .inl (E.2.1, 293, .inl g)), (so, .inl (E.2.1, 586, .inl (va_cpy g gs 0 (i * 293) (k + 1)))), (sv, .inl (E.2.1, 2, .inl gv))] H := by rw [cpy_sb] at hP; exact hP
          have hl : lv_has ls 3 [(2, .int (nI (k + 1))), (0, .ref xo), (1, .int (nI i))] := lv_sub hl [0, 1, 2] rfl
          exact ih12 (k + 1) (by omega) (by omega) _ _ hP hS _ hl
    have hP : va_P E.1 vwCl [(xo, .inr (5, [.ref st, .ref sp, .ref th, .int (nI sn), .ref so, .ref sv, .ref pd, .int (nI ln), .int (nI ta), .int sg, .ref nu])), (st, .inl (E.2.1, 293, .inl g)), (so, .inl (E.2.1, 586, .inl (va_cpy g gs 0 (i * 293) 0))), (sv, .inl (E.2.1, 2, .inl gv))] H := by rw [cpy_0]; exact hP
    have hl : lv_has ls 3 [(2, .int (nI 0)), (0, .ref xo), (1, .int (nI i))] := lv_sub hl [0, 1, 2] rfl
    exact loop12 _ 0 (Nat.lt_succ_self _) (by omega) _ _ hP hS _ hl
  · refine lv_bipush (v := (-2)) hx hb dX8_save_7 (by decide) ?_
    exact hret _ _ _ _ _ _ (by rw [mSvV, if_pos c_1]) (by rw [show mSvS n gs gv g a1 = gs from by rw [mSvS, if_pos c_1], show mSvF n gs gv g a1 = gv from by rw [mSvF, if_pos c_1]]) rfl hP hS dX8_save_9

theorem cd_X8_restore : cdV RX8 yX8_restore cX8_restore 3 (some .int) 1 := ⟨⟨bw_761, bw_65, by decide, by decide, by decide +kernel⟩, bw_759, bw_760⟩
def mReV (sn : Nat) (g : Nat → Int32) (gp : Nat → Int32) (gh : Nat → Int32) (gs : Nat → Int32) (gv : Nat → Int32) (a1 : Int32) : Int32 := if mIl a1 = 0 then (-2) else if gv (ix a1) = 0 then (-5) else (va_cpy gs g ((ix a1) * 293) 0 293) 4
def mReG (sn : Nat) (g : Nat → Int32) (gp : Nat → Int32) (gh : Nat → Int32) (gs : Nat → Int32) (gv : Nat → Int32) (a1 : Int32) : Nat → Int32 := if mIl a1 = 0 then g else if gv (ix a1) = 0 then g else va_cpy gs g ((ix a1) * 293) 0 293
def mReP (sn : Nat) (g : Nat → Int32) (gp : Nat → Int32) (gh : Nat → Int32) (gs : Nat → Int32) (gv : Nat → Int32) (a1 : Int32) : Nat → Int32 := if mIl a1 = 0 then gp else if gv (ix a1) = 0 then gp else (va_cpy g gp 0 0 293)
def mReN (sn : Nat) (g : Nat → Int32) (gp : Nat → Int32) (gh : Nat → Int32) (gs : Nat → Int32) (gv : Nat → Int32) (a1 : Int32) : Nat := if mIl a1 = 0 then sn else if gv (ix a1) = 0 then sn else puN sn
def mReH (sn : Nat) (g : Nat → Int32) (gp : Nat → Int32) (gh : Nat → Int32) (gs : Nat → Int32) (gv : Nat → Int32) (a1 : Int32) : Nat → Int32 := if mIl a1 = 0 then gh else if gv (ix a1) = 0 then gh else puH sn (va_cpy g gp 0 0 293) gh
set_option maxHeartbeats 4000000 in
set_option maxRecDepth 100000 in
theorem c_X8_restore (l : Launch) (E : EV) (xo : Nat) (st : Nat) (sp : Nat) (th : Nat) (so : Nat) (sv : Nat) (pd : Nat) (nu : Nat) (sn : Nat) (ln : Nat) (ta : Nat) (sg : Int32) (g : Nat → Int32) (gp : Nat → Int32) (gh : Nat → Int32) (gs : Nat → Int32) (gv : Nat → Int32) (a1 : Int32) (hsn : sn ≤ 6) : rcI l E yX8_restore cX8_restore 3 .int 3 [.ref xo, .int a1] [(xo, .inr (5, [.ref st, .ref sp, .ref th, .int (nI sn), .ref so, .ref sv, .ref pd, .int (nI ln), .int (nI ta), .int sg, .ref nu])), (st, .inl (E.2.1, 293, .inl g)), (sp, .inl (E.2.1, 293, .inl gp)), (th, .inl (E.2.1, 1758, .inl gh)), (so, .inl (E.2.1, 586, .inl gs)), (sv, .inl (E.2.1, 2, .inl gv))] (mReV sn g gp gh gs gv a1) [(xo, .inr (5, [.ref st, .ref sp, .ref th, .int (nI (mReN sn g gp gh gs gv a1)), .ref so, .ref sv, .ref pd, .int (nI ln), .int (nI ta), .int sg, .ref nu])), (st, .inl (E.2.1, 293, .inl (mReG sn g gp gh gs gv a1))), (sp, .inl (E.2.1, 293, .inl (mReP sn g gp gh gs gv a1))), (th, .inl (E.2.1, 1758, .inl (mReH sn g gp gh gs gv a1))), (so, .inl (E.2.1, 586, .inl gs)), (sv, .inl (E.2.1, 2, .inl gv))] := by
  refine rcI_of (by decide) (Nat.le_of_ble_eq_true rfl) ?_
  intro pg e s m below meth c Q A ls S hP hD0 hE hA hl hret
  have hx := S.1
  have hb := S.2.1
  have hown := S.2.2.2.1
  have hts := S.2.2.2.2
  have hK := hE.1
  have hS : va_S A s.heap s.heap [] := va_S.rf
  have hDa : va_Da A [xo, st, sp, th, so, sv] := ⟨_, hD0, rfl⟩
  have hl : lv_has ls 3 [(0, .ref xo), (1, .int a1)] := hl
  refine lv_iload_n hx hb dX8_restore_0 rfl (lv_at hl 1 rfl) ?_
  refine rwS1 (rest := []) S (c_X8_isSlot l E a1) cd_X8_isSlot bw_752 ⟨Nat.le_of_ble_eq_true rfl, Nat.le_of_ble_eq_true rfl⟩ ⟨Nat.zero_le _, Nat.zero_le _⟩ hP (hDa.to rfl) hE hA hS [] rfl rfl [] rfl rfl (Nat.le_of_ble_eq_true rfl) hl.1 dX8_restore_1 (fun H locs hP _ hS => ?_)
  have hP : va_P E.1 vwCl [(xo, .inr (5, [.ref st, .ref sp, .ref th, .int (nI sn), .ref so, .ref sv, .ref pd, .int (nI ln), .int (nI ta), .int sg, .ref nu])), (st, .inl (E.2.1, 293, .inl g)), (sp, .inl (E.2.1, 293, .inl gp)), (th, .inl (E.2.1, 1758, .inl gh)), (so, .inl (E.2.1, 586, .inl gs)), (sv, .inl (E.2.1, 2, .inl gv))] H := hP
  refine lv_if_ne (tgt := 10) hx hb dX8_restore_4 (by decide) (fun c_1 => ?_) (fun c_1 => ?_)
  · obtain ⟨i, h9_i, rfl⟩ : ∃ i : Nat, i < 2 ∧ a1 = nI i := (mIw_of (n := 1) (by omega) c_1)
    refine lv_aload_n hx hb dX8_restore_10 rfl (lv_at hl 0 rfl) ?_
    refine va_get (D := E.1) (ci := 5) (v := .ref sv) (C := RX8) (T := TX8) (N := 11) hx hb hts inb_X8 hown hK hP 0 rfl rfl 5 (by decide) (hts _ bw_715) (fun _ h9 => h9) rfl dX8_restore_11 ?_
    refine lv_iload_n hx hb dX8_restore_14 rfl (lv_at hl 1 rfl) ?_
    refine rn_iald (i := i) hx hb hK hP 5 0 rfl rfl (by omega) (by omega) dX8_restore_15 ?_
    refine lv_if_ne (tgt := 22) hx hb dX8_restore_16 (by decide) (fun c_2 => ?_) (fun c_2 => ?_)
    · refine lv_aload_n hx hb dX8_restore_22 rfl (lv_at hl 0 rfl) ?_
      refine rwVv0 (rest := []) S (c_X8_putAside l E xo st sp th so sv pd nu sn ln ta sg g gp) cd_X8_putAside bw_762 ⟨Nat.le_of_ble_eq_true rfl, Nat.le_of_ble_eq_true rfl⟩ ⟨Nat.zero_le _, Nat.zero_le _⟩ hP (hDa.to rfl) hE hA hS [0, 1, 2] rfl rfl [xo, st, sp] rfl rfl (ci := 5) rfl (q0 := 0) rfl (Nat.le_of_ble_eq_true rfl) hl.1 dX8_restore_23 (fun H locs hP _ hS => ?_)
      have hP : va_P E.1 vwCl [(xo, .inr (5, [.ref st, .ref sp, .ref th, .int (nI sn), .ref so, .ref sv, .ref pd, .int (nI ln), .int (nI ta), .int sg, .ref nu])), (st, .inl (E.2.1, 293, .inl g)), (sp, .inl (E.2.1, 293, .inl (va_cpy g gp 0 0 293))), (th, .inl (E.2.1, 1758, .inl gh)), (so, .inl (E.2.1, 586, .inl gs)), (sv, .inl (E.2.1, 2, .inl gv))] H := hP
      refine lv_aload_n hx hb dX8_restore_26 rfl (lv_at hl 0 rfl) ?_
      refine rwVv0 (rest := []) S (c_X8_push l E xo st sp th so sv pd nu sn ln ta sg (va_cpy g gp 0 0 293) gh hsn) cd_X8_push bw_766 ⟨Nat.le_of_ble_eq_true rfl, Nat.le_of_ble_eq_true rfl⟩ ⟨Nat.zero_le _, Nat.zero_le _⟩ hP (hDa.to rfl) hE hA hS [0, 2, 3] rfl rfl [xo, sp, th] rfl rfl (ci := 5) rfl (q0 := 0) rfl (Nat.le_of_ble_eq_true rfl) hl.1 dX8_restore_27 (fun H locs hP _ hS => ?_)
      have hP : va_P E.1 vwCl [(xo, .inr (5, [.ref st, .ref sp, .ref th, .int (nI (puN sn)), .ref so, .ref sv, .ref pd, .int (nI ln), .int (nI ta), .int sg, .ref nu])), (st, .inl (E.2.1, 293, .inl g)), (sp, .inl (E.2.1, 293, .inl (va_cpy g gp 0 0 293))), (th, .inl (E.2.1, 1758, .inl (puH sn (va_cpy g gp 0 0 293) gh))), (so, .inl (E.2.1, 586, .inl gs)), (sv, .inl (E.2.1, 2, .inl gv))] H := hP
      refine lv_iconst (v := nI 0) hx hb dX8_restore_30 (by decide) ?_
      refine lv_istore_n (lv' := [(2, .int (nI 0)), (0, .ref xo), (1, .int (nI i))]) hx hb dX8_restore_31 rfl hl (by decide) rfl (fun ls hl => ?_)
      have loop32 : ∀ (fuel : Nat) (k : Nat), 293 - k < fuel → (k ≤ 293) → ∀ (H : Heap) (locs : List Loc), va_P E.1 vwCl [(xo, .inr (5, [.ref st, .ref sp, .ref th, .int (nI (puN sn)), .ref so, .ref sv, .ref pd, .int (nI ln), .int (nI ta), .int sg, .ref nu])), (st, .inl (E.2.1, 293, .inl (va_cpy gs g (i * 293) 0 k))), (sp, .inl (E.2.1, 293, .inl (va_cpy g gp 0 0 293))), (th, .inl (E.2.1, 1758, .inl (puH sn (va_cpy g gp 0 0 293) gh))), (so, .inl (E.2.1, 586, .inl gs)), (sv, .inl (E.2.1, 2, .inl gv))] H → va_S A s.heap H locs → ∀ ls : Array Slot, lv_has ls 3 [(2, .int (nI k)), (0, .ref xo), (1, .int (nI i))] → W pg l e (rq 3) s m ([.ref xo, .int (nI i)] : List Value).toArray below meth c H locs 0 0 Q (F0 m 32 ls []) := by
        intro fuel
        induction fuel with
        | zero => intro k h9; exact absurd h9 (Nat.not_lt_zero _)
        | succ fuel ih32 =>
          intro k hfu32 hk H locs hP hS ls hl
          refine lv_iload_n hx hb dX8_restore_32 rfl (lv_at hl 0 rfl) ?_
          refine lv_sipush (v := nI 293) hx hb dX8_restore_33 (by decide) ?_
          refine rn_icmp_ge (a := k) (b := 293) (tgt := 63) hx hb (by omega) (by omega) dX8_restore_36 (by decide) (fun c_3 => ?_) (fun c_3 => ?_)
          · have hex : 293 = k := by omega
            subst hex
            refine lv_aload_n hx hb dX8_restore_63 rfl (lv_at hl 1 rfl) ?_
            refine va_get (D := E.1) (ci := 5) (v := .ref st) (C := RX8) (T := TX8) (N := 11) hx hb hts inb_X8 hown hK hP 0 rfl rfl 0 (by decide) (hts _ bw_710) (fun _ h9 => h9) rfl dX8_restore_64 ?_
            refine lv_iconst (v := nI 4) hx hb dX8_restore_67 (by decide) ?_
            refine rn_iald (i := 4) hx hb hK hP 1 0 rfl rfl (by omega) (by omega) dX8_restore_68 ?_
            exact hret _ _ _ _ _ _ (by first | rw [mReV, ix_nI (show i < 2 ^ 31 by omega), if_neg c_1, if_neg c_2] | rw [mReV, if_neg c_1, if_neg c_2] | simp only [mReV, ix_nI (show i < 2 ^ 31 by omega), if_neg c_1, if_neg c_2]) (by rw [show mReG sn g gp gh gs gv (nI i) = va_cpy gs g (i * 293) 0 293 from by first | rw [mReG, ix_nI (show i < 2 ^ 31 by omega), if_neg c_1, if_neg c_2] | rw [mReG, if_neg c_1, if_neg c_2] | simp only [mReG, ix_nI (show i < 2 ^ 31 by omega), if_neg c_1, if_neg c_2], show mReP sn g gp gh gs gv (nI i) = (va_cpy g gp 0 0 293) from by first | rw [mReP, ix_nI (show i < 2 ^ 31 by omega), if_neg c_1, if_neg c_2] | rw [mReP, if_neg c_1, if_neg c_2] | simp only [mReP, ix_nI (show i < 2 ^ 31 by omega), if_neg c_1, if_neg c_2], show mReN sn g gp gh gs gv (nI i) = puN sn from by first | rw [mReN, ix_nI (show i < 2 ^ 31 by omega), if_neg c_1, if_neg c_2] | rw [mReN, if_neg c_1, if_neg c_2] | simp only [mReN, ix_nI (show i < 2 ^ 31 by omega), if_neg c_1, if_neg c_2], show mReH sn g gp gh gs gv (nI i) = puH sn (va_cpy g gp 0 0 293) gh from by first | rw [mReH, ix_nI (show i < 2 ^ 31 by omega), if_neg c_1, if_neg c_2] | rw [mReH, if_neg c_1, if_neg c_2] | simp only [mReH, ix_nI (show i < 2 ^ 31 by omega), if_neg c_1, if_neg c_2]]) rfl hP hS dX8_restore_69
          · refine lv_aload_n hx hb dX8_restore_39 rfl (lv_at hl 1 rfl) ?_
            refine va_get (D := E.1) (ci := 5) (v := .ref st) (C := RX8) (T := TX8) (N := 11) hx hb hts inb_X8 hown hK hP 0 rfl rfl 0 (by decide) (hts _ bw_710) (fun _ h9 => h9) rfl dX8_restore_40 ?_
            refine lv_iload_n hx hb dX8_restore_43 rfl (lv_at hl 0 rfl) ?_
            refine lv_aload_n hx hb dX8_restore_44 rfl (lv_at hl 1 rfl) ?_
            refine va_get (D := E.1) (ci := 5) (v := .ref so) (C := RX8) (T := TX8) (N := 11) hx hb hts inb_X8 hown hK hP 0 rfl rfl 4 (by decide) (hts _ bw_714) (fun _ h9 => h9) rfl dX8_restore_45 ?_
            refine lv_iload_n hx hb dX8_restore_48 rfl (lv_at hl 2 rfl) ?_
            refine lv_sipush (v := nI 293) hx hb dX8_restore_49 (by decide) ?_
            refine rn_mul (a := i) (b := 293) hx hb dX8_restore_52 ?_
            refine lv_iload_n hx hb dX8_restore_53 rfl (lv_at hl 0 rfl) ?_
            refine rn_add (a := i * 293) (b := k) hx hb dX8_restore_54 ?_
            refine rn_iald (i := i * 293 + k) hx hb hK hP 4 0 rfl rfl (by omega) (by omega) dX8_restore_55 ?_
            refine rn_iast (i := k) hx hb hK hP (hDa.to rfl) hS 1 0 rfl rfl (by omega) (by omega) dX8_restore_56 (fun H locs hP _ hS => ?_)
            have hP : va_P E.1 vwCl [(xo, .inr (5, [.ref st, .ref sp, .ref th, .int (nI (puN sn)), .ref so, .ref sv, .ref pd, .int (nI ln), .int (nI ta), .int sg, .ref nu])), (st, .inl (E.2.1, 293, .inl (upd (va_cpy gs g (i * 293) 0 k) k (gs (i * 293 + k))))), (sp, .inl (E.2.1, 293, .inl (va_cpy g gp 0 0 293))), (th, .inl (E.2.1, 1758, .inl (puH sn (va_cpy g gp 0 0 293) gh))), (so, .inl (E.2.1, 586, .inl gs)), (sv, .inl (E.2.1, 2, .inl gv))] H := hP
            refine rn_inc (a := k) (d := 1) (lv' := [(2, .int (nI (k + 1))), (0, .ref xo), (1, .int (nI i))]) hx hb dX8_restore_57 hl (k := 0) rfl (by decide) (by decide) rfl (fun ls hl => ?_)
            refine lv_goto (tgt := 32) hx hb dX8_restore_60 (by decide) ?_
            have hP : va_P E.1 vwCl [(xo, .inr (5, [.ref st, .ref sp, .ref th, .int (nI (puN sn)), .ref so, .ref sv, .ref pd, .int (nI ln), .int (nI ta), .int sg, .ref nu])), (st, .inl (E.2.1, 293, .inl (va_cpy gs g (i * 293) 0 (k + 1)))), (sp, .inl (E.2.1, 293, .inl (va_cpy g gp 0 0 293))), (th, .inl (E.2.1, 1758, .inl (puH sn (va_cpy g gp 0 0 293) gh))), (so, .inl (E.2.1, 586, .inl gs)), (sv, .inl (E.2.1, 2, .inl gv))] H := by rw [cpy_sa] at hP; exact hP
            have hl : lv_has ls 3 [(2, .int (nI (k + 1))), (0, .ref xo), (1, .int (nI i))] := lv_sub hl [0, 1, 2] rfl
            exact ih32 (k + 1) (by omega) (by omega) _ _ hP hS _ hl
      have hP : va_P E.1 vwCl [(xo, .inr (5, [.ref st, .ref sp, .ref th, .int (nI (puN sn)), .ref so, .ref sv, .ref pd, .int (nI ln), .int (nI ta), .int sg, .ref nu])), (st, .inl (E.2.1, 293, .inl (va_cpy gs g (i * 293) 0 0))), (sp, .inl (E.2.1, 293, .inl (va_cpy g gp 0 0 293))), (th, .inl (E.2.1, 1758, .inl (puH sn (va_cpy g gp 0 0 293) gh))), (so, .inl (E.2.1, 586, .inl gs)), (sv, .inl (E.2.1, 2, .inl gv))] H := by rw [cpy_0]; exact hP
      have hl : lv_has ls 3 [(2, .int (nI 0)), (0, .ref xo), (1, .int (nI i))] := lv_sub hl [0, 1, 2] rfl
      exact loop32 _ 0 (Nat.lt_succ_self _) (by omega) _ _ hP hS _ hl
    · refine lv_bipush (v := (-5)) hx hb dX8_restore_19 (by decide) ?_
      exact hret _ _ _ _ _ _ (by first | rw [mReV, ix_nI (show i < 2 ^ 31 by omega), if_neg c_1, if_pos c_2] | rw [mReV, if_neg c_1, if_pos c_2] | simp only [mReV, ix_nI (show i < 2 ^ 31 by omega), if_neg c_1, if_pos c_2]) (by rw [show mReG sn g gp gh gs gv (nI i) = g from by first | rw [mReG, ix_nI (show i < 2 ^ 31 by omega), if_neg c_1, if_pos c_2] | rw [mReG, if_neg c_1, if_pos c_2] | simp only [mReG, ix_nI (show i < 2 ^ 31 by omega), if_neg c_1, if_pos c_2], show mReP sn g gp gh gs gv (nI i) = gp from by first | rw [mReP, ix_nI (show i < 2 ^ 31 by omega), if_neg c_1, if_pos c_2] | rw [mReP, if_neg c_1, if_pos c_2] | simp only [mReP, ix_nI (show i < 2 ^ 31 by omega), if_neg c_1, if_pos c_2], show mReN sn g gp gh gs gv (nI i) = sn from by first | rw [mReN, ix_nI (show i < 2 ^ 31 by omega), if_neg c_1, if_pos c_2] | rw [mReN, if_neg c_1, if_pos c_2] | simp only [mReN, ix_nI (show i < 2 ^ 31 by omega), if_neg c_1, if_pos c_2], show mReH sn g gp gh gs gv (nI i) = gh from by first | rw [mReH, ix_nI (show i < 2 ^ 31 by omega), if_neg c_1, if_pos c_2] | rw [mReH, if_neg c_1, if_pos c_2] | simp only [mReH, ix_nI (show i < 2 ^ 31 by omega), if_neg c_1, if_pos c_2]]) rfl hP hS dX8_restore_21
  · refine lv_bipush (v := (-2)) hx hb dX8_restore_7 (by decide) ?_
    exact hret _ _ _ _ _ _ (by rw [mReV, if_pos c_1]) (by rw [show mReG sn g gp gh gs gv a1 = g from by rw [mReG, if_pos c_1], show mReP sn g gp gh gs gv a1 = gp from by rw [mReP, if_pos c_1], show mReN sn g gp gh gs gv a1 = sn from by rw [mReN, if_pos c_1], show mReH sn g gp gh gs gv a1 = gh from by rw [mReH, if_pos c_1]]) rfl hP hS dX8_restore_9

