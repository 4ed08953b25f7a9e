/-! the reference: its small functions, its row of numbers -/
theorem cd_X8_within : cdS yX8_within cX8_within 3 (some .boolean) 3 := ⟨⟨bw_757, bw_65, by decide, by decide, by decide +kernel⟩, bw_756⟩
def mIw (x : Int32) (lo : Int32) (hi : Int32) : Int32 := if x < lo then nI 0 else if hi < x then nI 0 else nI 1
theorem mIw_z (x : Int32) (lo : Int32) (hi : Int32) : narrow .boolean (.int (mIw x lo hi)) = .int (mIw x lo hi) := by
  unfold mIw
  repeat' split
  all_goals first | decide | rfl
set_option maxHeartbeats 4000000 in
set_option maxRecDepth 100000 in
theorem c_X8_within (l : Launch) (E : EV) (x : Int32) (lo : Int32) (hi : Int32)  : rcI l E yX8_within cX8_within 3 .boolean 0 [.int x, .int lo, .int hi] [] (mIw x lo hi) [] := by
  refine rcI_of (by decide) (Nat.le_of_ble_eq_true rfl) ?_
  intro pg e s m below meth c Q A ls S hP hD0 hE hA hl hret
  have hx := S.1
  have hb := S.2.1
  have hown := S.2.2.2.1
  have hts := S.2.2.2.2
  have hK := hE.1
  have hS : va_S A s.heap s.heap [] := va_S.rf
  have hDa : va_Da A [] := ⟨_, hD0, rfl⟩
  have hl : lv_has ls 3 [(0, .int x), (1, .int lo), (2, .int hi)] := hl
  refine lv_iload_n hx hb dX8_within_0 rfl (lv_at hl 0 rfl) ?_
  refine lv_iload_n hx hb dX8_within_1 rfl (lv_at hl 1 rfl) ?_
  refine lv_icmp_lt (tgt := 14) hx hb dX8_within_2 (by decide) (fun c_1 => ?_) (fun c_1 => ?_)
  · refine lv_iconst (v := nI 0) hx hb dX8_within_14 (by decide) ?_
    exact hret _ _ _ _ _ _ (by rw [mIw, if_pos c_1]) rfl (by decide) hP hS dX8_within_15
  · refine lv_iload_n hx hb dX8_within_5 rfl (lv_at hl 0 rfl) ?_
    refine lv_iload_n hx hb dX8_within_6 rfl (lv_at hl 2 rfl) ?_
    refine lv_icmp_gt (tgt := 14) hx hb dX8_within_7 (by decide) (fun c_2 => ?_) (fun c_2 => ?_)
    · refine lv_iconst (v := nI 0) hx hb dX8_within_14 (by decide) ?_
      exact hret _ _ _ _ _ _ (by rw [mIw, if_neg c_1, if_pos c_2]) rfl (by decide) hP hS dX8_within_15
    · refine lv_iconst (v := nI 1) hx hb dX8_within_10 (by decide) ?_
      refine lv_goto (tgt := 15) hx hb dX8_within_11 (by decide) ?_
      exact hret _ _ _ _ _ _ (by rw [mIw, if_neg c_1, if_neg c_2]) rfl (by decide) hP hS dX8_within_15

theorem cd_X8_bounded : cdS yX8_bounded cX8_bounded 1 (some .int) 1 := ⟨⟨bw_916, bw_65, by decide, by decide, by decide +kernel⟩, bw_915⟩
def mBd (x : Int32) : Int32 := if 0 ≤ x then if x ≤ nI 50 then x else nI 50 else nI 0
set_option maxHeartbeats 4000000 in
set_option maxRecDepth 100000 in
theorem c_X8_bounded (l : Launch) (E : EV) (x : Int32)  : rcI l E yX8_bounded cX8_bounded 1 .int 0 [.int x] [] (mBd x) [] := by
  refine rcI_of (by decide) (Nat.le_of_ble_eq_true rfl) ?_
  intro pg e s m below meth c Q A ls S hP hD0 hE hA hl hret
  have hx := S.1
  have hb := S.2.1
  have hown := S.2.2.2.1
  have hts := S.2.2.2.2
  have hK := hE.1
  have hS : va_S A s.heap s.heap [] := va_S.rf
  have hDa : va_Da A [] := ⟨_, hD0, rfl⟩
  have hl : lv_has ls 1 [(0, .int x)] := hl
  refine lv_iload_n hx hb dX8_bounded_0 rfl (lv_at hl 0 rfl) ?_
  refine lv_if_ge (tgt := 8) hx hb dX8_bounded_1 (by decide) (fun c_1 => ?_) (fun c_1 => ?_)
  · refine lv_iload_n hx hb dX8_bounded_8 rfl (lv_at hl 0 rfl) ?_
    refine lv_bipush (v := nI 50) hx hb dX8_bounded_9 (by decide) ?_
    refine lv_icmp_le (tgt := 19) hx hb dX8_bounded_11 (by decide) (fun c_2 => ?_) (fun c_2 => ?_)
    · refine lv_iload_n hx hb dX8_bounded_19 rfl (lv_at hl 0 rfl) ?_
      exact hret _ _ _ _ _ _ (by rw [mBd, if_pos c_1, if_pos c_2]) rfl rfl hP hS dX8_bounded_20
    · refine lv_bipush (v := nI 50) hx hb dX8_bounded_14 (by decide) ?_
      refine lv_goto (tgt := 20) hx hb dX8_bounded_16 (by decide) ?_
      exact hret _ _ _ _ _ _ (by rw [mBd, if_pos c_1, if_neg c_2]) rfl rfl hP hS dX8_bounded_20
  · refine lv_iconst (v := nI 0) hx hb dX8_bounded_4 (by decide) ?_
    refine lv_goto (tgt := 20) hx hb dX8_bounded_5 (by decide) ?_
    exact hret _ _ _ _ _ _ (by rw [mBd, if_neg c_1]) rfl rfl hP hS dX8_bounded_20

theorem cd_X8_sizeOf : cdS yX8_sizeOf cX8_sizeOf 1 (some .int) 1 := ⟨⟨bw_853, bw_65, by decide, by decide, by decide +kernel⟩, bw_852⟩
def mAb (x : Int32) : Int32 := if 0 ≤ x then x else -x
set_option maxHeartbeats 4000000 in
set_option maxRecDepth 100000 in
theorem c_X8_sizeOf (l : Launch) (E : EV) (x : Int32)  : rcI l E yX8_sizeOf cX8_sizeOf 1 .int 0 [.int x] [] (mAb x) [] := by
  refine rcI_of (by decide) (Nat.le_of_ble_eq_true rfl) ?_
  intro pg e s m below meth c Q A ls S hP hD0 hE hA hl hret
  have hx := S.1
  have hb := S.2.1
  have hown := S.2.2.2.1
  have hts := S.2.2.2.2
  have hK := hE.1
  have hS : va_S A s.heap s.heap [] := va_S.rf
  have hDa : va_Da A [] := ⟨_, hD0, rfl⟩
  have hl : lv_has ls 1 [(0, .int x)] := hl
  refine lv_iload_n hx hb dX8_sizeOf_0 rfl (lv_at hl 0 rfl) ?_
  refine lv_if_ge (tgt := 9) hx hb dX8_sizeOf_1 (by decide) (fun c_1 => ?_) (fun c_1 => ?_)
  · refine lv_iload_n hx hb dX8_sizeOf_9 rfl (lv_at hl 0 rfl) ?_
    exact hret _ _ _ _ _ _ (by rw [mAb, if_pos c_1]) rfl rfl hP hS dX8_sizeOf_10
  · refine lv_iload_n hx hb dX8_sizeOf_4 rfl (lv_at hl 0 rfl) ?_
    refine lv_ineg hx hb dX8_sizeOf_5 ?_
    refine lv_goto (tgt := 10) hx hb dX8_sizeOf_6 (by decide) ?_
    exact hret _ _ _ _ _ _ (by rw [mAb, if_neg c_1]) rfl rfl hP hS dX8_sizeOf_10

theorem cd_X8_isColour : cdS yX8_isColour cX8_isColour 1 (some .boolean) 1 := ⟨⟨bw_826, bw_65, by decide, by decide, by decide +kernel⟩, bw_825⟩
def mIc (x : Int32) : Int32 := mIw x (nI 0) (nI 2)
theorem mIc_z (x : Int32) : narrow .boolean (.int (mIc x)) = .int (mIc x) := by
  unfold mIc
  repeat' split
  all_goals first | (with_reducible exact mIw_z _ _ _) | decide | rfl
set_option maxHeartbeats 4000000 in
set_option maxRecDepth 100000 in
theorem c_X8_isColour (l : Launch) (E : EV) (x : Int32)  : rcI l E yX8_isColour cX8_isColour 1 .boolean 1 [.int x] [] (mIc x) [] := by
  refine rcI_of (by decide) (Nat.le_of_ble_eq_true rfl) ?_
  intro pg e s m below meth c Q A ls S hP hD0 hE hA hl hret
  have hx := S.1
  have hb := S.2.1
  have hown := S.2.2.2.1
  have hts := S.2.2.2.2
  have hK := hE.1
  have hS : va_S A s.heap s.heap [] := va_S.rf
  have hDa : va_Da A [] := ⟨_, hD0, rfl⟩
  have hl : lv_has ls 1 [(0, .int x)] := hl
  refine lv_iload_n hx hb dX8_isColour_0 rfl (lv_at hl 0 rfl) ?_
  refine lv_iconst (v := nI 0) hx hb dX8_isColour_1 (by decide) ?_
  refine lv_iconst (v := nI 2) hx hb dX8_isColour_2 (by decide) ?_
  refine rwS3 (rest := []) S (c_X8_within l E x (nI 0) (nI 2)) cd_X8_within bw_755 ⟨Nat.le_of_ble_eq_true rfl, Nat.le_of_ble_eq_true rfl⟩ ⟨Nat.zero_le _, Nat.zero_le _⟩ hP (hDa.to rfl) hE hA hS [] rfl rfl [] rfl rfl (Nat.le_of_ble_eq_true rfl) hl.1 dX8_isColour_3 (fun H locs hP _ hS => ?_)
  have hP : va_P E.1 vwCl [] H := hP
  exact hret _ _ _ _ _ _ (by rw [mIc]) rfl (by first | (with_reducible exact mIw_z _ _ _) | assumption) hP hS dX8_isColour_6

theorem cd_X8_isPoints : cdS yX8_isPoints cX8_isPoints 1 (some .boolean) 1 := ⟨⟨bw_791, bw_65, by decide, by decide, by decide +kernel⟩, bw_790⟩
def mIp (x : Int32) : Int32 := mIw x (nI 0) (nI 50)
theorem mIp_z (x : Int32) : narrow .boolean (.int (mIp x)) = .int (mIp x) := by
  unfold mIp
  repeat' split
  all_goals first | (with_reducible exact mIw_z _ _ _) | decide | rfl
set_option maxHeartbeats 4000000 in
set_option maxRecDepth 100000 in
theorem c_X8_isPoints (l : Launch) (E : EV) (x : Int32)  : rcI l E yX8_isPoints cX8_isPoints 1 .boolean 1 [.int x] [] (mIp x) [] := by
  refine rcI_of (by decide) (Nat.le_of_ble_eq_true rfl) ?_
  intro pg e s m below meth c Q A ls S hP hD0 hE hA hl hret
  have hx := S.1
  have hb := S.2.1
  have hown := S.2.2.2.1
  have hts := S.2.2.2.2
  have hK := hE.1
  have hS : va_S A s.heap s.heap [] := va_S.rf
  have hDa : va_Da A [] := ⟨_, hD0, rfl⟩
  have hl : lv_has ls 1 [(0, .int x)] := hl
  refine lv_iload_n hx hb dX8_isPoints_0 rfl (lv_at hl 0 rfl) ?_
  refine lv_iconst (v := nI 0) hx hb dX8_isPoints_1 (by decide) ?_
  refine lv_bipush (v := nI 50) hx hb dX8_isPoints_2 (by decide) ?_
  refine rwS3 (rest := []) S (c_X8_within l E x (nI 0) (nI 50)) cd_X8_within bw_755 ⟨Nat.le_of_ble_eq_true rfl, Nat.le_of_ble_eq_true rfl⟩ ⟨Nat.zero_le _, Nat.zero_le _⟩ hP (hDa.to rfl) hE hA hS [] rfl rfl [] rfl rfl (Nat.le_of_ble_eq_true rfl) hl.1 dX8_isPoints_4 (fun H locs hP _ hS => ?_)
  have hP : va_P E.1 vwCl [] H := hP
  exact hret _ _ _ _ _ _ (by rw [mIp]) rfl (by first | (with_reducible exact mIw_z _ _ _) | assumption) hP hS dX8_isPoints_7

theorem cd_X8_isSlot : cdS yX8_isSlot cX8_isSlot 1 (some .boolean) 1 := ⟨⟨bw_754, bw_65, by decide, by decide, by decide +kernel⟩, bw_753⟩
def mIl (x : Int32) : Int32 := mIw x (nI 0) (nI 1)
theorem mIl_z (x : Int32) : narrow .boolean (.int (mIl x)) = .int (mIl x) := by
  unfold mIl
  repeat' split
  all_goals first | (with_reducible exact mIw_z _ _ _) | decide | rfl
set_option maxHeartbeats 4000000 in
set_option maxRecDepth 100000 in
theorem c_X8_isSlot (l : Launch) (E : EV) (x : Int32)  : rcI l E yX8_isSlot cX8_isSlot 1 .boolean 1 [.int x] [] (mIl x) [] := by
  refine rcI_of (by decide) (Nat.le_of_ble_eq_true rfl) ?_
  intro pg e s m below meth c Q A ls S hP hD0 hE hA hl hret
  have hx := S.1
  have hb := S.2.1
  have hown := S.2.2.2.1
  have hts := S.2.2.2.2
  have hK := hE.1
  have hS : va_S A s.heap s.heap [] := va_S.rf
  have hDa : va_Da A [] := ⟨_, hD0, rfl⟩
  have hl : lv_has ls 1 [(0, .int x)] := hl
  refine lv_iload_n hx hb dX8_isSlot_0 rfl (lv_at hl 0 rfl) ?_
  refine lv_iconst (v := nI 0) hx hb dX8_isSlot_1 (by decide) ?_
  refine lv_iconst (v := nI 1) hx hb dX8_isSlot_2 (by decide) ?_
  refine rwS3 (rest := []) S (c_X8_within l E x (nI 0) (nI 1)) cd_X8_within bw_755 ⟨Nat.le_of_ble_eq_true rfl, Nat.le_of_ble_eq_true rfl⟩ ⟨Nat.zero_le _, Nat.zero_le _⟩ hP (hDa.to rfl) hE hA hS [] rfl rfl [] rfl rfl (Nat.le_of_ble_eq_true rfl) hl.1 dX8_isSlot_3 (fun H locs hP _ hS => ?_)
  have hP : va_P E.1 vwCl [] H := hP
  exact hret _ _ _ _ _ _ (by rw [mIl]) rfl (by first | (with_reducible exact mIw_z _ _ _) | assumption) hP hS dX8_isSlot_6

theorem cd_X8_isCharacter : cdS yX8_isCharacter cX8_isCharacter 1 (some .boolean) 1 := ⟨⟨bw_1042, bw_65, by decide, by decide, by decide +kernel⟩, bw_1041⟩
def mIh (x : Int32) : Int32 := mIw x (nI 33) (nI 126)
theorem mIh_z (x : Int32) : narrow .boolean (.int (mIh x)) = .int (mIh x) := by
  unfold mIh
  repeat' split
  all_goals first | (with_reducible exact mIw_z _ _ _) | decide | rfl
set_option maxHeartbeats 4000000 in
set_option maxRecDepth 100000 in
theorem c_X8_isCharacter (l : Launch) (E : EV) (x : Int32)  : rcI l E yX8_isCharacter cX8_isCharacter 1 .boolean 1 [.int x] [] (mIh x) [] := by
  refine rcI_of (by decide) (Nat.le_of_ble_eq_true rfl) ?_
  intro pg e s m below meth c Q A ls S hP hD0 hE hA hl hret
  have hx := S.1
  have hb := S.2.1
  have hown := S.2.2.2.1
  have hts := S.2.2.2.2
  have hK := hE.1
  have hS : va_S A s.heap s.heap [] := va_S.rf
  have hDa : va_Da A [] := ⟨_, hD0, rfl⟩
  have hl : lv_has ls 1 [(0, .int x)] := hl
  refine lv_iload_n hx hb dX8_isCharacter_0 rfl (lv_at hl 0 rfl) ?_
  refine lv_bipush (v := nI 33) hx hb dX8_isCharacter_1 (by decide) ?_
  refine lv_bipush (v := nI 126) hx hb dX8_isCharacter_3 (by decide) ?_
  refine rwS3 (rest := []) S (c_X8_within l E x (nI 33) (nI 126)) cd_X8_within bw_755 ⟨Nat.le_of_ble_eq_true rfl, Nat.le_of_ble_eq_true rfl⟩ ⟨Nat.zero_le _, Nat.zero_le _⟩ hP (hDa.to rfl) hE hA hS [] rfl rfl [] rfl rfl (Nat.le_of_ble_eq_true rfl) hl.1 dX8_isCharacter_5 (fun H locs hP _ hS => ?_)
  have hP : va_P E.1 vwCl [] H := hP
  exact hret _ _ _ _ _ _ (by rw [mIh]) rfl (by first | (with_reducible exact mIw_z _ _ _) | assumption) hP hS dX8_isCharacter_8

theorem cd_X8_isShot : cdV RX8 yX8_isShot cX8_isShot 2 (some .boolean) 1 := ⟨⟨bw_811, bw_65, by decide, by decide, by decide +kernel⟩, bw_810, bw_16⟩
def mIs (g : Nat → Int32) (x : Int32) : Int32 := mIw x (nI 0) (g 4 - (nI 1))
theorem mIs_z (g : Nat → Int32) (x : Int32) : narrow .boolean (.int (mIs g x)) = .int (mIs g x) := by
  unfold mIs
  repeat' split
  all_goals first | (with_reducible exact mIw_z _ _ _) | decide | rfl
set_option maxHeartbeats 4000000 in
set_option maxRecDepth 100000 in
theorem c_X8_isShot (l : Launch) (E : EV) (xo : Nat) (st : Nat) (sp : Nat) (th : Nat) (so : Nat) (sv : Nat) (pd : Nat) (nu : Nat) (sn : Nat) (ln : Nat) (ta : Nat) (sg : Int32) (g : Nat → Int32) (x : Int32)  : rcI l E yX8_isShot cX8_isShot 2 .boolean 1 [.ref xo, .int x] [(xo, .inr (5, [.ref st, .ref sp, .ref th, .int (nI sn), .ref so, .ref sv, .ref pd, .int (nI ln), .int (nI ta), .int sg, .ref nu])), (st, .inl (E.2.1, 293, .inl g))] (mIs g x) [(xo, .inr (5, [.ref st, .ref sp, .ref th, .int (nI sn), .ref so, .ref sv, .ref pd, .int (nI ln), .int (nI ta), .int sg, .ref nu])), (st, .inl (E.2.1, 293, .inl g))] := by
  refine rcI_of (by decide) (Nat.le_of_ble_eq_true rfl) ?_
  intro pg e s m below meth c Q A ls S hP hD0 hE hA hl hret
  have hx := S.1
  have hb := S.2.1
  have hown := S.2.2.2.1
  have hts := S.2.2.2.2
  have hK := hE.1
  have hS : va_S A s.heap s.heap [] := va_S.rf
  have hDa : va_Da A [xo, st] := ⟨_, hD0, rfl⟩
  have hl : lv_has ls 2 [(0, .ref xo), (1, .int x)] := hl
  refine lv_iload_n hx hb dX8_isShot_0 rfl (lv_at hl 1 rfl) ?_
  refine lv_iconst (v := nI 0) hx hb dX8_isShot_1 (by decide) ?_
  refine lv_aload_n hx hb dX8_isShot_2 rfl (lv_at hl 0 rfl) ?_
  refine va_get (D := E.1) (ci := 5) (v := .ref st) (C := RX8) (T := TX8) (N := 11) hx hb hts inb_X8 hown hK hP 0 rfl rfl 0 (by decide) (hts _ bw_710) (fun _ h9 => h9) rfl dX8_isShot_3 ?_
  refine lv_iconst (v := nI 4) hx hb dX8_isShot_6 (by decide) ?_
  refine rn_iald (i := 4) hx hb hK hP 1 0 rfl rfl (by omega) (by omega) dX8_isShot_7 ?_
  refine lv_iconst (v := nI 1) hx hb dX8_isShot_8 (by decide) ?_
  refine lv_isub hx hb dX8_isShot_9 ?_
  refine rwS3 (rest := []) S (c_X8_within l E x (nI 0) (g 4 - (nI 1))) cd_X8_within bw_755 ⟨Nat.le_of_ble_eq_true rfl, Nat.le_of_ble_eq_true rfl⟩ ⟨Nat.zero_le _, Nat.zero_le _⟩ hP (hDa.to rfl) hE hA hS [] rfl rfl [] rfl rfl (Nat.le_of_ble_eq_true rfl) hl.1 dX8_isShot_10 (fun H locs hP _ hS => ?_)
  have hP : va_P E.1 vwCl [(xo, .inr (5, [.ref st, .ref sp, .ref th, .int (nI sn), .ref so, .ref sv, .ref pd, .int (nI ln), .int (nI ta), .int sg, .ref nu])), (st, .inl (E.2.1, 293, .inl g))] H := hP
  exact hret _ _ _ _ _ _ (by rw [mIs]) rfl (by first | (with_reducible exact mIw_z _ _ _) | assumption) hP hS dX8_isShot_13

theorem cd_X8_of14 : cdV RX8 yX8_of14 cX8_of14 3 (some .int) 2 := ⟨⟨bw_830, bw_65, by decide, by decide, by decide +kernel⟩, bw_829, bw_19⟩
set_option maxHeartbeats 4000000 in
set_option maxRecDepth 100000 in
theorem c_X8_of14 (l : Launch) (E : EV) (xo : Nat) (st : Nat) (sp : Nat) (th : Nat) (so : Nat) (sv : Nat) (pd : Nat) (nu : Nat) (sn : Nat) (ln : Nat) (ta : Nat) (sg : Int32) (g : Nat → Int32) (p : Nat) (j : Nat) (hp : p < 20) (hj : j < 14) : rcI l E yX8_of14 cX8_of14 3 .int 0 [.ref xo, .int (nI p), .int (nI j)] [(xo, .inr (5, [.ref st, .ref sp, .ref th, .int (nI sn), .ref so, .ref sv, .ref pd, .int (nI ln), .int (nI ta), .int sg, .ref nu])), (st, .inl (E.2.1, 293, .inl g))] (g (13 + 14 * p + j)) [(xo, .inr (5, [.ref st, .ref sp, .ref th, .int (nI sn), .ref so, .ref sv, .ref pd, .int (nI ln), .int (nI ta), .int sg, .ref nu])), (st, .inl (E.2.1, 293, .inl g))] := by
  refine rcI_of (by decide) (Nat.le_of_ble_eq_true rfl) ?_
  intro pg e s m below meth c Q A ls S hP hD0 hE hA hl hret
  have hx := S.1
  have hb := S.2.1
  have hown := S.2.2.2.1
  have hts := S.2.2.2.2
  have hK := hE.1
  have hS : va_S A s.heap s.heap [] := va_S.rf
  have hDa : va_Da A [xo, st] := ⟨_, hD0, rfl⟩
  have hl : lv_has ls 3 [(0, .ref xo), (1, .int (nI p)), (2, .int (nI j))] := hl
  refine lv_aload_n hx hb dX8_of14_0 rfl (lv_at hl 0 rfl) ?_
  refine va_get (D := E.1) (ci := 5) (v := .ref st) (C := RX8) (T := TX8) (N := 11) hx hb hts inb_X8 hown hK hP 0 rfl rfl 0 (by decide) (hts _ bw_710) (fun _ h9 => h9) rfl dX8_of14_1 ?_
  refine lv_bipush (v := nI 13) hx hb dX8_of14_4 (by decide) ?_
  refine lv_bipush (v := nI 14) hx hb dX8_of14_6 (by decide) ?_
  refine lv_iload_n hx hb dX8_of14_8 rfl (lv_at hl 1 rfl) ?_
  refine rn_mul (a := 14) (b := p) hx hb dX8_of14_9 ?_
  refine rn_add (a := 13) (b := 14 * p) hx hb dX8_of14_10 ?_
  refine lv_iload_n hx hb dX8_of14_11 rfl (lv_at hl 2 rfl) ?_
  refine rn_add (a := 13 + 14 * p) (b := j) hx hb dX8_of14_12 ?_
  refine rn_iald (i := 13 + 14 * p + j) hx hb hK hP 1 0 rfl rfl (by omega) (by omega) dX8_of14_13 ?_
  exact hret _ _ _ _ _ _ rfl rfl rfl hP hS dX8_of14_14

theorem cd_X8_setOf : cdV RX8 yX8_setOf cX8_setOf 4 none 3 := ⟨⟨bw_799, bw_65, by decide, by decide, by decide +kernel⟩, bw_798, bw_14⟩
set_option maxHeartbeats 4000000 in
set_option maxRecDepth 100000 in
theorem c_X8_setOf (l : Launch) (E : EV) (xo : Nat) (st : Nat) (sp : Nat) (th : Nat) (so : Nat) (sv : Nat) (pd : Nat) (nu : Nat) (sn : Nat) (ln : Nat) (ta : Nat) (sg : Int32) (g : Nat → Int32) (p : Nat) (j : Nat) (z : Int32) (hp : p < 20) (hj : j < 14) : rcV l E yX8_setOf cX8_setOf 4 0 [.ref xo, .int (nI p), .int (nI j), .int z] [(xo, .inr (5, [.ref st, .ref sp, .ref th, .int (nI sn), .ref so, .ref sv, .ref pd, .int (nI ln), .int (nI ta), .int sg, .ref nu])), (st, .inl (E.2.1, 293, .inl g))] [(xo, .inr (5, [.ref st, .ref sp, .ref th, .int (nI sn), .ref so, .ref sv, .ref pd, .int (nI ln), .int (nI ta), .int sg, .ref nu])), (st, .inl (E.2.1, 293, .inl (upd g (13 + 14 * p + j) z)))] := by
  refine rcV_of (by decide) (Nat.le_of_ble_eq_true rfl) ?_
  intro pg e s m below meth c Q A ls S hP hD0 hE hA hl hret
  have hx := S.1
  have hb := S.2.1
  have hown := S.2.2.2.1
  have hts := S.2.2.2.2
  have hK := hE.1
  have hS : va_S A s.heap s.heap [] := va_S.rf
  have hDa : va_Da A [xo, st] := ⟨_, hD0, rfl⟩
  have hl : lv_has ls 4 [(0, .ref xo), (1, .int (nI p)), (2, .int (nI j)), (3, .int z)] := hl
  refine lv_aload_n hx hb dX8_setOf_0 rfl (lv_at hl 0 rfl) ?_
  refine va_get (D := E.1) (ci := 5) (v := .ref st) (C := RX8) (T := TX8) (N := 11) hx hb hts inb_X8 hown hK hP 0 rfl rfl 0 (by decide) (hts _ bw_710) (fun _ h9 => h9) rfl dX8_setOf_1 ?_
  refine lv_bipush (v := nI 13) hx hb dX8_setOf_4 (by decide) ?_
  refine lv_bipush (v := nI 14) hx hb dX8_setOf_6 (by decide) ?_
  refine lv_iload_n hx hb dX8_setOf_8 rfl (lv_at hl 1 rfl) ?_
  refine rn_mul (a := 14) (b := p) hx hb dX8_setOf_9 ?_
  refine rn_add (a := 13) (b := 14 * p) hx hb dX8_setOf_10 ?_
  refine lv_iload_n hx hb dX8_setOf_11 rfl (lv_at hl 2 rfl) ?_
  refine rn_add (a := 13 + 14 * p) (b := j) hx hb dX8_setOf_12 ?_
  refine lv_iload_n hx hb dX8_setOf_13 rfl (lv_at hl 3 rfl) ?_
  refine rn_iast (i := 13 + 14 * p + j) hx hb hK hP (hDa.to rfl) hS 1 0 rfl rfl (by omega) (by omega) dX8_setOf_14 (fun H locs hP _ hS => ?_)
  have hP : va_P E.1 vwCl [(xo, .inr (5, [.ref st, .ref sp, .ref th, .int (nI sn), .ref so, .ref sv, .ref pd, .int (nI ln), .int (nI ta), .int sg, .ref nu])), (st, .inl (E.2.1, 293, .inl (upd g (13 + 14 * p + j) z)))] H := hP
  exact hret _ _ _ _ _ rfl hP hS dX8_setOf_15

