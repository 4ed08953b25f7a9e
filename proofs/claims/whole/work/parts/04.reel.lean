/-! the host's small static functions; the reel -/
theorem cd_X7_isWithin : cdS yX7_isWithin cX7_isWithin 3 (some .boolean) 3 := ⟨⟨bw_195, bw_58, by decide, by decide, by decide +kernel⟩, bw_194⟩
def isW (x : Int32) (lo : Int32) (hi : Int32) : Int32 := if x < lo then nI 0 else if hi < x then nI 0 else nI 1
theorem isW_z (x : Int32) (lo : Int32) (hi : Int32) : narrow .boolean (.int (isW x lo hi)) = .int (isW x lo hi) := by
  unfold isW
  repeat' split
  all_goals first | rfl | decide | rfl
set_option maxHeartbeats 4000000 in
set_option maxRecDepth 100000 in
theorem c_X7_isWithin (l : Launch) (E : EV) (x : Int32) (lo : Int32) (hi : Int32)  : rcI l E yX7_isWithin cX7_isWithin 3 .boolean 0 [.int x, .int lo, .int hi] [] (isW x lo hi) [] := by
  refine rcI_of (by decide) (Nat.le_of_ble_eq_true rfl) ?_
  intro pg e s m below meth c Q A ls S hP hD0 hE hA hl hret
  have hx := S.1
  have hb := S.2.1
  have hown := S.2.2.2.1
  have hts := S.2.2.2.2
  have hK := hE.1
  have hS : va_S A s.heap s.heap [] := va_S.rf
  have hl : lv_has ls 3 [(0, .int x), (1, .int lo), (2, .int hi)] := hl
  refine lv_iload_n hx hb dX7_isWithin_0 rfl (lv_at hl 0 rfl) ?_
  refine lv_iload_n hx hb dX7_isWithin_1 rfl (lv_at hl 1 rfl) ?_
  refine lv_icmp_lt (tgt := 14) hx hb dX7_isWithin_2 (by decide) (fun c_1 => ?_) (fun c_1 => ?_)
  · refine lv_iconst (v := nI 0) hx hb dX7_isWithin_14 (by decide) ?_
    exact hret _ _ _ _ _ _ (by rw [isW, if_pos c_1]) rfl (by decide) hP hS dX7_isWithin_15
  · refine lv_iload_n hx hb dX7_isWithin_5 rfl (lv_at hl 0 rfl) ?_
    refine lv_iload_n hx hb dX7_isWithin_6 rfl (lv_at hl 2 rfl) ?_
    refine lv_icmp_gt (tgt := 14) hx hb dX7_isWithin_7 (by decide) (fun c_2 => ?_) (fun c_2 => ?_)
    · refine lv_iconst (v := nI 0) hx hb dX7_isWithin_14 (by decide) ?_
      exact hret _ _ _ _ _ _ (by rw [isW, if_neg c_1, if_pos c_2]) rfl (by decide) hP hS dX7_isWithin_15
    · refine lv_iconst (v := nI 1) hx hb dX7_isWithin_10 (by decide) ?_
      refine lv_goto (tgt := 15) hx hb dX7_isWithin_11 (by decide) ?_
      exact hret _ _ _ _ _ _ (by rw [isW, if_neg c_1, if_neg c_2]) rfl (by decide) hP hS dX7_isWithin_15

theorem cd_X7_isColour : cdS yX7_isColour cX7_isColour 1 (some .boolean) 1 := ⟨⟨bw_289, bw_58, by decide, by decide, by decide +kernel⟩, bw_288⟩
def isC (x : Int32) : Int32 := isW x (nI 0) (nI 2)
theorem isC_z (x : Int32) : narrow .boolean (.int (isC x)) = .int (isC x) := by
  unfold isC
  repeat' split
  all_goals first | rfl | decide | exact isW_z _ _ _
set_option maxHeartbeats 4000000 in
set_option maxRecDepth 100000 in
theorem c_X7_isColour (l : Launch) (E : EV) (x : Int32)  : rcI l E yX7_isColour cX7_isColour 1 .boolean 1 [.int x] [] (isC x) [] := by
  refine rcI_of (by decide) (Nat.le_of_ble_eq_true rfl) ?_
  intro pg e s m below meth c Q A ls S hP hD0 hE hA hl hret
  have hx := S.1
  have hb := S.2.1
  have hown := S.2.2.2.1
  have hts := S.2.2.2.2
  have hK := hE.1
  have hS : va_S A s.heap s.heap [] := va_S.rf
  have hl : lv_has ls 1 [(0, .int x)] := hl
  refine lv_iload_n hx hb dX7_isColour_0 rfl (lv_at hl 0 rfl) ?_
  refine lv_iconst (v := nI 0) hx hb dX7_isColour_1 (by decide) ?_
  refine lv_iconst (v := nI 2) hx hb dX7_isColour_2 (by decide) ?_
  refine rwS (rest := []) S (c_X7_isWithin l E x (nI 0) (nI 2)) cd_X7_isWithin bw_242 ⟨Nat.le_of_ble_eq_true rfl, Nat.le_of_ble_eq_true rfl⟩ ⟨Nat.zero_le _, Nat.zero_le _⟩ hP (hD0.con rfl) hE hA hS [] rfl rfl rfl rfl rfl (Nat.le_of_ble_eq_true rfl) hl.1 dX7_isColour_3 (fun H locs hP _ hS => ?_)
  have hP : va_P E.1 vwCl [] H := hP
  exact hret _ _ _ _ _ _ (by rw [isC]) rfl (by first | exact isW_z _ _ _ | assumption) hP hS dX7_isColour_6

theorem cd_X7_isPoints : cdS yX7_isPoints cX7_isPoints 1 (some .boolean) 1 := ⟨⟨bw_241, bw_58, by decide, by decide, by decide +kernel⟩, bw_240⟩
def isP (x : Int32) : Int32 := isW x (nI 0) (nI 50)
theorem isP_z (x : Int32) : narrow .boolean (.int (isP x)) = .int (isP x) := by
  unfold isP
  repeat' split
  all_goals first | rfl | decide | exact isC_z _ | exact isW_z _ _ _
set_option maxHeartbeats 4000000 in
set_option maxRecDepth 100000 in
theorem c_X7_isPoints (l : Launch) (E : EV) (x : Int32)  : rcI l E yX7_isPoints cX7_isPoints 1 .boolean 1 [.int x] [] (isP x) [] := by
  refine rcI_of (by decide) (Nat.le_of_ble_eq_true rfl) ?_
  intro pg e s m below meth c Q A ls S hP hD0 hE hA hl hret
  have hx := S.1
  have hb := S.2.1
  have hown := S.2.2.2.1
  have hts := S.2.2.2.2
  have hK := hE.1
  have hS : va_S A s.heap s.heap [] := va_S.rf
  have hl : lv_has ls 1 [(0, .int x)] := hl
  refine lv_iload_n hx hb dX7_isPoints_0 rfl (lv_at hl 0 rfl) ?_
  refine lv_iconst (v := nI 0) hx hb dX7_isPoints_1 (by decide) ?_
  refine lv_bipush (v := nI 50) hx hb dX7_isPoints_2 (by decide) ?_
  refine rwS (rest := []) S (c_X7_isWithin l E x (nI 0) (nI 50)) cd_X7_isWithin bw_242 ⟨Nat.le_of_ble_eq_true rfl, Nat.le_of_ble_eq_true rfl⟩ ⟨Nat.zero_le _, Nat.zero_le _⟩ hP (hD0.con rfl) hE hA hS [] rfl rfl rfl rfl rfl (Nat.le_of_ble_eq_true rfl) hl.1 dX7_isPoints_4 (fun H locs hP _ hS => ?_)
  have hP : va_P E.1 vwCl [] H := hP
  exact hret _ _ _ _ _ _ (by rw [isP]) rfl (by first | exact isW_z _ _ _ | assumption) hP hS dX7_isPoints_7

theorem cd_X7_isSlot : cdS yX7_isSlot cX7_isSlot 1 (some .boolean) 1 := ⟨⟨bw_697, bw_58, by decide, by decide, by decide +kernel⟩, bw_696⟩
def isSl (x : Int32) : Int32 := isW x (nI 0) (nI 1)
theorem isSl_z (x : Int32) : narrow .boolean (.int (isSl x)) = .int (isSl x) := by
  unfold isSl
  repeat' split
  all_goals first | rfl | decide | exact isC_z _ | exact isP_z _ | exact isW_z _ _ _
set_option maxHeartbeats 4000000 in
set_option maxRecDepth 100000 in
theorem c_X7_isSlot (l : Launch) (E : EV) (x : Int32)  : rcI l E yX7_isSlot cX7_isSlot 1 .boolean 1 [.int x] [] (isSl x) [] := by
  refine rcI_of (by decide) (Nat.le_of_ble_eq_true rfl) ?_
  intro pg e s m below meth c Q A ls S hP hD0 hE hA hl hret
  have hx := S.1
  have hb := S.2.1
  have hown := S.2.2.2.1
  have hts := S.2.2.2.2
  have hK := hE.1
  have hS : va_S A s.heap s.heap [] := va_S.rf
  have hl : lv_has ls 1 [(0, .int x)] := hl
  refine lv_iload_n hx hb dX7_isSlot_0 rfl (lv_at hl 0 rfl) ?_
  refine lv_iconst (v := nI 0) hx hb dX7_isSlot_1 (by decide) ?_
  refine lv_iconst (v := nI 1) hx hb dX7_isSlot_2 (by decide) ?_
  refine rwS (rest := []) S (c_X7_isWithin l E x (nI 0) (nI 1)) cd_X7_isWithin bw_242 ⟨Nat.le_of_ble_eq_true rfl, Nat.le_of_ble_eq_true rfl⟩ ⟨Nat.zero_le _, Nat.zero_le _⟩ hP (hD0.con rfl) hE hA hS [] rfl rfl rfl rfl rfl (Nat.le_of_ble_eq_true rfl) hl.1 dX7_isSlot_3 (fun H locs hP _ hS => ?_)
  have hP : va_P E.1 vwCl [] H := hP
  exact hret _ _ _ _ _ _ (by rw [isSl]) rfl (by first | exact isW_z _ _ _ | assumption) hP hS dX7_isSlot_6

theorem cd_X7_bounded : cdS yX7_bounded cX7_bounded 1 (some .int) 1 := ⟨⟨bw_358, bw_58, by decide, by decide, by decide +kernel⟩, bw_357⟩
def bd (x : Int32) : Int32 := if 0 ≤ x then if x ≤ nI 50 then x else nI 50 else nI 0
set_option maxHeartbeats 4000000 in
set_option maxRecDepth 100000 in
theorem c_X7_bounded (l : Launch) (E : EV) (x : Int32)  : rcI l E yX7_bounded cX7_bounded 1 .int 0 [.int x] [] (bd x) [] := by
  refine rcI_of (by decide) (Nat.le_of_ble_eq_true rfl) ?_
  intro pg e s m below meth c Q A ls S hP hD0 hE hA hl hret
  have hx := S.1
  have hb := S.2.1
  have hown := S.2.2.2.1
  have hts := S.2.2.2.2
  have hK := hE.1
  have hS : va_S A s.heap s.heap [] := va_S.rf
  have hl : lv_has ls 1 [(0, .int x)] := hl
  refine lv_iload_n hx hb dX7_bounded_0 rfl (lv_at hl 0 rfl) ?_
  refine lv_if_ge (tgt := 8) hx hb dX7_bounded_1 (by decide) (fun c_1 => ?_) (fun c_1 => ?_)
  · refine lv_iload_n hx hb dX7_bounded_8 rfl (lv_at hl 0 rfl) ?_
    refine lv_bipush (v := nI 50) hx hb dX7_bounded_9 (by decide) ?_
    refine lv_icmp_le (tgt := 19) hx hb dX7_bounded_11 (by decide) (fun c_2 => ?_) (fun c_2 => ?_)
    · refine lv_iload_n hx hb dX7_bounded_19 rfl (lv_at hl 0 rfl) ?_
      exact hret _ _ _ _ _ _ (by rw [bd, if_pos c_1, if_pos c_2]) rfl rfl hP hS dX7_bounded_20
    · refine lv_bipush (v := nI 50) hx hb dX7_bounded_14 (by decide) ?_
      refine lv_goto (tgt := 20) hx hb dX7_bounded_16 (by decide) ?_
      exact hret _ _ _ _ _ _ (by rw [bd, if_pos c_1, if_neg c_2]) rfl rfl hP hS dX7_bounded_20
  · refine lv_iconst (v := nI 0) hx hb dX7_bounded_4 (by decide) ?_
    refine lv_goto (tgt := 20) hx hb dX7_bounded_5 (by decide) ?_
    exact hret _ _ _ _ _ _ (by rw [bd, if_neg c_1]) rfl rfl hP hS dX7_bounded_20

theorem cd_X3_read : cdV RX3 yX3_read cX3_read 2 (some .int) 1 := ⟨⟨bw_206, bw_59, by decide, by decide, by decide +kernel⟩, bw_204, bw_205⟩
set_option maxHeartbeats 4000000 in
set_option maxRecDepth 100000 in
theorem c_X3_read (l : Launch) (E : EV) (r : Nat) (rc : Nat) (f : Nat → Int32) (x : Nat) (hxx : x < 293) : rcI l E yX3_read cX3_read 2 .int 0 [.ref r, .int (nI x)] [(r, .inr (2, [.ref rc])), (rc, .inl (E.2.1, 293, .inl f))] (f x) [(r, .inr (2, [.ref rc])), (rc, .inl (E.2.1, 293, .inl f))] := by
  refine rcI_of (by decide) (Nat.le_of_ble_eq_true rfl) ?_
  intro pg e s m below meth c Q A ls S hP hD0 hE hA hl hret
  have hx := S.1
  have hb := S.2.1
  have hown := S.2.2.2.1
  have hts := S.2.2.2.2
  have hK := hE.1
  have hS : va_S A s.heap s.heap [] := va_S.rf
  have hl : lv_has ls 2 [(0, .ref r), (1, .int (nI x))] := hl
  refine lv_iload_n hx hb dX3_read_0 rfl (lv_at hl 1 rfl) ?_
  refine lv_if_lt (tgt := 22) hx hb dX3_read_1 (by decide) (fun c9 => absurd c9 (nI_pos (by omega))) (fun _ => ?_)
  refine lv_iload_n hx hb dX3_read_4 rfl (lv_at hl 1 rfl) ?_
  refine lv_aload_n hx hb dX3_read_5 rfl (lv_at hl 0 rfl) ?_
  refine va_get (D := E.1) (ci := 2) (v := .ref rc) (C := RX3) (T := TX3) (N := 1) hx hb hts inb_X3 hown hK hP 0 rfl rfl 0 (by decide) (hts _ bw_92) (fun _ h9 => h9) rfl dX3_read_6 ?_
  refine va_alen (v := nI 293) hx hb hK hP 1 0 rfl rfl rfl dX3_read_9 ?_
  refine rn_icmp_ge (a := x) (b := 293) (tgt := 22) hx hb (by omega) (by omega) dX3_read_10 (by decide) (fun c_1 => absurd c_1 (by omega)) (fun c_1 => ?_)
  refine lv_aload_n hx hb dX3_read_13 rfl (lv_at hl 0 rfl) ?_
  refine va_get (D := E.1) (ci := 2) (v := .ref rc) (C := RX3) (T := TX3) (N := 1) hx hb hts inb_X3 hown hK hP 0 rfl rfl 0 (by decide) (hts _ bw_92) (fun _ h9 => h9) rfl dX3_read_14 ?_
  refine lv_iload_n hx hb dX3_read_17 rfl (lv_at hl 1 rfl) ?_
  refine rn_iald (i := x) hx hb hK hP 1 0 rfl rfl (by omega) (by omega) dX3_read_18 ?_
  refine lv_goto (tgt := 23) hx hb dX3_read_19 (by decide) ?_
  exact hret _ _ _ _ _ _ rfl rfl rfl hP hS dX3_read_23

theorem cd_X3_write : cdV RX3 yX3_write cX3_write 3 none 2 := ⟨⟨bw_210, bw_59, by decide, by decide, by decide +kernel⟩, bw_208, bw_209⟩
set_option maxHeartbeats 4000000 in
set_option maxRecDepth 100000 in
theorem c_X3_write (l : Launch) (E : EV) (r : Nat) (rc : Nat) (f : Nat → Int32) (x : Nat) (z : Int32) (hxx : x < 293) : rcV l E yX3_write cX3_write 3 0 [.ref r, .int (nI x), .int z] [(r, .inr (2, [.ref rc])), (rc, .inl (E.2.1, 293, .inl f))] [(r, .inr (2, [.ref rc])), (rc, .inl (E.2.1, 293, .inl (upd f x z)))] := by
  refine rcV_of (by decide) (Nat.le_of_ble_eq_true rfl) ?_
  intro pg e s m below meth c Q A ls S hP hD0 hE hA hl hret
  have hx := S.1
  have hb := S.2.1
  have hown := S.2.2.2.1
  have hts := S.2.2.2.2
  have hK := hE.1
  have hS : va_S A s.heap s.heap [] := va_S.rf
  have hl : lv_has ls 3 [(0, .ref r), (1, .int (nI x)), (2, .int z)] := hl
  refine lv_iload_n hx hb dX3_write_0 rfl (lv_at hl 1 rfl) ?_
  refine lv_if_lt (tgt := 20) hx hb dX3_write_1 (by decide) (fun c9 => absurd c9 (nI_pos (by omega))) (fun _ => ?_)
  refine lv_iload_n hx hb dX3_write_4 rfl (lv_at hl 1 rfl) ?_
  refine lv_aload_n hx hb dX3_write_5 rfl (lv_at hl 0 rfl) ?_
  refine va_get (D := E.1) (ci := 2) (v := .ref rc) (C := RX3) (T := TX3) (N := 1) hx hb hts inb_X3 hown hK hP 0 rfl rfl 0 (by decide) (hts _ bw_92) (fun _ h9 => h9) rfl dX3_write_6 ?_
  refine va_alen (v := nI 293) hx hb hK hP 1 0 rfl rfl rfl dX3_write_9 ?_
  refine rn_icmp_ge (a := x) (b := 293) (tgt := 20) hx hb (by omega) (by omega) dX3_write_10 (by decide) (fun c_1 => absurd c_1 (by omega)) (fun c_1 => ?_)
  refine lv_aload_n hx hb dX3_write_13 rfl (lv_at hl 0 rfl) ?_
  refine va_get (D := E.1) (ci := 2) (v := .ref rc) (C := RX3) (T := TX3) (N := 1) hx hb hts inb_X3 hown hK hP 0 rfl rfl 0 (by decide) (hts _ bw_92) (fun _ h9 => h9) rfl dX3_write_14 ?_
  refine lv_iload_n hx hb dX3_write_17 rfl (lv_at hl 1 rfl) ?_
  refine lv_iload_n hx hb dX3_write_18 rfl (lv_at hl 2 rfl) ?_
  refine rn_iast (i := x) hx hb hK hP (hD0.con rfl) hS 1 0 rfl rfl (by omega) (by omega) dX3_write_19 (fun H locs hP _ hS => ?_)
  have hP : va_P E.1 vwCl [(r, .inr (2, [.ref rc])), (rc, .inl (E.2.1, 293, .inl (upd f x z)))] H := hP
  exact hret _ _ _ _ _ rfl hP hS dX3_write_20

theorem cd_X3_readShot : cdV RX3 yX3_readShot cX3_readShot 4 (some .int) 2 := ⟨⟨bw_258, bw_59, by decide, by decide, by decide +kernel⟩, bw_256, bw_257⟩
set_option maxHeartbeats 4000000 in
set_option maxRecDepth 100000 in
theorem c_X3_readShot (l : Launch) (E : EV) (r : Nat) (rc : Nat) (f : Nat → Int32) (p : Nat) (j : Nat) (hp : p < 20) (hj : j < 14) : rcI l E yX3_readShot cX3_readShot 4 .int 0 [.ref r, .int (nI p), .int (nI j)] [(r, .inr (2, [.ref rc])), (rc, .inl (E.2.1, 293, .inl f))] (f (13 + 14 * p + j)) [(r, .inr (2, [.ref rc])), (rc, .inl (E.2.1, 293, .inl f))] := by
  refine rcI_of (by decide) (Nat.le_of_ble_eq_true rfl) ?_
  intro pg e s m below meth c Q A ls S hP hD0 hE hA hl hret
  have hx := S.1
  have hb := S.2.1
  have hown := S.2.2.2.1
  have hts := S.2.2.2.2
  have hK := hE.1
  have hS : va_S A s.heap s.heap [] := va_S.rf
  have hl : lv_has ls 4 [(0, .ref r), (1, .int (nI p)), (2, .int (nI j))] := hl
  refine lv_bipush (v := nI 13) hx hb dX3_readShot_0 (by decide) ?_
  refine lv_iload_n hx hb dX3_readShot_2 rfl (lv_at hl 1 rfl) ?_
  refine lv_bipush (v := nI 14) hx hb dX3_readShot_3 (by decide) ?_
  refine rn_mul (a := p) (b := 14) hx hb dX3_readShot_5 ?_
  refine rn_add (a := 13) (b := p * 14) hx hb dX3_readShot_6 ?_
  refine lv_iload_n hx hb dX3_readShot_7 rfl (lv_at hl 2 rfl) ?_
  refine rn_add (a := 13 + p * 14) (b := j) hx hb dX3_readShot_8 ?_
  refine lv_istore_n (lv' := [(3, .int (nI (13 + p * 14 + j))), (0, .ref r), (1, .int (nI p)), (2, .int (nI j))]) hx hb dX3_readShot_9 rfl hl (by decide) rfl (fun ls hl => ?_)
  refine lv_iload_n hx hb dX3_readShot_10 rfl (lv_at hl 0 rfl) ?_
  refine lv_if_lt (tgt := 32) hx hb dX3_readShot_11 (by decide) (fun c9 => absurd c9 (nI_pos (by omega))) (fun _ => ?_)
  refine lv_iload_n hx hb dX3_readShot_14 rfl (lv_at hl 0 rfl) ?_
  refine lv_aload_n hx hb dX3_readShot_15 rfl (lv_at hl 1 rfl) ?_
  refine va_get (D := E.1) (ci := 2) (v := .ref rc) (C := RX3) (T := TX3) (N := 1) hx hb hts inb_X3 hown hK hP 0 rfl rfl 0 (by decide) (hts _ bw_92) (fun _ h9 => h9) rfl dX3_readShot_16 ?_
  refine va_alen (v := nI 293) hx hb hK hP 1 0 rfl rfl rfl dX3_readShot_19 ?_
  refine rn_icmp_ge (a := 13 + p * 14 + j) (b := 293) (tgt := 32) hx hb (by omega) (by omega) dX3_readShot_20 (by decide) (fun c_1 => absurd c_1 (by omega)) (fun c_1 => ?_)
  refine lv_aload_n hx hb dX3_readShot_23 rfl (lv_at hl 1 rfl) ?_
  refine va_get (D := E.1) (ci := 2) (v := .ref rc) (C := RX3) (T := TX3) (N := 1) hx hb hts inb_X3 hown hK hP 0 rfl rfl 0 (by decide) (hts _ bw_92) (fun _ h9 => h9) rfl dX3_readShot_24 ?_
  refine lv_iload_n hx hb dX3_readShot_27 rfl (lv_at hl 0 rfl) ?_
  refine rn_iald (i := 13 + p * 14 + j) hx hb hK hP 1 0 rfl rfl (by omega) (by omega) dX3_readShot_28 ?_
  refine lv_goto (tgt := 33) hx hb dX3_readShot_29 (by decide) ?_
  exact hret _ _ _ _ _ _ (by rw [Nat.mul_comm]) rfl rfl hP hS dX3_readShot_33

theorem cd_X3_writeShot : cdV RX3 yX3_writeShot cX3_writeShot 5 none 3 := ⟨⟨bw_262, bw_59, by decide, by decide, by decide +kernel⟩, bw_260, bw_261⟩
set_option maxHeartbeats 4000000 in
set_option maxRecDepth 100000 in
theorem c_X3_writeShot (l : Launch) (E : EV) (r : Nat) (rc : Nat) (f : Nat → Int32) (p : Nat) (j : Nat) (z : Int32) (hp : p < 20) (hj : j < 14) : rcV l E yX3_writeShot cX3_writeShot 5 0 [.ref r, .int (nI p), .int (nI j), .int z] [(r, .inr (2, [.ref rc])), (rc, .inl (E.2.1, 293, .inl f))] [(r, .inr (2, [.ref rc])), (rc, .inl (E.2.1, 293, .inl (upd f (13 + 14 * p + j) z)))] := by
  refine rcV_of (by decide) (Nat.le_of_ble_eq_true rfl) ?_
  intro pg e s m below meth c Q A ls S hP hD0 hE hA hl hret
  have hx := S.1
  have hb := S.2.1
  have hown := S.2.2.2.1
  have hts := S.2.2.2.2
  have hK := hE.1
  have hS : va_S A s.heap s.heap [] := va_S.rf
  have hl : lv_has ls 5 [(0, .ref r), (1, .int (nI p)), (2, .int (nI j)), (3, .int z)] := hl
  refine lv_bipush (v := nI 13) hx hb dX3_writeShot_0 (by decide) ?_
  refine lv_iload_n hx hb dX3_writeShot_2 rfl (lv_at hl 1 rfl) ?_
  refine lv_bipush (v := nI 14) hx hb dX3_writeShot_3 (by decide) ?_
  refine rn_mul (a := p) (b := 14) hx hb dX3_writeShot_5 ?_
  refine rn_add (a := 13) (b := p * 14) hx hb dX3_writeShot_6 ?_
  refine lv_iload_n hx hb dX3_writeShot_7 rfl (lv_at hl 2 rfl) ?_
  refine rn_add (a := 13 + p * 14) (b := j) hx hb dX3_writeShot_8 ?_
  refine lv_istore (lv' := [(4, .int (nI (13 + p * 14 + j))), (0, .ref r), (1, .int (nI p)), (2, .int (nI j)), (3, .int z)]) hx hb dX3_writeShot_9 hl (by decide) rfl (fun ls hl => ?_)
  refine lv_iload hx hb dX3_writeShot_11 (lv_at hl 0 rfl) ?_
  refine lv_if_lt (tgt := 34) hx hb dX3_writeShot_13 (by decide) (fun c9 => absurd c9 (nI_pos (by omega))) (fun _ => ?_)
  refine lv_iload hx hb dX3_writeShot_16 (lv_at hl 0 rfl) ?_
  refine lv_aload_n hx hb dX3_writeShot_18 rfl (lv_at hl 1 rfl) ?_
  refine va_get (D := E.1) (ci := 2) (v := .ref rc) (C := RX3) (T := TX3) (N := 1) hx hb hts inb_X3 hown hK hP 0 rfl rfl 0 (by decide) (hts _ bw_92) (fun _ h9 => h9) rfl dX3_writeShot_19 ?_
  refine va_alen (v := nI 293) hx hb hK hP 1 0 rfl rfl rfl dX3_writeShot_22 ?_
  refine rn_icmp_ge (a := 13 + p * 14 + j) (b := 293) (tgt := 34) hx hb (by omega) (by omega) dX3_writeShot_23 (by decide) (fun c_1 => absurd c_1 (by omega)) (fun c_1 => ?_)
  refine lv_aload_n hx hb dX3_writeShot_26 rfl (lv_at hl 1 rfl) ?_
  refine va_get (D := E.1) (ci := 2) (v := .ref rc) (C := RX3) (T := TX3) (N := 1) hx hb hts inb_X3 hown hK hP 0 rfl rfl 0 (by decide) (hts _ bw_92) (fun _ h9 => h9) rfl dX3_writeShot_27 ?_
  refine lv_iload hx hb dX3_writeShot_30 (lv_at hl 0 rfl) ?_
  refine lv_iload_n hx hb dX3_writeShot_32 rfl (lv_at hl 4 rfl) ?_
  refine rn_iast (i := 13 + p * 14 + j) hx hb hK hP (hD0.con rfl) hS 1 0 rfl rfl (by omega) (by omega) dX3_writeShot_33 (fun H locs hP _ hS => ?_)
  have hP : va_P E.1 vwCl [(r, .inr (2, [.ref rc])), (rc, .inl (E.2.1, 293, .inl (upd f (13 + p * 14 + j) z)))] H := hP
  exact hret _ _ _ _ _ (by rw [Nat.mul_comm p 14]) hP hS dX3_writeShot_34

theorem cd_X3_lampLoss : cdV RX3 yX3_lampLoss cX3_lampLoss 2 (some .int) 1 := ⟨⟨bw_355, bw_59, by decide, by decide, by decide +kernel⟩, bw_353, bw_354⟩
set_option maxHeartbeats 4000000 in
set_option maxRecDepth 100000 in
theorem c_X3_lampLoss (l : Launch) (E : EV) (r : Nat) (rc : Nat) (f : Nat → Int32) (x : Nat) (hxx : x < 3) : rcI l E yX3_lampLoss cX3_lampLoss 2 .int 0 [.ref r, .int (nI x)] [(r, .inr (2, [.ref rc])), (rc, .inl (E.2.1, 293, .inl f))] (f (4 + x) * f 3 / nI 100) [(r, .inr (2, [.ref rc])), (rc, .inl (E.2.1, 293, .inl f))] := by
  refine rcI_of (by decide) (Nat.le_of_ble_eq_true rfl) ?_
  intro pg e s m below meth c Q A ls S hP hD0 hE hA hl hret
  have hx := S.1
  have hb := S.2.1
  have hown := S.2.2.2.1
  have hts := S.2.2.2.2
  have hK := hE.1
  have hS : va_S A s.heap s.heap [] := va_S.rf
  have hl : lv_has ls 2 [(0, .ref r), (1, .int (nI x))] := hl
  refine lv_iload_n hx hb dX3_lampLoss_0 rfl (lv_at hl 1 rfl) ?_
  refine lv_if_lt (tgt := 30) hx hb dX3_lampLoss_1 (by decide) (fun c9 => absurd c9 (nI_pos (by omega))) (fun _ => ?_)
  refine lv_iload_n hx hb dX3_lampLoss_4 rfl (lv_at hl 1 rfl) ?_
  refine lv_iconst (v := nI 3) hx hb dX3_lampLoss_5 (by decide) ?_
  refine rn_icmp_ge (a := x) (b := 3) (tgt := 30) hx hb (by omega) (by omega) dX3_lampLoss_6 (by decide) (fun c_1 => absurd c_1 (by omega)) (fun c_1 => ?_)
  refine lv_aload_n hx hb dX3_lampLoss_9 rfl (lv_at hl 0 rfl) ?_
  refine va_get (D := E.1) (ci := 2) (v := .ref rc) (C := RX3) (T := TX3) (N := 1) hx hb hts inb_X3 hown hK hP 0 rfl rfl 0 (by decide) (hts _ bw_92) (fun _ h9 => h9) rfl dX3_lampLoss_10 ?_
  refine lv_iconst (v := nI 4) hx hb dX3_lampLoss_13 (by decide) ?_
  refine lv_iload_n hx hb dX3_lampLoss_14 rfl (lv_at hl 1 rfl) ?_
  refine rn_add (a := 4) (b := x) hx hb dX3_lampLoss_15 ?_
  refine rn_iald (i := 4 + x) hx hb hK hP 1 0 rfl rfl (by omega) (by omega) dX3_lampLoss_16 ?_
  refine lv_aload_n hx hb dX3_lampLoss_17 rfl (lv_at hl 0 rfl) ?_
  refine va_get (D := E.1) (ci := 2) (v := .ref rc) (C := RX3) (T := TX3) (N := 1) hx hb hts inb_X3 hown hK hP 0 rfl rfl 0 (by decide) (hts _ bw_92) (fun _ h9 => h9) rfl dX3_lampLoss_18 ?_
  refine lv_iconst (v := nI 3) hx hb dX3_lampLoss_21 (by decide) ?_
  refine rn_iald (i := 3) hx hb hK hP 1 0 rfl rfl (by omega) (by omega) dX3_lampLoss_22 ?_
  refine lv_imul hx hb dX3_lampLoss_23 ?_
  refine lv_bipush (v := nI 100) hx hb dX3_lampLoss_24 (by decide) ?_
  refine lv_idiv hx hb dX3_lampLoss_26 (by decide) ?_
  refine lv_goto (tgt := 31) hx hb dX3_lampLoss_27 (by decide) ?_
  exact hret _ _ _ _ _ _ rfl rfl rfl hP hS dX3_lampLoss_31

theorem cd_X3_shots : cdV RX3 yX3_shots cX3_shots 1 (some .int) 0 := ⟨⟨bw_237, bw_59, by decide, by decide, by decide +kernel⟩, bw_235, bw_236⟩
set_option maxHeartbeats 4000000 in
set_option maxRecDepth 100000 in
theorem c_X3_shots (l : Launch) (E : EV) (r : Nat) (rc : Nat) (f : Nat → Int32) (n : Nat) (hf : f 12 = nI n) : rcI l E yX3_shots cX3_shots 1 .int 1 [.ref r] [(r, .inr (2, [.ref rc])), (rc, .inl (E.2.1, 293, .inl f))] (nI n) [(r, .inr (2, [.ref rc])), (rc, .inl (E.2.1, 293, .inl f))] := by
  refine rcI_of (by decide) (Nat.le_of_ble_eq_true rfl) ?_
  intro pg e s m below meth c Q A ls S hP hD0 hE hA hl hret
  have hx := S.1
  have hb := S.2.1
  have hown := S.2.2.2.1
  have hts := S.2.2.2.2
  have hK := hE.1
  have hS : va_S A s.heap s.heap [] := va_S.rf
  have hl : lv_has ls 1 [(0, .ref r)] := hl
  refine lv_aload_n hx hb dX3_shots_0 rfl (lv_at hl 0 rfl) ?_
  refine lv_bipush (v := nI 12) hx hb dX3_shots_1 (by decide) ?_
  refine rwV (rest := []) S (c_X3_read l E r rc f 12 (by omega)) cd_X3_read bw_238 ⟨Nat.le_of_ble_eq_true rfl, Nat.le_of_ble_eq_true rfl⟩ ⟨Nat.zero_le _, Nat.zero_le _⟩ hP (hD0.con rfl) hE hA hS [0, 1] rfl rfl rfl (ci := 2) rfl (q0 := 0) rfl rfl rfl (Nat.le_of_ble_eq_true rfl) hl.1 dX3_shots_3 (fun H locs hP _ hS => ?_)
  have hP : va_P E.1 vwCl [(r, .inr (2, [.ref rc])), (rc, .inl (E.2.1, 293, .inl f))] H := hP
  exact hret _ _ _ _ _ _ hf rfl rfl hP hS dX3_shots_6

theorem cd_X3_hasShot : cdV RX3 yX3_hasShot cX3_hasShot 2 (some .boolean) 1 := ⟨⟨bw_275, bw_59, by decide, by decide, by decide +kernel⟩, bw_273, bw_274⟩
def hasS (n : Nat) (x : Int32) : Int32 := if x < 0 then nI 0 else if nI n ≤ x then nI 0 else nI 1
theorem hasS_z (n : Nat) (x : Int32) : narrow .boolean (.int (hasS n x)) = .int (hasS n x) := by
  unfold hasS
  repeat' split
  all_goals first | rfl | decide | exact isC_z _ | exact isP_z _ | exact isSl_z _ | exact isW_z _ _ _
set_option maxHeartbeats 4000000 in
set_option maxRecDepth 100000 in
theorem c_X3_hasShot (l : Launch) (E : EV) (r : Nat) (rc : Nat) (f : Nat → Int32) (n : Nat) (x : Int32) (hf : f 12 = nI n) : rcI l E yX3_hasShot cX3_hasShot 2 .boolean 2 [.ref r, .int x] [(r, .inr (2, [.ref rc])), (rc, .inl (E.2.1, 293, .inl f))] (hasS n x) [(r, .inr (2, [.ref rc])), (rc, .inl (E.2.1, 293, .inl f))] := by
  refine rcI_of (by decide) (Nat.le_of_ble_eq_true rfl) ?_
  intro pg e s m below meth c Q A ls S hP hD0 hE hA hl hret
  have hx := S.1
  have hb := S.2.1
  have hown := S.2.2.2.1
  have hts := S.2.2.2.2
  have hK := hE.1
  have hS : va_S A s.heap s.heap [] := va_S.rf
  have hl : lv_has ls 2 [(0, .ref r), (1, .int x)] := hl
  refine lv_iload_n hx hb dX3_hasShot_0 rfl (lv_at hl 1 rfl) ?_
  refine lv_if_lt (tgt := 16) hx hb dX3_hasShot_1 (by decide) (fun c_1 => ?_) (fun c_1 => ?_)
  · refine lv_iconst (v := nI 0) hx hb dX3_hasShot_16 (by decide) ?_
    exact hret _ _ _ _ _ _ (by rw [hasS, if_pos c_1]) rfl (by decide) hP hS dX3_hasShot_17
  · refine lv_iload_n hx hb dX3_hasShot_4 rfl (lv_at hl 1 rfl) ?_
    refine lv_aload_n hx hb dX3_hasShot_5 rfl (lv_at hl 0 rfl) ?_
    refine rwV (rest := [.int x]) S (c_X3_shots l E r rc f n (by omega)) cd_X3_shots bw_247 ⟨Nat.le_of_ble_eq_true rfl, Nat.le_of_ble_eq_true rfl⟩ ⟨Nat.zero_le _, Nat.zero_le _⟩ hP (hD0.con rfl) hE hA hS [0, 1] rfl rfl rfl (ci := 2) rfl (q0 := 0) rfl rfl rfl (Nat.le_of_ble_eq_true rfl) hl.1 dX3_hasShot_6 (fun H locs hP _ hS => ?_)
    have hP : va_P E.1 vwCl [(r, .inr (2, [.ref rc])), (rc, .inl (E.2.1, 293, .inl f))] H := hP
    refine lv_icmp_ge (tgt := 16) hx hb dX3_hasShot_9 (by decide) (fun c_2 => ?_) (fun c_2 => ?_)
    · refine lv_iconst (v := nI 0) hx hb dX3_hasShot_16 (by decide) ?_
      exact hret _ _ _ _ _ _ (by rw [hasS, if_neg c_1, if_pos c_2]) rfl (by decide) hP hS dX3_hasShot_17
    · refine lv_iconst (v := nI 1) hx hb dX3_hasShot_12 (by decide) ?_
      refine lv_goto (tgt := 17) hx hb dX3_hasShot_13 (by decide) ?_
      exact hret _ _ _ _ _ _ (by rw [hasS, if_neg c_1, if_neg c_2]) rfl (by decide) hP hS dX3_hasShot_17

