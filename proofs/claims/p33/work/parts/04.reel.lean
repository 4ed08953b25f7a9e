/-! the host's small static functions; the reel -/
theorem cd_X7_isWithin : cdS yX7_isWithin cX7_isWithin 3 (some .boolean) 3 := ⟨⟨bw_168, bw_2, by decide, by decide, by decide +kernel⟩, bw_167⟩
def isW (x : Int32) (lo : Int32) (hi : Int32) : Int32 := if x < lo then nI 0 else if hi < x then nI 0 else nI 1
theorem isW_z (x : Int32) (lo : Int32) (hi : Int32) : narrow .boolean (.int (isW x lo hi)) = .int (isW x lo hi) := by
  unfold isW
  repeat' split
  all_goals first | decide | rfl
set_option maxHeartbeats 4000000 in
set_option maxRecDepth 100000 in
theorem c_X7_isWithin (l : Launch) (E : EV) (x : Int32) (lo : Int32) (hi : Int32)  : rcI l E yX7_isWithin cX7_isWithin 3 .boolean 0 [.int x, .int lo, .int hi] [] (isW x lo hi) [] := by
  refine rcI_of (by decide) (Nat.le_of_ble_eq_true rfl) ?_
  intro pg e s m below meth c Q A ls S hP hD0 hE hA hl hret
  have hx := S.1
  have hb := S.2.1
  have hown := S.2.2.2.1
  have hts := S.2.2.2.2
  have hK := hE.1
  have hS : va_S A s.heap s.heap [] := va_S.rf
  have hDa : va_Da A [] := ⟨_, hD0, rfl⟩
  have hl : lv_has ls 3 [(0, .int x), (1, .int lo), (2, .int hi)] := hl
  refine lv_iload_n hx hb dX7_isWithin_0 rfl (lv_at hl 0 rfl) ?_
  refine lv_iload_n hx hb dX7_isWithin_1 rfl (lv_at hl 1 rfl) ?_
  refine lv_icmp_lt (tgt := 14) hx hb dX7_isWithin_2 (by decide) (fun c_1 => ?_) (fun c_1 => ?_)
  · refine lv_iconst (v := nI 0) hx hb dX7_isWithin_14 (by decide) ?_
    exact hret _ _ _ _ _ _ (by rw [isW, if_pos c_1]) rfl (by decide) hP hS dX7_isWithin_15
  · refine lv_iload_n hx hb dX7_isWithin_5 rfl (lv_at hl 0 rfl) ?_
    refine lv_iload_n hx hb dX7_isWithin_6 rfl (lv_at hl 2 rfl) ?_
    refine lv_icmp_gt (tgt := 14) hx hb dX7_isWithin_7 (by decide) (fun c_2 => ?_) (fun c_2 => ?_)
    · refine lv_iconst (v := nI 0) hx hb dX7_isWithin_14 (by decide) ?_
      exact hret _ _ _ _ _ _ (by rw [isW, if_neg c_1, if_pos c_2]) rfl (by decide) hP hS dX7_isWithin_15
    · refine lv_iconst (v := nI 1) hx hb dX7_isWithin_10 (by decide) ?_
      refine lv_goto (tgt := 15) hx hb dX7_isWithin_11 (by decide) ?_
      exact hret _ _ _ _ _ _ (by rw [isW, if_neg c_1, if_neg c_2]) rfl (by decide) hP hS dX7_isWithin_15

theorem cd_X7_isColour : cdS yX7_isColour cX7_isColour 1 (some .boolean) 1 := ⟨⟨bw_227, bw_2, by decide, by decide, by decide +kernel⟩, bw_226⟩
def isC (x : Int32) : Int32 := isW x (nI 0) (nI 2)
theorem isC_z (x : Int32) : narrow .boolean (.int (isC x)) = .int (isC x) := by
  unfold isC
  repeat' split
  all_goals first | (with_reducible exact isW_z _ _ _) | decide | rfl
set_option maxHeartbeats 4000000 in
set_option maxRecDepth 100000 in
theorem c_X7_isColour (l : Launch) (E : EV) (x : Int32)  : rcI l E yX7_isColour cX7_isColour 1 .boolean 1 [.int x] [] (isC x) [] := by
  refine rcI_of (by decide) (Nat.le_of_ble_eq_true rfl) ?_
  intro pg e s m below meth c Q A ls S hP hD0 hE hA hl hret
  have hx := S.1
  have hb := S.2.1
  have hown := S.2.2.2.1
  have hts := S.2.2.2.2
  have hK := hE.1
  have hS : va_S A s.heap s.heap [] := va_S.rf
  have hDa : va_Da A [] := ⟨_, hD0, rfl⟩
  have hl : lv_has ls 1 [(0, .int x)] := hl
  refine lv_iload_n hx hb dX7_isColour_0 rfl (lv_at hl 0 rfl) ?_
  refine lv_iconst (v := nI 0) hx hb dX7_isColour_1 (by decide) ?_
  refine lv_iconst (v := nI 2) hx hb dX7_isColour_2 (by decide) ?_
  refine rwS3 (rest := []) S (c_X7_isWithin l E x (nI 0) (nI 2)) cd_X7_isWithin bw_172 ⟨Nat.le_of_ble_eq_true rfl, Nat.le_of_ble_eq_true rfl⟩ ⟨Nat.zero_le _, Nat.zero_le _⟩ hP (hDa.to rfl) hE hA hS [] rfl rfl [] rfl rfl (Nat.le_of_ble_eq_true rfl) hl.1 dX7_isColour_3 (fun H locs hP _ hS => ?_)
  have hP : va_P E.1 vwCl [] H := hP
  exact hret _ _ _ _ _ _ (by rw [isC]) rfl (by first | (with_reducible exact isW_z _ _ _) | assumption) hP hS dX7_isColour_6

theorem cd_X7_isPoints : cdS yX7_isPoints cX7_isPoints 1 (some .boolean) 1 := ⟨⟨bw_171, bw_2, by decide, by decide, by decide +kernel⟩, bw_170⟩
def isP (x : Int32) : Int32 := isW x (nI 0) (nI 50)
theorem isP_z (x : Int32) : narrow .boolean (.int (isP x)) = .int (isP x) := by
  unfold isP
  repeat' split
  all_goals first | (with_reducible exact isW_z _ _ _) | decide | rfl
set_option maxHeartbeats 4000000 in
set_option maxRecDepth 100000 in
theorem c_X7_isPoints (l : Launch) (E : EV) (x : Int32)  : rcI l E yX7_isPoints cX7_isPoints 1 .boolean 1 [.int x] [] (isP x) [] := by
  refine rcI_of (by decide) (Nat.le_of_ble_eq_true rfl) ?_
  intro pg e s m below meth c Q A ls S hP hD0 hE hA hl hret
  have hx := S.1
  have hb := S.2.1
  have hown := S.2.2.2.1
  have hts := S.2.2.2.2
  have hK := hE.1
  have hS : va_S A s.heap s.heap [] := va_S.rf
  have hDa : va_Da A [] := ⟨_, hD0, rfl⟩
  have hl : lv_has ls 1 [(0, .int x)] := hl
  refine lv_iload_n hx hb dX7_isPoints_0 rfl (lv_at hl 0 rfl) ?_
  refine lv_iconst (v := nI 0) hx hb dX7_isPoints_1 (by decide) ?_
  refine lv_bipush (v := nI 50) hx hb dX7_isPoints_2 (by decide) ?_
  refine rwS3 (rest := []) S (c_X7_isWithin l E x (nI 0) (nI 50)) cd_X7_isWithin bw_172 ⟨Nat.le_of_ble_eq_true rfl, Nat.le_of_ble_eq_true rfl⟩ ⟨Nat.zero_le _, Nat.zero_le _⟩ hP (hDa.to rfl) hE hA hS [] rfl rfl [] rfl rfl (Nat.le_of_ble_eq_true rfl) hl.1 dX7_isPoints_4 (fun H locs hP _ hS => ?_)
  have hP : va_P E.1 vwCl [] H := hP
  exact hret _ _ _ _ _ _ (by rw [isP]) rfl (by first | (with_reducible exact isW_z _ _ _) | assumption) hP hS dX7_isPoints_7

theorem cd_X7_bounded : cdS yX7_bounded cX7_bounded 1 (some .int) 1 := ⟨⟨bw_301, bw_2, by decide, by decide, by decide +kernel⟩, bw_300⟩
def bd (x : Int32) : Int32 := if 0 ≤ x then if x ≤ nI 50 then x else nI 50 else nI 0
set_option maxHeartbeats 4000000 in
set_option maxRecDepth 100000 in
theorem c_X7_bounded (l : Launch) (E : EV) (x : Int32)  : rcI l E yX7_bounded cX7_bounded 1 .int 0 [.int x] [] (bd x) [] := by
  refine rcI_of (by decide) (Nat.le_of_ble_eq_true rfl) ?_
  intro pg e s m below meth c Q A ls S hP hD0 hE hA hl hret
  have hx := S.1
  have hb := S.2.1
  have hown := S.2.2.2.1
  have hts := S.2.2.2.2
  have hK := hE.1
  have hS : va_S A s.heap s.heap [] := va_S.rf
  have hDa : va_Da A [] := ⟨_, hD0, rfl⟩
  have hl : lv_has ls 1 [(0, .int x)] := hl
  refine lv_iload_n hx hb dX7_bounded_0 rfl (lv_at hl 0 rfl) ?_
  refine lv_if_ge (tgt := 8) hx hb dX7_bounded_1 (by decide) (fun c_1 => ?_) (fun c_1 => ?_)
  · refine lv_iload_n hx hb dX7_bounded_8 rfl (lv_at hl 0 rfl) ?_
    refine lv_bipush (v := nI 50) hx hb dX7_bounded_9 (by decide) ?_
    refine lv_icmp_le (tgt := 19) hx hb dX7_bounded_11 (by decide) (fun c_2 => ?_) (fun c_2 => ?_)
    · refine lv_iload_n hx hb dX7_bounded_19 rfl (lv_at hl 0 rfl) ?_
      exact hret _ _ _ _ _ _ (by rw [bd, if_pos c_1, if_pos c_2]) rfl rfl hP hS dX7_bounded_20
    · refine lv_bipush (v := nI 50) hx hb dX7_bounded_14 (by decide) ?_
      refine lv_goto (tgt := 20) hx hb dX7_bounded_16 (by decide) ?_
      exact hret _ _ _ _ _ _ (by rw [bd, if_pos c_1, if_neg c_2]) rfl rfl hP hS dX7_bounded_20
  · refine lv_iconst (v := nI 0) hx hb dX7_bounded_4 (by decide) ?_
    refine lv_goto (tgt := 20) hx hb dX7_bounded_5 (by decide) ?_
    exact hret _ _ _ _ _ _ (by rw [bd, if_neg c_1]) rfl rfl hP hS dX7_bounded_20

theorem cd_X3_read : cdV RX3 yX3_read cX3_read 2 (some .int) 1 := ⟨⟨bw_165, bw_3, by decide, by decide, by decide +kernel⟩, bw_163, bw_164⟩
set_option maxHeartbeats 4000000 in
set_option maxRecDepth 100000 in
theorem c_X3_read (l : Launch) (E : EV) (r : Nat) (rc : Nat) (f : Nat → Int32) (x : Nat) (hxx : x < 293) : rcI l E yX3_read cX3_read 2 .int 0 [.ref r, .int (nI x)] [(r, .inr (2, [.ref rc])), (rc, .inl (E.2.1, 293, .inl f))] (f x) [(r, .inr (2, [.ref rc])), (rc, .inl (E.2.1, 293, .inl f))] := by
  refine rcI_of (by decide) (Nat.le_of_ble_eq_true rfl) ?_
  intro pg e s m below meth c Q A ls S hP hD0 hE hA hl hret
  have hx := S.1
  have hb := S.2.1
  have hown := S.2.2.2.1
  have hts := S.2.2.2.2
  have hK := hE.1
  have hS : va_S A s.heap s.heap [] := va_S.rf
  have hDa : va_Da A [r, rc] := ⟨_, hD0, rfl⟩
  have hl : lv_has ls 2 [(0, .ref r), (1, .int (nI x))] := hl
  refine lv_iload_n hx hb dX3_read_0 rfl (lv_at hl 1 rfl) ?_
  refine lv_if_lt (tgt := 22) hx hb dX3_read_1 (by decide) (fun c9 => absurd c9 (nI_pos (by omega))) (fun _ => ?_)
  refine lv_iload_n hx hb dX3_read_4 rfl (lv_at hl 1 rfl) ?_
  refine lv_aload_n hx hb dX3_read_5 rfl (lv_at hl 0 rfl) ?_
  refine va_get (D := E.1) (ci := 2) (v := .ref rc) (C := RX3) (T := TX3) (N := 1) hx hb hts inb_X3 hown hK hP 0 rfl rfl 0 (by decide) (hts _ bw_31) (fun _ h9 => h9) rfl dX3_read_6 ?_
  refine va_alen (v := nI 293) hx hb hK hP 1 0 rfl rfl rfl dX3_read_9 ?_
  refine rn_icmp_ge (a := x) (b := 293) (tgt := 22) hx hb (by omega) (by omega) dX3_read_10 (by decide) (fun c_1 => absurd c_1 (by omega)) (fun c_1 => ?_)
  refine lv_aload_n hx hb dX3_read_13 rfl (lv_at hl 0 rfl) ?_
  refine va_get (D := E.1) (ci := 2) (v := .ref rc) (C := RX3) (T := TX3) (N := 1) hx hb hts inb_X3 hown hK hP 0 rfl rfl 0 (by decide) (hts _ bw_31) (fun _ h9 => h9) rfl dX3_read_14 ?_
  refine lv_iload_n hx hb dX3_read_17 rfl (lv_at hl 1 rfl) ?_
  refine rn_iald (i := x) hx hb hK hP 1 0 rfl rfl (by omega) (by omega) dX3_read_18 ?_
  refine lv_goto (tgt := 23) hx hb dX3_read_19 (by decide) ?_
  exact hret _ _ _ _ _ _ rfl rfl rfl hP hS dX3_read_23

theorem cd_X3_write : cdV RX3 yX3_write cX3_write 3 none 2 := ⟨⟨bw_196, bw_3, by decide, by decide, by decide +kernel⟩, bw_194, bw_195⟩
set_option maxHeartbeats 4000000 in
set_option maxRecDepth 100000 in
theorem c_X3_write (l : Launch) (E : EV) (r : Nat) (rc : Nat) (f : Nat → Int32) (x : Nat) (z : Int32) (hxx : x < 293) : rcV l E yX3_write cX3_write 3 0 [.ref r, .int (nI x), .int z] [(r, .inr (2, [.ref rc])), (rc, .inl (E.2.1, 293, .inl f))] [(r, .inr (2, [.ref rc])), (rc, .inl (E.2.1, 293, .inl (upd f x z)))] := by
  refine rcV_of (by decide) (Nat.le_of_ble_eq_true rfl) ?_
  intro pg e s m below meth c Q A ls S hP hD0 hE hA hl hret
  have hx := S.1
  have hb := S.2.1
  have hown := S.2.2.2.1
  have hts := S.2.2.2.2
  have hK := hE.1
  have hS : va_S A s.heap s.heap [] := va_S.rf
  have hDa : va_Da A [r, rc] := ⟨_, hD0, rfl⟩
  have hl : lv_has ls 3 [(0, .ref r), (1, .int (nI x)), (2, .int z)] := hl
  refine lv_iload_n hx hb dX3_write_0 rfl (lv_at hl 1 rfl) ?_
  refine lv_if_lt (tgt := 20) hx hb dX3_write_1 (by decide) (fun c9 => absurd c9 (nI_pos (by omega))) (fun _ => ?_)
  refine lv_iload_n hx hb dX3_write_4 rfl (lv_at hl 1 rfl) ?_
  refine lv_aload_n hx hb dX3_write_5 rfl (lv_at hl 0 rfl) ?_
  refine va_get (D := E.1) (ci := 2) (v := .ref rc) (C := RX3) (T := TX3) (N := 1) hx hb hts inb_X3 hown hK hP 0 rfl rfl 0 (by decide) (hts _ bw_31) (fun _ h9 => h9) rfl dX3_write_6 ?_
  refine va_alen (v := nI 293) hx hb hK hP 1 0 rfl rfl rfl dX3_write_9 ?_
  refine rn_icmp_ge (a := x) (b := 293) (tgt := 20) hx hb (by omega) (by omega) dX3_write_10 (by decide) (fun c_1 => absurd c_1 (by omega)) (fun c_1 => ?_)
  refine lv_aload_n hx hb dX3_write_13 rfl (lv_at hl 0 rfl) ?_
  refine va_get (D := E.1) (ci := 2) (v := .ref rc) (C := RX3) (T := TX3) (N := 1) hx hb hts inb_X3 hown hK hP 0 rfl rfl 0 (by decide) (hts _ bw_31) (fun _ h9 => h9) rfl dX3_write_14 ?_
  refine lv_iload_n hx hb dX3_write_17 rfl (lv_at hl 1 rfl) ?_
  refine lv_iload_n hx hb dX3_write_18 rfl (lv_at hl 2 rfl) ?_
  refine rn_iast (i := x) hx hb hK hP (hDa.to rfl) hS 1 0 rfl rfl (by omega) (by omega) dX3_write_19 (fun H locs hP _ hS => ?_)
  have hP : va_P E.1 vwCl [(r, .inr (2, [.ref rc])), (rc, .inl (E.2.1, 293, .inl (upd f x z)))] H := hP
  exact hret _ _ _ _ _ rfl hP hS dX3_write_20

theorem cd_X3_readShot : cdV RX3 yX3_readShot cX3_readShot 4 (some .int) 2 := ⟨⟨bw_188, bw_3, by decide, by decide, by decide +kernel⟩, bw_186, bw_187⟩
set_option maxHeartbeats 4000000 in
set_option maxRecDepth 100000 in
theorem c_X3_readShot (l : Launch) (E : EV) (r : Nat) (rc : Nat) (f : Nat → Int32) (p : Nat) (j : Nat) (hp : p < 20) (hj : j < 14) : rcI l E yX3_readShot cX3_readShot 4 .int 0 [.ref r, .int (nI p), .int (nI j)] [(r, .inr (2, [.ref rc])), (rc, .inl (E.2.1, 293, .inl f))] (f (13 + 14 * p + j)) [(r, .inr (2, [.ref rc])), (rc, .inl (E.2.1, 293, .inl f))] := by
  refine rcI_of (by decide) (Nat.le_of_ble_eq_true rfl) ?_
  intro pg e s m below meth c Q A ls S hP hD0 hE hA hl hret
  have hx := S.1
  have hb := S.2.1
  have hown := S.2.2.2.1
  have hts := S.2.2.2.2
  have hK := hE.1
  have hS : va_S A s.heap s.heap [] := va_S.rf
  have hDa : va_Da A [r, rc] := ⟨_, hD0, rfl⟩
  have hl : lv_has ls 4 [(0, .ref r), (1, .int (nI p)), (2, .int (nI j))] := hl
  refine lv_bipush (v := nI 13) hx hb dX3_readShot_0 (by decide) ?_
  refine lv_iload_n hx hb dX3_readShot_2 rfl (lv_at hl 1 rfl) ?_
  refine lv_bipush (v := nI 14) hx hb dX3_readShot_3 (by decide) ?_
  refine rn_mul (a := p) (b := 14) hx hb dX3_readShot_5 ?_
  refine rn_add (a := 13) (b := p * 14) hx hb dX3_readShot_6 ?_
  refine lv_iload_n hx hb dX3_readShot_7 rfl (lv_at hl 2 rfl) ?_
  refine rn_add (a := 13 + p * 14) (b := j) hx hb dX3_readShot_8 ?_
  refine lv_istore_n (lv' := [(3, .int (nI (13 + p * 14 + j))), (0, .ref r), (1, .int (nI p)), (2, .int (nI j))]) hx hb dX3_readShot_9 rfl hl (by decide) rfl (fun ls hl => ?_)
  refine lv_iload_n hx hb dX3_readShot_10 rfl (lv_at hl 0 rfl) ?_
  refine lv_if_lt (tgt := 32) hx hb dX3_readShot_11 (by decide) (fun c9 => absurd c9 (nI_pos (by omega))) (fun _ => ?_)
  refine lv_iload_n hx hb dX3_readShot_14 rfl (lv_at hl 0 rfl) ?_
  refine lv_aload_n hx hb dX3_readShot_15 rfl (lv_at hl 1 rfl) ?_
  refine va_get (D := E.1) (ci := 2) (v := .ref rc) (C := RX3) (T := TX3) (N := 1) hx hb hts inb_X3 hown hK hP 0 rfl rfl 0 (by decide) (hts _ bw_31) (fun _ h9 => h9) rfl dX3_readShot_16 ?_
  refine va_alen (v := nI 293) hx hb hK hP 1 0 rfl rfl rfl dX3_readShot_19 ?_
  refine rn_icmp_ge (a := 13 + p * 14 + j) (b := 293) (tgt := 32) hx hb (by omega) (by omega) dX3_readShot_20 (by decide) (fun c_1 => absurd c_1 (by omega)) (fun c_1 => ?_)
  refine lv_aload_n hx hb dX3_readShot_23 rfl (lv_at hl 1 rfl) ?_
  refine va_get (D := E.1) (ci := 2) (v := .ref rc) (C := RX3) (T := TX3) (N := 1) hx hb hts inb_X3 hown hK hP 0 rfl rfl 0 (by decide) (hts _ bw_31) (fun _ h9 => h9) rfl dX3_readShot_24 ?_
  refine lv_iload_n hx hb dX3_readShot_27 rfl (lv_at hl 0 rfl) ?_
  refine rn_iald (i := 13 + p * 14 + j) hx hb hK hP 1 0 rfl rfl (by omega) (by omega) dX3_readShot_28 ?_
  refine lv_goto (tgt := 33) hx hb dX3_readShot_29 (by decide) ?_
  exact hret _ _ _ _ _ _ (by rw [Nat.mul_comm]) rfl rfl hP hS dX3_readShot_33

theorem cd_X3_writeShot : cdV RX3 yX3_writeShot cX3_writeShot 5 none 3 := ⟨⟨bw_192, bw_3, by decide, by decide, by decide +kernel⟩, bw_190, bw_191⟩
set_option maxHeartbeats 4000000 in
set_option maxRecDepth 100000 in
theorem c_X3_writeShot (l : Launch) (E : EV) (r : Nat) (rc : Nat) (f : Nat → Int32) (p : Nat) (j : Nat) (z : Int32) (hp : p < 20) (hj : j < 14) : rcV l E yX3_writeShot cX3_writeShot 5 0 [.ref r, .int (nI p), .int (nI j), .int z] [(r, .inr (2, [.ref rc])), (rc, .inl (E.2.1, 293, .inl f))] [(r, .inr (2, [.ref rc])), (rc, .inl (E.2.1, 293, .inl (upd f (13 + 14 * p + j) z)))] := by
  refine rcV_of (by decide) (Nat.le_of_ble_eq_true rfl) ?_
  intro pg e s m below meth c Q A ls S hP hD0 hE hA hl hret
  have hx := S.1
  have hb := S.2.1
  have hown := S.2.2.2.1
  have hts := S.2.2.2.2
  have hK := hE.1
  have hS : va_S A s.heap s.heap [] := va_S.rf
  have hDa : va_Da A [r, rc] := ⟨_, hD0, rfl⟩
  have hl : lv_has ls 5 [(0, .ref r), (1, .int (nI p)), (2, .int (nI j)), (3, .int z)] := hl
  refine lv_bipush (v := nI 13) hx hb dX3_writeShot_0 (by decide) ?_
  refine lv_iload_n hx hb dX3_writeShot_2 rfl (lv_at hl 1 rfl) ?_
  refine lv_bipush (v := nI 14) hx hb dX3_writeShot_3 (by decide) ?_
  refine rn_mul (a := p) (b := 14) hx hb dX3_writeShot_5 ?_
  refine rn_add (a := 13) (b := p * 14) hx hb dX3_writeShot_6 ?_
  refine lv_iload_n hx hb dX3_writeShot_7 rfl (lv_at hl 2 rfl) ?_
  refine rn_add (a := 13 + p * 14) (b := j) hx hb dX3_writeShot_8 ?_
  refine lv_istore (lv' := [(4, .int (nI (13 + p * 14 + j))), (0, .ref r), (1, .int (nI p)), (2, .int (nI j)), (3, .int z)]) hx hb dX3_writeShot_9 hl (by decide) rfl (fun ls hl => ?_)
  refine lv_iload hx hb dX3_writeShot_11 (lv_at hl 0 rfl) ?_
  refine lv_if_lt (tgt := 34) hx hb dX3_writeShot_13 (by decide) (fun c9 => absurd c9 (nI_pos (by omega))) (fun _ => ?_)
  refine lv_iload hx hb dX3_writeShot_16 (lv_at hl 0 rfl) ?_
  refine lv_aload_n hx hb dX3_writeShot_18 rfl (lv_at hl 1 rfl) ?_
  refine va_get (D := E.1) (ci := 2) (v := .ref rc) (C := RX3) (T := TX3) (N := 1) hx hb hts inb_X3 hown hK hP 0 rfl rfl 0 (by decide) (hts _ bw_31) (fun _ h9 => h9) rfl dX3_writeShot_19 ?_
  refine va_alen (v := nI 293) hx hb hK hP 1 0 rfl rfl rfl dX3_writeShot_22 ?_
  refine rn_icmp_ge (a := 13 + p * 14 + j) (b := 293) (tgt := 34) hx hb (by omega) (by omega) dX3_writeShot_23 (by decide) (fun c_1 => absurd c_1 (by omega)) (fun c_1 => ?_)
  refine lv_aload_n hx hb dX3_writeShot_26 rfl (lv_at hl 1 rfl) ?_
  refine va_get (D := E.1) (ci := 2) (v := .ref rc) (C := RX3) (T := TX3) (N := 1) hx hb hts inb_X3 hown hK hP 0 rfl rfl 0 (by decide) (hts _ bw_31) (fun _ h9 => h9) rfl dX3_writeShot_27 ?_
  refine lv_iload hx hb dX3_writeShot_30 (lv_at hl 0 rfl) ?_
  refine lv_iload_n hx hb dX3_writeShot_32 rfl (lv_at hl 4 rfl) ?_
  refine rn_iast (i := 13 + p * 14 + j) hx hb hK hP (hDa.to rfl) hS 1 0 rfl rfl (by omega) (by omega) dX3_writeShot_33 (fun H locs hP _ hS => ?_)
  have hP : va_P E.1 vwCl [(r, .inr (2, [.ref rc])), (rc, .inl (E.2.1, 293, .inl (upd f (13 + p * 14 + j) z)))] H := hP
  exact hret _ _ _ _ _ (by rw [Nat.mul_comm p 14]) hP hS dX3_writeShot_34

theorem cd_X3_lampLoss : cdV RX3 yX3_lampLoss cX3_lampLoss 2 (some .int) 1 := ⟨⟨bw_298, bw_3, by decide, by decide, by decide +kernel⟩, bw_296, bw_297⟩
set_option maxHeartbeats 4000000 in
set_option maxRecDepth 100000 in
theorem c_X3_lampLoss (l : Launch) (E : EV) (r : Nat) (rc : Nat) (f : Nat → Int32) (x : Nat) (hxx : x < 3) : rcI l E yX3_lampLoss cX3_lampLoss 2 .int 0 [.ref r, .int (nI x)] [(r, .inr (2, [.ref rc])), (rc, .inl (E.2.1, 293, .inl f))] (f (4 + x) * f 3 / nI 100) [(r, .inr (2, [.ref rc])), (rc, .inl (E.2.1, 293, .inl f))] := by
  refine rcI_of (by decide) (Nat.le_of_ble_eq_true rfl) ?_
  intro pg e s m below meth c Q A ls S hP hD0 hE hA hl hret
  have hx := S.1
  have hb := S.2.1
  have hown := S.2.2.2.1
  have hts := S.2.2.2.2
  have hK := hE.1
  have hS : va_S A s.heap s.heap [] := va_S.rf
  have hDa : va_Da A [r, rc] := ⟨_, hD0, rfl⟩
  have hl : lv_has ls 2 [(0, .ref r), (1, .int (nI x))] := hl
  refine lv_iload_n hx hb dX3_lampLoss_0 rfl (lv_at hl 1 rfl) ?_
  refine lv_if_lt (tgt := 30) hx hb dX3_lampLoss_1 (by decide) (fun c9 => absurd c9 (nI_pos (by omega))) (fun _ => ?_)
  refine lv_iload_n hx hb dX3_lampLoss_4 rfl (lv_at hl 1 rfl) ?_
  refine lv_iconst (v := nI 3) hx hb dX3_lampLoss_5 (by decide) ?_
  refine rn_icmp_ge (a := x) (b := 3) (tgt := 30) hx hb (by omega) (by omega) dX3_lampLoss_6 (by decide) (fun c_1 => absurd c_1 (by omega)) (fun c_1 => ?_)
  refine lv_aload_n hx hb dX3_lampLoss_9 rfl (lv_at hl 0 rfl) ?_
  refine va_get (D := E.1) (ci := 2) (v := .ref rc) (C := RX3) (T := TX3) (N := 1) hx hb hts inb_X3 hown hK hP 0 rfl rfl 0 (by decide) (hts _ bw_31) (fun _ h9 => h9) rfl dX3_lampLoss_10 ?_
  refine lv_iconst (v := nI 4) hx hb dX3_lampLoss_13 (by decide) ?_
  refine lv_iload_n hx hb dX3_lampLoss_14 rfl (lv_at hl 1 rfl) ?_
  refine rn_add (a := 4) (b := x) hx hb dX3_lampLoss_15 ?_
  refine rn_iald (i := 4 + x) hx hb hK hP 1 0 rfl rfl (by omega) (by omega) dX3_lampLoss_16 ?_
  refine lv_aload_n hx hb dX3_lampLoss_17 rfl (lv_at hl 0 rfl) ?_
  refine va_get (D := E.1) (ci := 2) (v := .ref rc) (C := RX3) (T := TX3) (N := 1) hx hb hts inb_X3 hown hK hP 0 rfl rfl 0 (by decide) (hts _ bw_31) (fun _ h9 => h9) rfl dX3_lampLoss_18 ?_
  refine lv_iconst (v := nI 3) hx hb dX3_lampLoss_21 (by decide) ?_
  refine rn_iald (i := 3) hx hb hK hP 1 0 rfl rfl (by omega) (by omega) dX3_lampLoss_22 ?_
  refine lv_imul hx hb dX3_lampLoss_23 ?_
  refine lv_bipush (v := nI 100) hx hb dX3_lampLoss_24 (by decide) ?_
  refine lv_idiv hx hb dX3_lampLoss_26 (by decide) ?_
  refine lv_goto (tgt := 31) hx hb dX3_lampLoss_27 (by decide) ?_
  exact hret _ _ _ _ _ _ rfl rfl rfl hP hS dX3_lampLoss_31

theorem cd_X3_shots : cdV RX3 yX3_shots cX3_shots 1 (some .int) 0 := ⟨⟨bw_161, bw_3, by decide, by decide, by decide +kernel⟩, bw_159, bw_160⟩
set_option maxHeartbeats 4000000 in
set_option maxRecDepth 100000 in
theorem c_X3_shots (l : Launch) (E : EV) (r : Nat) (rc : Nat) (f : Nat → Int32) (n : Nat) (hf : f 12 = nI n) : rcI l E yX3_shots cX3_shots 1 .int 1 [.ref r] [(r, .inr (2, [.ref rc])), (rc, .inl (E.2.1, 293, .inl f))] (nI n) [(r, .inr (2, [.ref rc])), (rc, .inl (E.2.1, 293, .inl f))] := by
  refine rcI_of (by decide) (Nat.le_of_ble_eq_true rfl) ?_
  intro pg e s m below meth c Q A ls S hP hD0 hE hA hl hret
  have hx := S.1
  have hb := S.2.1
  have hown := S.2.2.2.1
  have hts := S.2.2.2.2
  have hK := hE.1
  have hS : va_S A s.heap s.heap [] := va_S.rf
  have hDa : va_Da A [r, rc] := ⟨_, hD0, rfl⟩
  have hl : lv_has ls 1 [(0, .ref r)] := hl
  refine lv_aload_n hx hb dX3_shots_0 rfl (lv_at hl 0 rfl) ?_
  refine lv_bipush (v := nI 12) hx hb dX3_shots_1 (by decide) ?_
  refine rwV1 (rest := []) S (c_X3_read l E r rc f 12 (by omega)) cd_X3_read bw_162 ⟨Nat.le_of_ble_eq_true rfl, Nat.le_of_ble_eq_true rfl⟩ ⟨Nat.zero_le _, Nat.zero_le _⟩ hP (hDa.to rfl) hE hA hS [0, 1] rfl rfl [r, rc] rfl rfl (ci := 2) rfl (q0 := 0) rfl (Nat.le_of_ble_eq_true rfl) hl.1 dX3_shots_3 (fun H locs hP _ hS => ?_)
  have hP : va_P E.1 vwCl [(r, .inr (2, [.ref rc])), (rc, .inl (E.2.1, 293, .inl f))] H := hP
  exact hret _ _ _ _ _ _ hf rfl rfl hP hS dX3_shots_6

theorem cd_X3_hasShot : cdV RX3 yX3_hasShot cX3_hasShot 2 (some .boolean) 1 := ⟨⟨bw_224, bw_3, by decide, by decide, by decide +kernel⟩, bw_222, bw_223⟩
def hasS (n : Nat) (x : Int32) : Int32 := if x < 0 then nI 0 else if nI n ≤ x then nI 0 else nI 1
theorem hasS_z (n : Nat) (x : Int32) : narrow .boolean (.int (hasS n x)) = .int (hasS n x) := by
  unfold hasS
  repeat' split
  all_goals first | decide | rfl
set_option maxHeartbeats 4000000 in
set_option maxRecDepth 100000 in
theorem c_X3_hasShot (l : Launch) (E : EV) (r : Nat) (rc : Nat) (f : Nat → Int32) (n : Nat) (x : Int32) (hf : f 12 = nI n) : rcI l E yX3_hasShot cX3_hasShot 2 .boolean 2 [.ref r, .int x] [(r, .inr (2, [.ref rc])), (rc, .inl (E.2.1, 293, .inl f))] (hasS n x) [(r, .inr (2, [.ref rc])), (rc, .inl (E.2.1, 293, .inl f))] := by
  refine rcI_of (by decide) (Nat.le_of_ble_eq_true rfl) ?_
  intro pg e s m below meth c Q A ls S hP hD0 hE hA hl hret
  have hx := S.1
  have hb := S.2.1
  have hown := S.2.2.2.1
  have hts := S.2.2.2.2
  have hK := hE.1
  have hS : va_S A s.heap s.heap [] := va_S.rf
  have hDa : va_Da A [r, rc] := ⟨_, hD0, rfl⟩
  have hl : lv_has ls 2 [(0, .ref r), (1, .int x)] := hl
  refine lv_iload_n hx hb dX3_hasShot_0 rfl (lv_at hl 1 rfl) ?_
  refine lv_if_lt (tgt := 16) hx hb dX3_hasShot_1 (by decide) (fun c_1 => ?_) (fun c_1 => ?_)
  · refine lv_iconst (v := nI 0) hx hb dX3_hasShot_16 (by decide) ?_
    exact hret _ _ _ _ _ _ (by rw [hasS, if_pos c_1]) rfl (by decide) hP hS dX3_hasShot_17
  · refine lv_iload_n hx hb dX3_hasShot_4 rfl (lv_at hl 1 rfl) ?_
    refine lv_aload_n hx hb dX3_hasShot_5 rfl (lv_at hl 0 rfl) ?_
    refine rwV0 (rest := [.int x]) S (c_X3_shots l E r rc f n hf) cd_X3_shots bw_177 ⟨Nat.le_of_ble_eq_true rfl, Nat.le_of_ble_eq_true rfl⟩ ⟨Nat.zero_le _, Nat.zero_le _⟩ hP (hDa.to rfl) hE hA hS [0, 1] rfl rfl [r, rc] rfl rfl (ci := 2) rfl (q0 := 0) rfl (Nat.le_of_ble_eq_true rfl) hl.1 dX3_hasShot_6 (fun H locs hP _ hS => ?_)
    have hP : va_P E.1 vwCl [(r, .inr (2, [.ref rc])), (rc, .inl (E.2.1, 293, .inl f))] H := hP
    refine lv_icmp_ge (tgt := 16) hx hb dX3_hasShot_9 (by decide) (fun c_2 => ?_) (fun c_2 => ?_)
    · refine lv_iconst (v := nI 0) hx hb dX3_hasShot_16 (by decide) ?_
      exact hret _ _ _ _ _ _ (by rw [hasS, if_neg c_1, if_pos c_2]) rfl (by decide) hP hS dX3_hasShot_17
    · refine lv_iconst (v := nI 1) hx hb dX3_hasShot_12 (by decide) ?_
      refine lv_goto (tgt := 17) hx hb dX3_hasShot_13 (by decide) ?_
      exact hret _ _ _ _ _ _ (by rw [hasS, if_neg c_1, if_neg c_2]) rfl (by decide) hP hS dX3_hasShot_17

/-- a shot's numbers copied to another place, the first j of them -/
def cpN (f : Nat → Int32) (a b j : Nat) : Nat → Int32 := fun k => if 13 + 14 * b ≤ k ∧ k < 13 + 14 * b + j then f (k + 14 * a - 14 * b) else f k
theorem cpN_0 (f : Nat → Int32) (a b : Nat) : cpN f a b 0 = f := by
  funext k; simp only [cpN]; split <;> first | rfl | omega
theorem cpN_s (f : Nat → Int32) {a b j : Nat} (hab : a ≠ b) (hj : j < 14) : upd (cpN f a b j) (13 + 14 * b + j) (cpN f a b j (13 + 14 * a + j)) = cpN f a b (j + 1) := by
  funext k; simp only [cpN, upd]; (repeat' split) <;> first | rfl | omega | exact congrArg f (by omega)
/-- two shots exchanged, the first j of their numbers -/
def swN (f : Nat → Int32) (a b j : Nat) : Nat → Int32 := fun k => if 13 + 14 * a ≤ k ∧ k < 13 + 14 * a + j then f (k + 14 * b - 14 * a) else if 13 + 14 * b ≤ k ∧ k < 13 + 14 * b + j then f (k + 14 * a - 14 * b) else f k
theorem swN_0 (f : Nat → Int32) (a b : Nat) : swN f a b 0 = f := by
  funext k; simp only [swN]; (repeat' split) <;> first | rfl | omega
theorem swN_s (f : Nat → Int32) {a b j : Nat} (hab : a ≠ b) (hj : j < 14) : upd (upd (swN f a b j) (13 + 14 * a + j) (swN f a b j (13 + 14 * b + j))) (13 + 14 * b + j) (swN f a b j (13 + 14 * a + j)) = swN f a b (j + 1) := by
  funext k; simp only [swN, upd]; (repeat' split) <;> first | rfl | omega | exact congrArg f (by omega)
/-- room made: the shots from t on stand one place further -/
def opN (f : Nat → Int32) (n t : Nat) : Nat → Int32 := fun k => if 13 + 14 * (t + 1) ≤ k ∧ k < 13 + 14 * (n + 1) then f (k - 14) else f k
theorem opN_n (f : Nat → Int32) (n : Nat) : opN f n n = f := by
  funext k; simp only [opN]; (repeat' split) <;> first | rfl | omega
theorem opN_s (f : Nat → Int32) {n t : Nat} (h1 : 0 < t) (h2 : t ≤ n) : cpN (opN f n t) (t - 1) t 14 = opN f n (t - 1) := by
  funext k; simp only [opN, cpN]; (repeat' split) <;> first | rfl | omega | exact congrArg f (by omega)
theorem opN_12 (f : Nat → Int32) (n t : Nat) : opN f n t 12 = f 12 := by
  simp only [opN]; (repeat' split) <;> first | rfl | omega
def opS (f : Nat → Int32) (n p : Nat) : Nat → Int32 := upd (opN f n p) 12 (nI (n + 1))
/-- a place closed: the shots behind it stand one place nearer -/
def clN (f : Nat → Int32) (p t : Nat) : Nat → Int32 := fun k => if 13 + 14 * p ≤ k ∧ k < 13 + 14 * t then f (k + 14) else f k
theorem clN_0 (f : Nat → Int32) (p : Nat) : clN f p p = f := by
  funext k; simp only [clN]; (repeat' split) <;> first | rfl | omega
theorem clN_s (f : Nat → Int32) {p t : Nat} (h : p ≤ t) : cpN (clN f p t) (t + 1) t 14 = clN f p (t + 1) := by
  funext k; simp only [clN, cpN]; (repeat' split) <;> first | rfl | omega | exact congrArg f (by omega)
theorem clN_12 (f : Nat → Int32) (p t : Nat) : clN f p t 12 = f 12 := by
  simp only [clN]; (repeat' split) <;> first | rfl | omega
def clS (f : Nat → Int32) (n p : Nat) : Nat → Int32 := upd (clN f p (n - 1)) 12 (nI (n - 1))
theorem cd_X3_copyShot : cdV RX3 yX3_copyShot cX3_copyShot 4 none 2 := ⟨⟨bw_184, bw_3, by decide, by decide, by decide +kernel⟩, bw_182, bw_183⟩
set_option maxHeartbeats 4000000 in
set_option maxRecDepth 100000 in
theorem c_X3_copyShot (l : Launch) (E : EV) (r : Nat) (rc : Nat) (f : Nat → Int32) (a : Nat) (b : Nat) (h1 : a < 20) (h2 : b < 20) (hne : a ≠ b) : rcV l E yX3_copyShot cX3_copyShot 4 1 [.ref r, .int (nI a), .int (nI b)] [(r, .inr (2, [.ref rc])), (rc, .inl (E.2.1, 293, .inl f))] [(r, .inr (2, [.ref rc])), (rc, .inl (E.2.1, 293, .inl (cpN f a b 14)))] := by
  refine rcV_of (by decide) (Nat.le_of_ble_eq_true rfl) ?_
  intro pg e s m below meth c Q A ls S hP hD0 hE hA hl hret
  have hx := S.1
  have hb := S.2.1
  have hown := S.2.2.2.1
  have hts := S.2.2.2.2
  have hK := hE.1
  have hS : va_S A s.heap s.heap [] := va_S.rf
  have hDa : va_Da A [r, rc] := ⟨_, hD0, rfl⟩
  have hl : lv_has ls 4 [(0, .ref r), (1, .int (nI a)), (2, .int (nI b))] := hl
  refine lv_iconst (v := nI 0) hx hb dX3_copyShot_0 (by decide) ?_
  refine lv_istore_n (lv' := [(3, .int (nI 0)), (0, .ref r), (1, .int (nI a)), (2, .int (nI b))]) hx hb dX3_copyShot_1 rfl hl (by decide) rfl (fun ls hl => ?_)
  have loop2 : ∀ (fuel : Nat) (j : Nat), 14 - j < fuel → (j ≤ 14) → ∀ (H : Heap) (locs : List Loc), va_P E.1 vwCl [(r, .inr (2, [.ref rc])), (rc, .inl (E.2.1, 293, .inl (cpN f a b j)))] H → va_S A s.heap H locs → ∀ ls : Array Slot, lv_has ls 4 [(3, .int (nI j)), (0, .ref r), (1, .int (nI a)), (2, .int (nI b))] → W pg l e (rq 1) s m ([.ref r, .int (nI a), .int (nI b)] : List Value).toArray below meth c H locs 0 0 Q (F0 m 2 ls []) := by
    intro fuel
    induction fuel with
    | zero => intro j h9; exact absurd h9 (Nat.not_lt_zero _)
    | succ fuel ih2 =>
      intro j hfu2 hj H locs hP hS ls hl
      refine lv_iload_n hx hb dX3_copyShot_2 rfl (lv_at hl 0 rfl) ?_
      refine lv_bipush (v := nI 14) hx hb dX3_copyShot_3 (by decide) ?_
      refine rn_icmp_ge (a := j) (b := 14) (tgt := 26) hx hb (by omega) (by omega) dX3_copyShot_5 (by decide) (fun c_1 => ?_) (fun c_1 => ?_)
      · exact hret _ _ _ _ _ (by rw [show j = 14 by omega]) hP hS dX3_copyShot_26
      · refine lv_aload_n hx hb dX3_copyShot_8 rfl (lv_at hl 1 rfl) ?_
        refine lv_iload_n hx hb dX3_copyShot_9 rfl (lv_at hl 3 rfl) ?_
        refine lv_iload_n hx hb dX3_copyShot_10 rfl (lv_at hl 0 rfl) ?_
        refine lv_aload_n hx hb dX3_copyShot_11 rfl (lv_at hl 1 rfl) ?_
        refine lv_iload_n hx hb dX3_copyShot_12 rfl (lv_at hl 2 rfl) ?_
        refine lv_iload_n hx hb dX3_copyShot_13 rfl (lv_at hl 0 rfl) ?_
        refine rwV2 (rest := [.int (nI j), .int (nI b), .ref r]) S (c_X3_readShot l E r rc (cpN f a b j) a j h1 (by omega)) cd_X3_readShot bw_185 ⟨Nat.le_of_ble_eq_true rfl, Nat.le_of_ble_eq_true rfl⟩ ⟨Nat.zero_le _, Nat.zero_le _⟩ hP (hDa.to rfl) hE hA hS [0, 1] rfl rfl [r, rc] rfl rfl (ci := 2) rfl (q0 := 0) rfl (Nat.le_of_ble_eq_true rfl) hl.1 dX3_copyShot_14 (fun H locs hP _ hS => ?_)
        have hP : va_P E.1 vwCl [(r, .inr (2, [.ref rc])), (rc, .inl (E.2.1, 293, .inl (cpN f a b j)))] H := hP
        refine rwVv3 (rest := []) S (c_X3_writeShot l E r rc (cpN f a b j) b j ((cpN f a b j) (13 + 14 * a + j)) h2 (by omega)) cd_X3_writeShot bw_189 ⟨Nat.le_of_ble_eq_true rfl, Nat.le_of_ble_eq_true rfl⟩ ⟨Nat.zero_le _, Nat.zero_le _⟩ hP (hDa.to rfl) hE hA hS [0, 1] rfl rfl [r, rc] rfl rfl (ci := 2) rfl (q0 := 0) rfl (Nat.le_of_ble_eq_true rfl) hl.1 dX3_copyShot_17 (fun H locs hP _ hS => ?_)
        have hP : va_P E.1 vwCl [(r, .inr (2, [.ref rc])), (rc, .inl (E.2.1, 293, .inl (upd (cpN f a b j) (13 + 14 * b + j) ((cpN f a b j) (13 + 14 * a + j)))))] H := hP
        refine rn_inc (a := j) (d := 1) (lv' := [(3, .int (nI (j + 1))), (0, .ref r), (1, .int (nI a)), (2, .int (nI b))]) hx hb dX3_copyShot_20 hl (k := 0) rfl (by decide) (by decide) rfl (fun ls hl => ?_)
        refine lv_goto (tgt := 2) hx hb dX3_copyShot_23 (by decide) ?_
        have hP : va_P E.1 vwCl [(r, .inr (2, [.ref rc])), (rc, .inl (E.2.1, 293, .inl (cpN f a b (j + 1))))] H := by rw [cpN_s f hne (by omega)] at hP; exact hP
        have hl : lv_has ls 4 [(3, .int (nI (j + 1))), (0, .ref r), (1, .int (nI a)), (2, .int (nI b))] := lv_sub hl [0, 1, 2, 3] rfl
        exact ih2 (j + 1) (by omega) (by omega) _ _ hP hS _ hl
  have hP : va_P E.1 vwCl [(r, .inr (2, [.ref rc])), (rc, .inl (E.2.1, 293, .inl (cpN f a b 0)))] s.heap := by rw [cpN_0]; exact hP
  have hl : lv_has ls 4 [(3, .int (nI 0)), (0, .ref r), (1, .int (nI a)), (2, .int (nI b))] := lv_sub hl [0, 1, 2, 3] rfl
  exact loop2 _ 0 (Nat.lt_succ_self _) (by omega) _ _ hP hS _ hl

theorem cd_X3_swapShots : cdV RX3 yX3_swapShots cX3_swapShots 5 none 2 := ⟨⟨bw_246, bw_3, by decide, by decide, by decide +kernel⟩, bw_244, bw_245⟩
set_option maxHeartbeats 4000000 in
set_option maxRecDepth 100000 in
theorem c_X3_swapShots (l : Launch) (E : EV) (r : Nat) (rc : Nat) (f : Nat → Int32) (a : Nat) (b : Nat) (h1 : a < 20) (h2 : b < 20) (hne : a ≠ b) : rcV l E yX3_swapShots cX3_swapShots 5 1 [.ref r, .int (nI a), .int (nI b)] [(r, .inr (2, [.ref rc])), (rc, .inl (E.2.1, 293, .inl f))] [(r, .inr (2, [.ref rc])), (rc, .inl (E.2.1, 293, .inl (swN f a b 14)))] := by
  refine rcV_of (by decide) (Nat.le_of_ble_eq_true rfl) ?_
  intro pg e s m below meth c Q A ls S hP hD0 hE hA hl hret
  have hx := S.1
  have hb := S.2.1
  have hown := S.2.2.2.1
  have hts := S.2.2.2.2
  have hK := hE.1
  have hS : va_S A s.heap s.heap [] := va_S.rf
  have hDa : va_Da A [r, rc] := ⟨_, hD0, rfl⟩
  have hl : lv_has ls 5 [(0, .ref r), (1, .int (nI a)), (2, .int (nI b))] := hl
  refine lv_iconst (v := nI 0) hx hb dX3_swapShots_0 (by decide) ?_
  refine lv_istore_n (lv' := [(3, .int (nI 0)), (0, .ref r), (1, .int (nI a)), (2, .int (nI b))]) hx hb dX3_swapShots_1 rfl hl (by decide) rfl (fun ls hl => ?_)
  have loop2 : ∀ (fuel : Nat) (j : Nat), 14 - j < fuel → (j ≤ 14) → ∀ (H : Heap) (locs : List Loc), va_P E.1 vwCl [(r, .inr (2, [.ref rc])), (rc, .inl (E.2.1, 293, .inl (swN f a b j)))] H → va_S A s.heap H locs → ∀ ls : Array Slot, lv_has ls 5 [(3, .int (nI j)), (0, .ref r), (1, .int (nI a)), (2, .int (nI b))] → W pg l e (rq 1) s m ([.ref r, .int (nI a), .int (nI b)] : List Value).toArray below meth c H locs 0 0 Q (F0 m 2 ls []) := by
    intro fuel
    induction fuel with
    | zero => intro j h9; exact absurd h9 (Nat.not_lt_zero _)
    | succ fuel ih2 =>
      intro j hfu2 hj H locs hP hS ls hl
      refine lv_iload_n hx hb dX3_swapShots_2 rfl (lv_at hl 0 rfl) ?_
      refine lv_bipush (v := nI 14) hx hb dX3_swapShots_3 (by decide) ?_
      refine rn_icmp_ge (a := j) (b := 14) (tgt := 42) hx hb (by omega) (by omega) dX3_swapShots_5 (by decide) (fun c_1 => ?_) (fun c_1 => ?_)
      · exact hret _ _ _ _ _ (by rw [show j = 14 by omega]) hP hS dX3_swapShots_42
      · refine lv_aload_n hx hb dX3_swapShots_8 rfl (lv_at hl 1 rfl) ?_
        refine lv_iload_n hx hb dX3_swapShots_9 rfl (lv_at hl 2 rfl) ?_
        refine lv_iload_n hx hb dX3_swapShots_10 rfl (lv_at hl 0 rfl) ?_
        refine rwV2 (rest := []) S (c_X3_readShot l E r rc (swN f a b j) a j h1 (by omega)) cd_X3_readShot bw_185 ⟨Nat.le_of_ble_eq_true rfl, Nat.le_of_ble_eq_true rfl⟩ ⟨Nat.zero_le _, Nat.zero_le _⟩ hP (hDa.to rfl) hE hA hS [0, 1] rfl rfl [r, rc] rfl rfl (ci := 2) rfl (q0 := 0) rfl (Nat.le_of_ble_eq_true rfl) hl.1 dX3_swapShots_11 (fun H locs hP _ hS => ?_)
        have hP : va_P E.1 vwCl [(r, .inr (2, [.ref rc])), (rc, .inl (E.2.1, 293, .inl (swN f a b j)))] H := hP
        refine lv_istore (lv' := [(4, .int ((swN f a b j) (13 + 14 * a + j))), (3, .int (nI j)), (0, .ref r), (1, .int (nI a)), (2, .int (nI b))]) hx hb dX3_swapShots_14 hl (by decide) rfl (fun ls hl => ?_)
        refine lv_aload_n hx hb dX3_swapShots_16 rfl (lv_at hl 2 rfl) ?_
        refine lv_iload_n hx hb dX3_swapShots_17 rfl (lv_at hl 3 rfl) ?_
        refine lv_iload_n hx hb dX3_swapShots_18 rfl (lv_at hl 1 rfl) ?_
        refine lv_aload_n hx hb dX3_swapShots_19 rfl (lv_at hl 2 rfl) ?_
        refine lv_iload_n hx hb dX3_swapShots_20 rfl (lv_at hl 4 rfl) ?_
        refine lv_iload_n hx hb dX3_swapShots_21 rfl (lv_at hl 1 rfl) ?_
        refine rwV2 (rest := [.int (nI j), .int (nI a), .ref r]) S (c_X3_readShot l E r rc (swN f a b j) b j h2 (by omega)) cd_X3_readShot bw_185 ⟨Nat.le_of_ble_eq_true rfl, Nat.le_of_ble_eq_true rfl⟩ ⟨Nat.zero_le _, Nat.zero_le _⟩ hP (hDa.to rfl) hE hA hS [0, 1] rfl rfl [r, rc] rfl rfl (ci := 2) rfl (q0 := 0) rfl (Nat.le_of_ble_eq_true rfl) hl.1 dX3_swapShots_22 (fun H locs hP _ hS => ?_)
        have hP : va_P E.1 vwCl [(r, .inr (2, [.ref rc])), (rc, .inl (E.2.1, 293, .inl (swN f a b j)))] H := hP
        refine rwVv3 (rest := []) S (c_X3_writeShot l E r rc (swN f a b j) a j ((swN f a b j) (13 + 14 * b + j)) h1 (by omega)) cd_X3_writeShot bw_189 ⟨Nat.le_of_ble_eq_true rfl, Nat.le_of_ble_eq_true rfl⟩ ⟨Nat.zero_le _, Nat.zero_le _⟩ hP (hDa.to rfl) hE hA hS [0, 1] rfl rfl [r, rc] rfl rfl (ci := 2) rfl (q0 := 0) rfl (Nat.le_of_ble_eq_true rfl) hl.1 dX3_swapShots_25 (fun H locs hP _ hS => ?_)
        have hP : va_P E.1 vwCl [(r, .inr (2, [.ref rc])), (rc, .inl (E.2.1, 293, .inl (upd (swN f a b j) (13 + 14 * a + j) ((swN f a b j) (13 + 14 * b + j)))))] H := hP
        refine lv_aload_n hx hb dX3_swapShots_28 rfl (lv_at hl 2 rfl) ?_
        refine lv_iload_n hx hb dX3_swapShots_29 rfl (lv_at hl 4 rfl) ?_
        refine lv_iload_n hx hb dX3_swapShots_30 rfl (lv_at hl 1 rfl) ?_
        refine lv_iload hx hb dX3_swapShots_31 (lv_at hl 0 rfl) ?_
        refine rwVv3 (rest := []) S (c_X3_writeShot l E r rc (upd (swN f a b j) (13 + 14 * a + j) ((swN f a b j) (13 + 14 * b + j))) b j ((swN f a b j) (13 + 14 * a + j)) h2 (by omega)) cd_X3_writeShot bw_189 ⟨Nat.le_of_ble_eq_true rfl, Nat.le_of_ble_eq_true rfl⟩ ⟨Nat.zero_le _, Nat.zero_le _⟩ hP (hDa.to rfl) hE hA hS [0, 1] rfl rfl [r, rc] rfl rfl (ci := 2) rfl (q0 := 0) rfl (Nat.le_of_ble_eq_true rfl) hl.1 dX3_swapShots_33 (fun H locs hP _ hS => ?_)
        have hP : va_P E.1 vwCl [(r, .inr (2, [.ref rc])), (rc, .inl (E.2.1, 293, .inl (upd (upd (swN f a b j) (13 + 14 * a + j) ((swN f a b j) (13 + 14 * b + j))) (13 + 14 * b + j) ((swN f a b j) (13 + 14 * a + j)))))] H := hP
        refine rn_inc (a := j) (d := 1) (lv' := [(3, .int (nI (j + 1))), (4, .int ((swN f a b j) (13 + 14 * a + j))), (0, .ref r), (1, .int (nI a)), (2, .int (nI b))]) hx hb dX3_swapShots_36 hl (k := 1) rfl (by decide) (by decide) rfl (fun ls hl => ?_)
        refine lv_goto (tgt := 2) hx hb dX3_swapShots_39 (by decide) ?_
        have hP : va_P E.1 vwCl [(r, .inr (2, [.ref rc])), (rc, .inl (E.2.1, 293, .inl (swN f a b (j + 1))))] H := by rw [swN_s f hne (by omega)] at hP; exact hP
        have hl : lv_has ls 5 [(3, .int (nI (j + 1))), (0, .ref r), (1, .int (nI a)), (2, .int (nI b))] := lv_sub hl [0, 2, 3, 4] rfl
        exact ih2 (j + 1) (by omega) (by omega) _ _ hP hS _ hl
  have hP : va_P E.1 vwCl [(r, .inr (2, [.ref rc])), (rc, .inl (E.2.1, 293, .inl (swN f a b 0)))] s.heap := by rw [swN_0]; exact hP
  have hl : lv_has ls 5 [(3, .int (nI 0)), (0, .ref r), (1, .int (nI a)), (2, .int (nI b))] := lv_sub hl [0, 1, 2, 3] rfl
  exact loop2 _ 0 (Nat.lt_succ_self _) (by omega) _ _ hP hS _ hl

theorem cd_X3_openPlace : cdV RX3 yX3_openPlace cX3_openPlace 3 none 1 := ⟨⟨bw_176, bw_3, by decide, by decide, by decide +kernel⟩, bw_174, bw_175⟩
set_option maxHeartbeats 4000000 in
set_option maxRecDepth 100000 in
theorem c_X3_openPlace (l : Launch) (E : EV) (r : Nat) (rc : Nat) (f : Nat → Int32) (n : Nat) (p : Nat) (hf : f 12 = nI n) (hn : n < 20) (hp : p ≤ n) : rcV l E yX3_openPlace cX3_openPlace 3 2 [.ref r, .int (nI p)] [(r, .inr (2, [.ref rc])), (rc, .inl (E.2.1, 293, .inl f))] [(r, .inr (2, [.ref rc])), (rc, .inl (E.2.1, 293, .inl (opS f n p)))] := by
  refine rcV_of (by decide) (Nat.le_of_ble_eq_true rfl) ?_
  intro pg e s m below meth c Q A ls S hP hD0 hE hA hl hret
  have hx := S.1
  have hb := S.2.1
  have hown := S.2.2.2.1
  have hts := S.2.2.2.2
  have hK := hE.1
  have hS : va_S A s.heap s.heap [] := va_S.rf
  have hDa : va_Da A [r, rc] := ⟨_, hD0, rfl⟩
  have hl : lv_has ls 3 [(0, .ref r), (1, .int (nI p))] := hl
  refine lv_aload_n hx hb dX3_openPlace_0 rfl (lv_at hl 0 rfl) ?_
  refine rwV0 (rest := []) S (c_X3_shots l E r rc f n hf) cd_X3_shots bw_177 ⟨Nat.le_of_ble_eq_true rfl, Nat.le_of_ble_eq_true rfl⟩ ⟨Nat.zero_le _, Nat.zero_le _⟩ hP (hDa.to rfl) hE hA hS [0, 1] rfl rfl [r, rc] rfl rfl (ci := 2) rfl (q0 := 0) rfl (Nat.le_of_ble_eq_true rfl) hl.1 dX3_openPlace_1 (fun H locs hP _ hS => ?_)
  have hP : va_P E.1 vwCl [(r, .inr (2, [.ref rc])), (rc, .inl (E.2.1, 293, .inl f))] H := hP
  refine lv_bipush (v := nI 19) hx hb dX3_openPlace_4 (by decide) ?_
  refine rw_min (rest := []) S hl.1 bw_178 ⟨Nat.le_of_ble_eq_true rfl, Nat.le_of_ble_eq_true rfl⟩ (Nat.le_of_ble_eq_true rfl) ⟨Nat.zero_le _, Nat.zero_le _⟩ dX3_openPlace_6 ?_
  refine W.eq (congrArg (fun z9 => F0 m 9 ls (.int z9 :: [])) (show imin (nI n) (nI 19) = nI n from imin_l (by omega) (by omega))) ?_
  refine lv_istore_n (lv' := [(2, .int (nI n)), (0, .ref r), (1, .int (nI p))]) hx hb dX3_openPlace_9 rfl hl (by decide) rfl (fun ls hl => ?_)
  have loop10 : ∀ (fuel : Nat) (t : Nat), t < fuel → (p ≤ t) → (t ≤ n) → ∀ (H : Heap) (locs : List Loc), va_P E.1 vwCl [(r, .inr (2, [.ref rc])), (rc, .inl (E.2.1, 293, .inl (opN f n t)))] H → va_S A s.heap H locs → ∀ ls : Array Slot, lv_has ls 3 [(2, .int (nI t)), (0, .ref r), (1, .int (nI p))] → W pg l e (rq 2) s m ([.ref r, .int (nI p)] : List Value).toArray below meth c H locs 0 0 Q (F0 m 10 ls []) := by
    intro fuel
    induction fuel with
    | zero => intro t h9; exact absurd h9 (Nat.not_lt_zero _)
    | succ fuel ih10 =>
      intro t hfu10 ht1 ht2 H locs hP hS ls hl
      refine lv_iload_n hx hb dX3_openPlace_10 rfl (lv_at hl 0 rfl) ?_
      refine lv_iload_n hx hb dX3_openPlace_11 rfl (lv_at hl 2 rfl) ?_
      refine rn_icmp_le (a := t) (b := p) (tgt := 29) hx hb (by omega) (by omega) dX3_openPlace_12 (by decide) (fun c_1 => ?_) (fun c_1 => ?_)
      · refine lv_aload_n hx hb dX3_openPlace_29 rfl (lv_at hl 1 rfl) ?_
        refine lv_bipush (v := nI 12) hx hb dX3_openPlace_30 (by decide) ?_
        refine lv_aload_n hx hb dX3_openPlace_32 rfl (lv_at hl 1 rfl) ?_
        refine rwV0 (rest := [.int (nI 12), .ref r]) S (c_X3_shots l E r rc (opN f n t) n ((opN_12 f n t).trans hf)) cd_X3_shots bw_177 ⟨Nat.le_of_ble_eq_true rfl, Nat.le_of_ble_eq_true rfl⟩ ⟨Nat.zero_le _, Nat.zero_le _⟩ hP (hDa.to rfl) hE hA hS [0, 1] rfl rfl [r, rc] rfl rfl (ci := 2) rfl (q0 := 0) rfl (Nat.le_of_ble_eq_true rfl) hl.1 dX3_openPlace_33 (fun H locs hP _ hS => ?_)
        have hP : va_P E.1 vwCl [(r, .inr (2, [.ref rc])), (rc, .inl (E.2.1, 293, .inl (opN f n t)))] H := hP
        refine lv_iconst (v := nI 1) hx hb dX3_openPlace_36 (by decide) ?_
        refine rn_add (a := n) (b := 1) hx hb dX3_openPlace_37 ?_
        refine rwVv2 (rest := []) S (c_X3_write l E r rc (opN f n t) 12 (nI (n + 1)) (by omega)) cd_X3_write bw_193 ⟨Nat.le_of_ble_eq_true rfl, Nat.le_of_ble_eq_true rfl⟩ ⟨Nat.zero_le _, Nat.zero_le _⟩ hP (hDa.to rfl) hE hA hS [0, 1] rfl rfl [r, rc] rfl rfl (ci := 2) rfl (q0 := 0) rfl (Nat.le_of_ble_eq_true rfl) hl.1 dX3_openPlace_38 (fun H locs hP _ hS => ?_)
        have hP : va_P E.1 vwCl [(r, .inr (2, [.ref rc])), (rc, .inl (E.2.1, 293, .inl (upd (opN f n t) 12 (nI (n + 1)))))] H := hP
        exact hret _ _ _ _ _ (by rw [show t = p by omega]; rfl) hP hS dX3_openPlace_41
      · refine lv_aload_n hx hb dX3_openPlace_15 rfl (lv_at hl 1 rfl) ?_
        refine lv_iload_n hx hb dX3_openPlace_16 rfl (lv_at hl 0 rfl) ?_
        refine lv_iconst (v := nI 1) hx hb dX3_openPlace_17 (by decide) ?_
        refine rn_sub (a := t) (b := 1) hx hb dX3_openPlace_18 (by omega) ?_
        refine lv_iload_n hx hb dX3_openPlace_19 rfl (lv_at hl 0 rfl) ?_
        refine rwVv2 (rest := []) S (c_X3_copyShot l E r rc (opN f n t) (t - 1) t (by omega) (by omega) (by omega)) cd_X3_copyShot bw_181 ⟨Nat.le_of_ble_eq_true rfl, Nat.le_of_ble_eq_true rfl⟩ ⟨Nat.zero_le _, Nat.zero_le _⟩ hP (hDa.to rfl) hE hA hS [0, 1] rfl rfl [r, rc] rfl rfl (ci := 2) rfl (q0 := 0) rfl (Nat.le_of_ble_eq_true rfl) hl.1 dX3_openPlace_20 (fun H locs hP _ hS => ?_)
        have hP : va_P E.1 vwCl [(r, .inr (2, [.ref rc])), (rc, .inl (E.2.1, 293, .inl (cpN (opN f n t) (t - 1) t 14)))] H := hP
        refine rn_dec (a := t) (lv' := [(2, .int (nI (t - 1))), (0, .ref r), (1, .int (nI p))]) hx hb dX3_openPlace_23 hl (k := 0) rfl (by decide) (by omega) (by decide) rfl (fun ls hl => ?_)
        refine lv_goto (tgt := 10) hx hb dX3_openPlace_26 (by decide) ?_
        have hP : va_P E.1 vwCl [(r, .inr (2, [.ref rc])), (rc, .inl (E.2.1, 293, .inl (opN f n (t - 1))))] H := by rw [opN_s f (by omega) (by omega)] at hP; exact hP
        have hl : lv_has ls 3 [(2, .int (nI (t - 1))), (0, .ref r), (1, .int (nI p))] := lv_sub hl [0, 1, 2] rfl
        exact ih10 (t - 1) (by omega) (by omega) (by omega) _ _ hP hS _ hl
  have hP : va_P E.1 vwCl [(r, .inr (2, [.ref rc])), (rc, .inl (E.2.1, 293, .inl (opN f n n)))] H := by rw [opN_n]; exact hP
  have hl : lv_has ls 3 [(2, .int (nI n)), (0, .ref r), (1, .int (nI p))] := lv_sub hl [0, 1, 2] rfl
  exact loop10 _ n (Nat.lt_succ_self _) hp (by omega) _ _ hP hS _ hl

theorem cd_X3_closePlace : cdV RX3 yX3_closePlace cX3_closePlace 3 none 1 := ⟨⟨bw_270, bw_3, by decide, by decide, by decide +kernel⟩, bw_268, bw_269⟩
set_option maxHeartbeats 4000000 in
set_option maxRecDepth 100000 in
theorem c_X3_closePlace (l : Launch) (E : EV) (r : Nat) (rc : Nat) (f : Nat → Int32) (n : Nat) (p : Nat) (hf : f 12 = nI n) (hn : n ≤ 20) (hp : p < n) : rcV l E yX3_closePlace cX3_closePlace 3 2 [.ref r, .int (nI p)] [(r, .inr (2, [.ref rc])), (rc, .inl (E.2.1, 293, .inl f))] [(r, .inr (2, [.ref rc])), (rc, .inl (E.2.1, 293, .inl (clS f n p)))] := by
  refine rcV_of (by decide) (Nat.le_of_ble_eq_true rfl) ?_
  intro pg e s m below meth c Q A ls S hP hD0 hE hA hl hret
  have hx := S.1
  have hb := S.2.1
  have hown := S.2.2.2.1
  have hts := S.2.2.2.2
  have hK := hE.1
  have hS : va_S A s.heap s.heap [] := va_S.rf
  have hDa : va_Da A [r, rc] := ⟨_, hD0, rfl⟩
  have hl : lv_has ls 3 [(0, .ref r), (1, .int (nI p))] := hl
  refine lv_iload_n hx hb dX3_closePlace_0 rfl (lv_at hl 1 rfl) ?_
  refine lv_istore_n (lv' := [(2, .int (nI p)), (0, .ref r), (1, .int (nI p))]) hx hb dX3_closePlace_1 rfl hl (by decide) rfl (fun ls hl => ?_)
  have loop2 : ∀ (fuel : Nat) (t : Nat), n - t < fuel → (p ≤ t) → (t < n) → ∀ (H : Heap) (locs : List Loc), va_P E.1 vwCl [(r, .inr (2, [.ref rc])), (rc, .inl (E.2.1, 293, .inl (clN f p t)))] H → va_S A s.heap H locs → ∀ ls : Array Slot, lv_has ls 3 [(2, .int (nI t)), (0, .ref r), (1, .int (nI p))] → W pg l e (rq 2) s m ([.ref r, .int (nI p)] : List Value).toArray below meth c H locs 0 0 Q (F0 m 2 ls []) := by
    intro fuel
    induction fuel with
    | zero => intro t h9; exact absurd h9 (Nat.not_lt_zero _)
    | succ fuel ih2 =>
      intro t hfu2 ht1 ht2 H locs hP hS ls hl
      refine lv_iload_n hx hb dX3_closePlace_2 rfl (lv_at hl 0 rfl) ?_
      refine lv_aload_n hx hb dX3_closePlace_3 rfl (lv_at hl 1 rfl) ?_
      refine rwV0 (rest := [.int (nI t)]) S (c_X3_shots l E r rc (clN f p t) n ((clN_12 f p t).trans hf)) cd_X3_shots bw_177 ⟨Nat.le_of_ble_eq_true rfl, Nat.le_of_ble_eq_true rfl⟩ ⟨Nat.zero_le _, Nat.zero_le _⟩ hP (hDa.to rfl) hE hA hS [0, 1] rfl rfl [r, rc] rfl rfl (ci := 2) rfl (q0 := 0) rfl (Nat.le_of_ble_eq_true rfl) hl.1 dX3_closePlace_4 (fun H locs hP _ hS => ?_)
      have hP : va_P E.1 vwCl [(r, .inr (2, [.ref rc])), (rc, .inl (E.2.1, 293, .inl (clN f p t)))] H := hP
      refine lv_iconst (v := nI 1) hx hb dX3_closePlace_7 (by decide) ?_
      refine rn_sub (a := n) (b := 1) hx hb dX3_closePlace_8 (by omega) ?_
      refine rn_icmp_ge (a := t) (b := n - 1) (tgt := 26) hx hb (by omega) (by omega) dX3_closePlace_9 (by decide) (fun c_1 => ?_) (fun c_1 => ?_)
      · refine lv_aload_n hx hb dX3_closePlace_26 rfl (lv_at hl 1 rfl) ?_
        refine lv_bipush (v := nI 12) hx hb dX3_closePlace_27 (by decide) ?_
        refine lv_aload_n hx hb dX3_closePlace_29 rfl (lv_at hl 1 rfl) ?_
        refine rwV0 (rest := [.int (nI 12), .ref r]) S (c_X3_shots l E r rc (clN f p t) n ((clN_12 f p t).trans hf)) cd_X3_shots bw_177 ⟨Nat.le_of_ble_eq_true rfl, Nat.le_of_ble_eq_true rfl⟩ ⟨Nat.zero_le _, Nat.zero_le _⟩ hP (hDa.to rfl) hE hA hS [0, 1] rfl rfl [r, rc] rfl rfl (ci := 2) rfl (q0 := 0) rfl (Nat.le_of_ble_eq_true rfl) hl.1 dX3_closePlace_30 (fun H locs hP _ hS => ?_)
        have hP : va_P E.1 vwCl [(r, .inr (2, [.ref rc])), (rc, .inl (E.2.1, 293, .inl (clN f p t)))] H := hP
        refine lv_iconst (v := nI 1) hx hb dX3_closePlace_33 (by decide) ?_
        refine rn_sub (a := n) (b := 1) hx hb dX3_closePlace_34 (by omega) ?_
        refine rwVv2 (rest := []) S (c_X3_write l E r rc (clN f p t) 12 (nI (n - 1)) (by omega)) cd_X3_write bw_193 ⟨Nat.le_of_ble_eq_true rfl, Nat.le_of_ble_eq_true rfl⟩ ⟨Nat.zero_le _, Nat.zero_le _⟩ hP (hDa.to rfl) hE hA hS [0, 1] rfl rfl [r, rc] rfl rfl (ci := 2) rfl (q0 := 0) rfl (Nat.le_of_ble_eq_true rfl) hl.1 dX3_closePlace_35 (fun H locs hP _ hS => ?_)
        have hP : va_P E.1 vwCl [(r, .inr (2, [.ref rc])), (rc, .inl (E.2.1, 293, .inl (upd (clN f p t) 12 (nI (n - 1)))))] H := hP
        exact hret _ _ _ _ _ (by rw [show t = n - 1 by omega]; rfl) hP hS dX3_closePlace_38
      · refine lv_aload_n hx hb dX3_closePlace_12 rfl (lv_at hl 1 rfl) ?_
        refine lv_iload_n hx hb dX3_closePlace_13 rfl (lv_at hl 0 rfl) ?_
        refine lv_iconst (v := nI 1) hx hb dX3_closePlace_14 (by decide) ?_
        refine rn_add (a := t) (b := 1) hx hb dX3_closePlace_15 ?_
        refine lv_iload_n hx hb dX3_closePlace_16 rfl (lv_at hl 0 rfl) ?_
        refine rwVv2 (rest := []) S (c_X3_copyShot l E r rc (clN f p t) (t + 1) t (by omega) (by omega) (by omega)) cd_X3_copyShot bw_181 ⟨Nat.le_of_ble_eq_true rfl, Nat.le_of_ble_eq_true rfl⟩ ⟨Nat.zero_le _, Nat.zero_le _⟩ hP (hDa.to rfl) hE hA hS [0, 1] rfl rfl [r, rc] rfl rfl (ci := 2) rfl (q0 := 0) rfl (Nat.le_of_ble_eq_true rfl) hl.1 dX3_closePlace_17 (fun H locs hP _ hS => ?_)
        have hP : va_P E.1 vwCl [(r, .inr (2, [.ref rc])), (rc, .inl (E.2.1, 293, .inl (cpN (clN f p t) (t + 1) t 14)))] H := hP
        refine rn_inc (a := t) (d := 1) (lv' := [(2, .int (nI (t + 1))), (0, .ref r), (1, .int (nI p))]) hx hb dX3_closePlace_20 hl (k := 0) rfl (by decide) (by decide) rfl (fun ls hl => ?_)
        refine lv_goto (tgt := 2) hx hb dX3_closePlace_23 (by decide) ?_
        have hP : va_P E.1 vwCl [(r, .inr (2, [.ref rc])), (rc, .inl (E.2.1, 293, .inl (clN f p (t + 1))))] H := by rw [clN_s f (by omega)] at hP; exact hP
        have hl : lv_has ls 3 [(2, .int (nI (t + 1))), (0, .ref r), (1, .int (nI p))] := lv_sub hl [0, 1, 2] rfl
        exact ih2 (t + 1) (by omega) (by omega) (by omega) _ _ hP hS _ hl
  have hP : va_P E.1 vwCl [(r, .inr (2, [.ref rc])), (rc, .inl (E.2.1, 293, .inl (clN f p p)))] s.heap := by rw [clN_0]; exact hP
  have hl : lv_has ls 3 [(2, .int (nI p)), (0, .ref r), (1, .int (nI p))] := lv_sub hl [0, 1, 2] rfl
  exact loop2 _ p (Nat.lt_succ_self _) (by omega) hp _ _ hP hS _ hl

def cp293 (f g : Nat → Int32) : Nat → Int32 := va_cpy f g 0 0 293
theorem cd_X3_become : cdV RX3 yX3_become cX3_become 2 none 1 := ⟨⟨bw_154, bw_3, by decide, by decide, by decide +kernel⟩, bw_152, bw_153⟩
set_option maxHeartbeats 4000000 in
set_option maxRecDepth 100000 in
theorem c_X3_become (l : Launch) (E : EV) (r : Nat) (rc : Nat) (o : Nat) (oc : Nat) (f : Nat → Int32) (g : Nat → Int32)  : rcV l E yX3_become cX3_become 2 1 [.ref r, .ref o] [(r, .inr (2, [.ref rc])), (rc, .inl (E.2.1, 293, .inl f)), (o, .inr (2, [.ref oc])), (oc, .inl (E.2.1, 293, .inl g))] [(r, .inr (2, [.ref rc])), (rc, .inl (E.2.1, 293, .inl (cp293 g f))), (o, .inr (2, [.ref oc])), (oc, .inl (E.2.1, 293, .inl g))] := by
  refine rcV_of (by decide) (Nat.le_of_ble_eq_true rfl) ?_
  intro pg e s m below meth c Q A ls S hP hD0 hE hA hl hret
  have hx := S.1
  have hb := S.2.1
  have hown := S.2.2.2.1
  have hts := S.2.2.2.2
  have hK := hE.1
  have hS : va_S A s.heap s.heap [] := va_S.rf
  have hDa : va_Da A [r, rc, o, oc] := ⟨_, hD0, rfl⟩
  have hl : lv_has ls 2 [(0, .ref r), (1, .ref o)] := hl
  refine lv_aload_n hx hb dX3_become_0 rfl (lv_at hl 1 rfl) ?_
  refine va_get (D := E.1) (ci := 2) (v := .ref oc) (C := RX3) (T := TX3) (N := 1) hx hb hts inb_X3 hown hK hP 2 rfl rfl 0 (by decide) (hts _ bw_31) (fun _ h9 => h9) rfl dX3_become_1 ?_
  refine lv_iconst (v := nI 0) hx hb dX3_become_4 (by decide) ?_
  refine lv_aload_n hx hb dX3_become_5 rfl (lv_at hl 0 rfl) ?_
  refine va_get (D := E.1) (ci := 2) (v := .ref rc) (C := RX3) (T := TX3) (N := 1) hx hb hts inb_X3 hown hK hP 0 rfl rfl 0 (by decide) (hts _ bw_31) (fun _ h9 => h9) rfl dX3_become_6 ?_
  refine lv_iconst (v := nI 0) hx hb dX3_become_9 (by decide) ?_
  refine lv_sipush (v := nI 293) hx hb dX3_become_10 (by decide) ?_
  refine rw_copy (rest := []) (sp := 0) (dp := 0) (n := 293) S hl.1 bw_28 ⟨Nat.le_of_ble_eq_true rfl, Nat.le_of_ble_eq_true rfl⟩ (Nat.le_of_ble_eq_true rfl) hK hP (hDa.to rfl) hS 3 1 rfl rfl rfl (by omega) (by omega) (by omega) (by omega) (by omega) dX3_become_13 (fun H locs hP _ hS => ?_)
  have hP : va_P E.1 vwCl [(r, .inr (2, [.ref rc])), (rc, .inl (E.2.1, 293, .inl (va_cpy g f 0 0 293))), (o, .inr (2, [.ref oc])), (oc, .inl (E.2.1, 293, .inl g))] H := hP
  exact hret _ _ _ _ _ rfl hP hS dX3_become_16

theorem cd_X3_writeTo : cdV RX3 yX3_writeTo cX3_writeTo 3 none 2 := ⟨⟨bw_213, bw_3, by decide, by decide, by decide +kernel⟩, bw_211, bw_212⟩
set_option maxHeartbeats 4000000 in
set_option maxRecDepth 100000 in
theorem c_X3_writeTo (l : Launch) (E : EV) (r : Nat) (rc : Nat) (w : Nat) (N : Nat) (f : Nat → Int32) (h : Nat → Int32) (a : Nat) (ha : a + 293 ≤ N) (hN : N < 10000) : rcV l E yX3_writeTo cX3_writeTo 3 1 [.ref r, .ref w, .int (nI a)] [(r, .inr (2, [.ref rc])), (rc, .inl (E.2.1, 293, .inl f)), (w, .inl (E.2.1, N, .inl h))] [(r, .inr (2, [.ref rc])), (rc, .inl (E.2.1, 293, .inl f)), (w, .inl (E.2.1, N, .inl (va_cpy f h 0 a 293)))] := by
  refine rcV_of (by decide) (Nat.le_of_ble_eq_true rfl) ?_
  intro pg e s m below meth c Q A ls S hP hD0 hE hA hl hret
  have hx := S.1
  have hb := S.2.1
  have hown := S.2.2.2.1
  have hts := S.2.2.2.2
  have hK := hE.1
  have hS : va_S A s.heap s.heap [] := va_S.rf
  have hDa : va_Da A [r, rc, w] := ⟨_, hD0, rfl⟩
  have hl : lv_has ls 3 [(0, .ref r), (1, .ref w), (2, .int (nI a))] := hl
  refine lv_iload_n hx hb dX3_writeTo_0 rfl (lv_at hl 2 rfl) ?_
  refine lv_if_lt (tgt := 27) hx hb dX3_writeTo_1 (by decide) (fun c9 => absurd c9 (nI_pos (by omega))) (fun _ => ?_)
  refine lv_iload_n hx hb dX3_writeTo_4 rfl (lv_at hl 2 rfl) ?_
  refine lv_aload_n hx hb dX3_writeTo_5 rfl (lv_at hl 1 rfl) ?_
  refine va_alen (v := nI N) hx hb hK hP 2 0 rfl rfl rfl dX3_writeTo_6 ?_
  refine lv_sipush (v := nI 293) hx hb dX3_writeTo_7 (by decide) ?_
  refine rn_sub (a := N) (b := 293) hx hb dX3_writeTo_10 (by omega) ?_
  refine rn_icmp_gt (a := a) (b := N - 293) (tgt := 27) hx hb (by omega) (by omega) dX3_writeTo_11 (by decide) (fun c_1 => absurd c_1 (by omega)) (fun c_1 => ?_)
  refine lv_aload_n hx hb dX3_writeTo_14 rfl (lv_at hl 0 rfl) ?_
  refine va_get (D := E.1) (ci := 2) (v := .ref rc) (C := RX3) (T := TX3) (N := 1) hx hb hts inb_X3 hown hK hP 0 rfl rfl 0 (by decide) (hts _ bw_31) (fun _ h9 => h9) rfl dX3_writeTo_15 ?_
  refine lv_iconst (v := nI 0) hx hb dX3_writeTo_18 (by decide) ?_
  refine lv_aload_n hx hb dX3_writeTo_19 rfl (lv_at hl 1 rfl) ?_
  refine lv_iload_n hx hb dX3_writeTo_20 rfl (lv_at hl 2 rfl) ?_
  refine lv_sipush (v := nI 293) hx hb dX3_writeTo_21 (by decide) ?_
  refine rw_copy (rest := []) (sp := 0) (dp := a) (n := 293) S hl.1 bw_28 ⟨Nat.le_of_ble_eq_true rfl, Nat.le_of_ble_eq_true rfl⟩ (Nat.le_of_ble_eq_true rfl) hK hP (hDa.to rfl) hS 1 2 rfl rfl rfl (by omega) (by omega) (by omega) (by omega) (by omega) dX3_writeTo_24 (fun H locs hP _ hS => ?_)
  have hP : va_P E.1 vwCl [(r, .inr (2, [.ref rc])), (rc, .inl (E.2.1, 293, .inl f)), (w, .inl (E.2.1, N, .inl (va_cpy f h 0 a 293)))] H := hP
  exact hret _ _ _ _ _ rfl hP hS dX3_writeTo_27

theorem cd_X3_readFrom : cdV RX3 yX3_readFrom cX3_readFrom 3 none 2 := ⟨⟨bw_134, bw_3, by decide, by decide, by decide +kernel⟩, bw_132, bw_133⟩
set_option maxHeartbeats 4000000 in
set_option maxRecDepth 100000 in
theorem c_X3_readFrom (l : Launch) (E : EV) (r : Nat) (rc : Nat) (w : Nat) (N : Nat) (f : Nat → Int32) (h : Nat → Int32) (a : Nat) (ha : a + 293 ≤ N) (hN : N < 10000) : rcV l E yX3_readFrom cX3_readFrom 3 1 [.ref r, .ref w, .int (nI a)] [(r, .inr (2, [.ref rc])), (rc, .inl (E.2.1, 293, .inl f)), (w, .inl (E.2.1, N, .inl h))] [(r, .inr (2, [.ref rc])), (rc, .inl (E.2.1, 293, .inl (va_cpy h f a 0 293))), (w, .inl (E.2.1, N, .inl h))] := by
  refine rcV_of (by decide) (Nat.le_of_ble_eq_true rfl) ?_
  intro pg e s m below meth c Q A ls S hP hD0 hE hA hl hret
  have hx := S.1
  have hb := S.2.1
  have hown := S.2.2.2.1
  have hts := S.2.2.2.2
  have hK := hE.1
  have hS : va_S A s.heap s.heap [] := va_S.rf
  have hDa : va_Da A [r, rc, w] := ⟨_, hD0, rfl⟩
  have hl : lv_has ls 3 [(0, .ref r), (1, .ref w), (2, .int (nI a))] := hl
  refine lv_iload_n hx hb dX3_readFrom_0 rfl (lv_at hl 2 rfl) ?_
  refine lv_if_lt (tgt := 27) hx hb dX3_readFrom_1 (by decide) (fun c9 => absurd c9 (nI_pos (by omega))) (fun _ => ?_)
  refine lv_iload_n hx hb dX3_readFrom_4 rfl (lv_at hl 2 rfl) ?_
  refine lv_aload_n hx hb dX3_readFrom_5 rfl (lv_at hl 1 rfl) ?_
  refine va_alen (v := nI N) hx hb hK hP 2 0 rfl rfl rfl dX3_readFrom_6 ?_
  refine lv_sipush (v := nI 293) hx hb dX3_readFrom_7 (by decide) ?_
  refine rn_sub (a := N) (b := 293) hx hb dX3_readFrom_10 (by omega) ?_
  refine rn_icmp_gt (a := a) (b := N - 293) (tgt := 27) hx hb (by omega) (by omega) dX3_readFrom_11 (by decide) (fun c_1 => absurd c_1 (by omega)) (fun c_1 => ?_)
  refine lv_aload_n hx hb dX3_readFrom_14 rfl (lv_at hl 1 rfl) ?_
  refine lv_iload_n hx hb dX3_readFrom_15 rfl (lv_at hl 2 rfl) ?_
  refine lv_aload_n hx hb dX3_readFrom_16 rfl (lv_at hl 0 rfl) ?_
  refine va_get (D := E.1) (ci := 2) (v := .ref rc) (C := RX3) (T := TX3) (N := 1) hx hb hts inb_X3 hown hK hP 0 rfl rfl 0 (by decide) (hts _ bw_31) (fun _ h9 => h9) rfl dX3_readFrom_17 ?_
  refine lv_iconst (v := nI 0) hx hb dX3_readFrom_20 (by decide) ?_
  refine lv_sipush (v := nI 293) hx hb dX3_readFrom_21 (by decide) ?_
  refine rw_copy (rest := []) (sp := a) (dp := 0) (n := 293) S hl.1 bw_28 ⟨Nat.le_of_ble_eq_true rfl, Nat.le_of_ble_eq_true rfl⟩ (Nat.le_of_ble_eq_true rfl) hK hP (hDa.to rfl) hS 2 1 rfl rfl rfl (by omega) (by omega) (by omega) (by omega) (by omega) dX3_readFrom_24 (fun H locs hP _ hS => ?_)
  have hP : va_P E.1 vwCl [(r, .inr (2, [.ref rc])), (rc, .inl (E.2.1, 293, .inl (va_cpy h f a 0 293))), (w, .inl (E.2.1, N, .inl h))] H := hP
  exact hret _ _ _ _ _ rfl hP hS dX3_readFrom_27

theorem cd_X4_keep : cdV RX4 yX4_keep cX4_keep 3 none 2 := ⟨⟨bw_209, bw_7, by decide, by decide, by decide +kernel⟩, bw_207, bw_208⟩
set_option maxHeartbeats 4000000 in
set_option maxRecDepth 100000 in
theorem c_X4_keep (l : Launch) (E : EV) (q : Nat) (r : Nat) (rc : Nat) (w : Nat) (N : Nat) (f : Nat → Int32) (h : Nat → Int32) (x : Nat) (ha : x * 293 + 293 ≤ N) (hN : N < 10000) : rcV l E yX4_keep cX4_keep 3 2 [.ref q, .int (nI x), .ref r] [(q, .inr (3, [.ref w])), (w, .inl (E.2.1, N, .inl h)), (r, .inr (2, [.ref rc])), (rc, .inl (E.2.1, 293, .inl f))] [(q, .inr (3, [.ref w])), (w, .inl (E.2.1, N, .inl (va_cpy f h 0 (x * 293) 293))), (r, .inr (2, [.ref rc])), (rc, .inl (E.2.1, 293, .inl f))] := by
  refine rcV_of (by decide) (Nat.le_of_ble_eq_true rfl) ?_
  intro pg e s m below meth c Q A ls S hP hD0 hE hA hl hret
  have hx := S.1
  have hb := S.2.1
  have hown := S.2.2.2.1
  have hts := S.2.2.2.2
  have hK := hE.1
  have hS : va_S A s.heap s.heap [] := va_S.rf
  have hDa : va_Da A [q, w, r, rc] := ⟨_, hD0, rfl⟩
  have hl : lv_has ls 3 [(0, .ref q), (1, .int (nI x)), (2, .ref r)] := hl
  refine lv_aload_n hx hb dX4_keep_0 rfl (lv_at hl 2 rfl) ?_
  refine lv_aload_n hx hb dX4_keep_1 rfl (lv_at hl 0 rfl) ?_
  refine va_get (D := E.1) (ci := 3) (v := .ref w) (C := RX4) (T := TX4) (N := 1) hx hb hts inb_X4 hown hK hP 0 rfl rfl 0 (by decide) (hts _ bw_78) (fun _ h9 => h9) rfl dX4_keep_2 ?_
  refine lv_iload_n hx hb dX4_keep_5 rfl (lv_at hl 1 rfl) ?_
  refine lv_sipush (v := nI 293) hx hb dX4_keep_6 (by decide) ?_
  refine rn_mul (a := x) (b := 293) hx hb dX4_keep_9 ?_
  refine rwVv2 (rest := []) S (c_X3_writeTo l E r rc w N f h (x * 293) (by omega) hN) cd_X3_writeTo bw_210 ⟨Nat.le_of_ble_eq_true rfl, Nat.le_of_ble_eq_true rfl⟩ ⟨Nat.zero_le _, Nat.zero_le _⟩ hP (hDa.to rfl) hE hA hS [2, 3, 1] rfl rfl [r, rc, w] rfl rfl (ci := 2) rfl (q0 := 0) rfl (Nat.le_of_ble_eq_true rfl) hl.1 dX4_keep_10 (fun H locs hP _ hS => ?_)
  have hP : va_P E.1 vwCl [(q, .inr (3, [.ref w])), (w, .inl (E.2.1, N, .inl (va_cpy f h 0 (x * 293) 293))), (r, .inr (2, [.ref rc])), (rc, .inl (E.2.1, 293, .inl f))] H := hP
  exact hret _ _ _ _ _ rfl hP hS dX4_keep_13

theorem cd_X4_give : cdV RX4 yX4_give cX4_give 3 none 2 := ⟨⟨bw_130, bw_7, by decide, by decide, by decide +kernel⟩, bw_128, bw_129⟩
set_option maxHeartbeats 4000000 in
set_option maxRecDepth 100000 in
theorem c_X4_give (l : Launch) (E : EV) (q : Nat) (r : Nat) (rc : Nat) (w : Nat) (N : Nat) (f : Nat → Int32) (h : Nat → Int32) (x : Nat) (ha : x * 293 + 293 ≤ N) (hN : N < 10000) : rcV l E yX4_give cX4_give 3 2 [.ref q, .int (nI x), .ref r] [(q, .inr (3, [.ref w])), (w, .inl (E.2.1, N, .inl h)), (r, .inr (2, [.ref rc])), (rc, .inl (E.2.1, 293, .inl f))] [(q, .inr (3, [.ref w])), (w, .inl (E.2.1, N, .inl h)), (r, .inr (2, [.ref rc])), (rc, .inl (E.2.1, 293, .inl (va_cpy h f (x * 293) 0 293)))] := by
  refine rcV_of (by decide) (Nat.le_of_ble_eq_true rfl) ?_
  intro pg e s m below meth c Q A ls S hP hD0 hE hA hl hret
  have hx := S.1
  have hb := S.2.1
  have hown := S.2.2.2.1
  have hts := S.2.2.2.2
  have hK := hE.1
  have hS : va_S A s.heap s.heap [] := va_S.rf
  have hDa : va_Da A [q, w, r, rc] := ⟨_, hD0, rfl⟩
  have hl : lv_has ls 3 [(0, .ref q), (1, .int (nI x)), (2, .ref r)] := hl
  refine lv_aload_n hx hb dX4_give_0 rfl (lv_at hl 2 rfl) ?_
  refine lv_aload_n hx hb dX4_give_1 rfl (lv_at hl 0 rfl) ?_
  refine va_get (D := E.1) (ci := 3) (v := .ref w) (C := RX4) (T := TX4) (N := 1) hx hb hts inb_X4 hown hK hP 0 rfl rfl 0 (by decide) (hts _ bw_78) (fun _ h9 => h9) rfl dX4_give_2 ?_
  refine lv_iload_n hx hb dX4_give_5 rfl (lv_at hl 1 rfl) ?_
  refine lv_sipush (v := nI 293) hx hb dX4_give_6 (by decide) ?_
  refine rn_mul (a := x) (b := 293) hx hb dX4_give_9 ?_
  refine rwVv2 (rest := []) S (c_X3_readFrom l E r rc w N f h (x * 293) (by omega) hN) cd_X3_readFrom bw_131 ⟨Nat.le_of_ble_eq_true rfl, Nat.le_of_ble_eq_true rfl⟩ ⟨Nat.zero_le _, Nat.zero_le _⟩ hP (hDa.to rfl) hE hA hS [2, 3, 1] rfl rfl [r, rc, w] rfl rfl (ci := 2) rfl (q0 := 0) rfl (Nat.le_of_ble_eq_true rfl) hl.1 dX4_give_10 (fun H locs hP _ hS => ?_)
  have hP : va_P E.1 vwCl [(q, .inr (3, [.ref w])), (w, .inl (E.2.1, N, .inl h)), (r, .inr (2, [.ref rc])), (rc, .inl (E.2.1, 293, .inl (va_cpy h f (x * 293) 0 293)))] H := hP
  exact hret _ _ _ _ _ rfl hP hS dX4_give_13

theorem cd_X1_size : cdV RX1 yX1_size cX1_size 1 (some .int) 0 := ⟨⟨bw_122, bw_6, by decide, by decide, by decide +kernel⟩, bw_120, bw_121⟩
set_option maxHeartbeats 4000000 in
set_option maxRecDepth 100000 in
theorem c_X1_size (l : Launch) (E : EV) (y : Nat) (q : Nat) (o : Nat) (z : Nat)  : rcI l E yX1_size cX1_size 1 .int 0 [.ref y] [(y, .inr (0, [.ref q, .int (nI o), .int (nI z)]))] (nI z) [(y, .inr (0, [.ref q, .int (nI o), .int (nI z)]))] := by
  refine rcI_of (by decide) (Nat.le_of_ble_eq_true rfl) ?_
  intro pg e s m below meth c Q A ls S hP hD0 hE hA hl hret
  have hx := S.1
  have hb := S.2.1
  have hown := S.2.2.2.1
  have hts := S.2.2.2.2
  have hK := hE.1
  have hS : va_S A s.heap s.heap [] := va_S.rf
  have hDa : va_Da A [y] := ⟨_, hD0, rfl⟩
  have hl : lv_has ls 1 [(0, .ref y)] := hl
  refine lv_aload_n hx hb dX1_size_0 rfl (lv_at hl 0 rfl) ?_
  refine va_get (D := E.1) (ci := 0) (v := .int (nI z)) (C := RX1) (T := TX1) (N := 3) hx hb hts inb_X1 hown hK hP 0 rfl rfl 2 (by decide) (hts _ bw_84) (fun _ h9 => h9) rfl dX1_size_1 ?_
  exact hret _ _ _ _ _ _ rfl rfl rfl hP hS dX1_size_4

def hiO (o z : Nat) : Nat := if z < 6 then o else (o + 1) % 6
def hiZ (z : Nat) : Nat := if z < 6 then z + 1 else z
theorem cd_X1_record : cdV RX1 yX1_record cX1_record 2 none 1 := ⟨⟨bw_205, bw_6, by decide, by decide, by decide +kernel⟩, bw_203, bw_204⟩
set_option maxHeartbeats 4000000 in
set_option maxRecDepth 100000 in
theorem c_X1_record (l : Launch) (E : EV) (y : Nat) (q : Nat) (w : Nat) (r : Nat) (rc : Nat) (o : Nat) (z : Nat) (f : Nat → Int32) (h : Nat → Int32) (ho : o < 6) (hz : z ≤ 6) : rcV l E yX1_record cX1_record 2 3 [.ref y, .ref r] [(y, .inr (0, [.ref q, .int (nI o), .int (nI z)])), (q, .inr (3, [.ref w])), (w, .inl (E.2.1, 1758, .inl h)), (r, .inr (2, [.ref rc])), (rc, .inl (E.2.1, 293, .inl f))] [(y, .inr (0, [.ref q, .int (nI (hiO o z)), .int (nI (hiZ z))])), (q, .inr (3, [.ref w])), (w, .inl (E.2.1, 1758, .inl (va_cpy f h 0 ((o + z) % 6 * 293) 293))), (r, .inr (2, [.ref rc])), (rc, .inl (E.2.1, 293, .inl f))] := by
  refine rcV_of (by decide) (Nat.le_of_ble_eq_true rfl) ?_
  intro pg e s m below meth c Q A ls S hP hD0 hE hA hl hret
  have hx := S.1
  have hb := S.2.1
  have hown := S.2.2.2.1
  have hts := S.2.2.2.2
  have hK := hE.1
  have hS : va_S A s.heap s.heap [] := va_S.rf
  have hDa : va_Da A [y, q, w, r, rc] := ⟨_, hD0, rfl⟩
  have hl : lv_has ls 2 [(0, .ref y), (1, .ref r)] := hl
  refine lv_aload_n hx hb dX1_record_0 rfl (lv_at hl 0 rfl) ?_
  refine va_get (D := E.1) (ci := 0) (v := .ref q) (C := RX1) (T := TX1) (N := 3) hx hb hts inb_X1 hown hK hP 0 rfl rfl 0 (by decide) (hts _ bw_82) (fun _ h9 => h9) rfl dX1_record_1 ?_
  refine lv_aload_n hx hb dX1_record_4 rfl (lv_at hl 0 rfl) ?_
  refine va_get (D := E.1) (ci := 0) (v := .int (nI o)) (C := RX1) (T := TX1) (N := 3) hx hb hts inb_X1 hown hK hP 0 rfl rfl 1 (by decide) (hts _ bw_83) (fun _ h9 => h9) rfl dX1_record_5 ?_
  refine lv_aload_n hx hb dX1_record_8 rfl (lv_at hl 0 rfl) ?_
  refine va_get (D := E.1) (ci := 0) (v := .int (nI z)) (C := RX1) (T := TX1) (N := 3) hx hb hts inb_X1 hown hK hP 0 rfl rfl 2 (by decide) (hts _ bw_84) (fun _ h9 => h9) rfl dX1_record_9 ?_
  refine rn_add (a := o) (b := z) hx hb dX1_record_12 ?_
  refine lv_bipush (v := nI 6) hx hb dX1_record_13 (by decide) ?_
  refine rn_rem (a := o + z) (b := 6) hx hb dX1_record_15 (by omega) (by omega) (by omega) ?_
  refine lv_aload_n hx hb dX1_record_16 rfl (lv_at hl 1 rfl) ?_
  refine rwVv2 (rest := []) S (c_X4_keep l E q r rc w 1758 f h ((o + z) % 6) (by omega) (by omega)) cd_X4_keep bw_206 ⟨Nat.le_of_ble_eq_true rfl, Nat.le_of_ble_eq_true rfl⟩ ⟨Nat.zero_le _, Nat.zero_le _⟩ hP (hDa.to rfl) hE hA hS [1, 2, 3, 4] rfl rfl [q, w, r, rc] rfl rfl (ci := 3) rfl (q0 := 0) rfl (Nat.le_of_ble_eq_true rfl) hl.1 dX1_record_17 (fun H locs hP _ hS => ?_)
  have hP : va_P E.1 vwCl [(y, .inr (0, [.ref q, .int (nI o), .int (nI z)])), (q, .inr (3, [.ref w])), (w, .inl (E.2.1, 1758, .inl (va_cpy f h 0 (((o + z) % 6) * 293) 293))), (r, .inr (2, [.ref rc])), (rc, .inl (E.2.1, 293, .inl f))] H := hP
  refine lv_aload_n hx hb dX1_record_20 rfl (lv_at hl 0 rfl) ?_
  refine va_get (D := E.1) (ci := 0) (v := .int (nI z)) (C := RX1) (T := TX1) (N := 3) hx hb hts inb_X1 hown hK hP 0 rfl rfl 2 (by decide) (hts _ bw_84) (fun _ h9 => h9) rfl dX1_record_21 ?_
  refine lv_bipush (v := nI 6) hx hb dX1_record_24 (by decide) ?_
  refine rn_icmp_ge (a := z) (b := 6) (tgt := 42) hx hb (by omega) (by omega) dX1_record_26 (by decide) (fun c_1 => ?_) (fun c_1 => ?_)
  · refine lv_aload_n hx hb dX1_record_42 rfl (lv_at hl 0 rfl) ?_
    refine lv_aload_n hx hb dX1_record_43 rfl (lv_at hl 0 rfl) ?_
    refine va_get (D := E.1) (ci := 0) (v := .int (nI o)) (C := RX1) (T := TX1) (N := 3) hx hb hts inb_X1 hown hK hP 0 rfl rfl 1 (by decide) (hts _ bw_83) (fun _ h9 => h9) rfl dX1_record_44 ?_
    refine lv_iconst (v := nI 1) hx hb dX1_record_47 (by decide) ?_
    refine rn_add (a := o) (b := 1) hx hb dX1_record_48 ?_
    refine lv_bipush (v := nI 6) hx hb dX1_record_49 (by decide) ?_
    refine rn_rem (a := o + 1) (b := 6) hx hb dX1_record_51 (by omega) (by omega) (by omega) ?_
    refine va_put (D := E.1) (ci := 0) (v := .int (nI ((o + 1) % 6))) (ty := .int) (C := RX1) (T := TX1) (N := 3) hx hb hts inb_X1 tyX1 tyX1_ok nmX1 hown hK hP (hDa.to rfl) hS 0 rfl rfl 1 (by decide) (hts _ bw_83) (fun _ h9 => h9) rfl (by decide +kernel) rfl rfl (Nat.le_of_ble_eq_true rfl) dX1_record_52 (fun H locs hP _ hS => ?_)
    have hP : va_P E.1 vwCl [(y, .inr (0, [.ref q, .int (nI ((o + 1) % 6)), .int (nI z)])), (q, .inr (3, [.ref w])), (w, .inl (E.2.1, 1758, .inl (va_cpy f h 0 (((o + z) % 6) * 293) 293))), (r, .inr (2, [.ref rc])), (rc, .inl (E.2.1, 293, .inl f))] H := hP
    exact hret _ _ _ _ _ (by unfold hiO hiZ; (repeat' split) <;> first | rfl | (exfalso; omega)) hP hS dX1_record_55
  · refine lv_aload_n hx hb dX1_record_29 rfl (lv_at hl 0 rfl) ?_
    refine lv_dup hx hb dX1_record_30 rfl ?_
    refine va_get (D := E.1) (ci := 0) (v := .int (nI z)) (C := RX1) (T := TX1) (N := 3) hx hb hts inb_X1 hown hK hP 0 rfl rfl 2 (by decide) (hts _ bw_84) (fun _ h9 => h9) rfl dX1_record_31 ?_
    refine lv_iconst (v := nI 1) hx hb dX1_record_34 (by decide) ?_
    refine rn_add (a := z) (b := 1) hx hb dX1_record_35 ?_
    refine va_put (D := E.1) (ci := 0) (v := .int (nI (z + 1))) (ty := .int) (C := RX1) (T := TX1) (N := 3) hx hb hts inb_X1 tyX1 tyX1_ok nmX1 hown hK hP (hDa.to rfl) hS 0 rfl rfl 2 (by decide) (hts _ bw_84) (fun _ h9 => h9) rfl (by decide +kernel) rfl rfl (Nat.le_of_ble_eq_true rfl) dX1_record_36 (fun H locs hP _ hS => ?_)
    have hP : va_P E.1 vwCl [(y, .inr (0, [.ref q, .int (nI o), .int (nI (z + 1))])), (q, .inr (3, [.ref w])), (w, .inl (E.2.1, 1758, .inl (va_cpy f h 0 (((o + z) % 6) * 293) 293))), (r, .inr (2, [.ref rc])), (rc, .inl (E.2.1, 293, .inl f))] H := hP
    refine lv_goto (tgt := 55) hx hb dX1_record_39 (by decide) ?_
    exact hret _ _ _ _ _ (by unfold hiO hiZ; (repeat' split) <;> first | rfl | (exfalso; omega)) hP hS dX1_record_55

theorem cd_X1_takeBack : cdV RX1 yX1_takeBack cX1_takeBack 2 none 1 := ⟨⟨bw_126, bw_6, by decide, by decide, by decide +kernel⟩, bw_124, bw_125⟩
set_option maxHeartbeats 4000000 in
set_option maxRecDepth 100000 in
theorem c_X1_takeBack (l : Launch) (E : EV) (y : Nat) (q : Nat) (w : Nat) (r : Nat) (rc : Nat) (o : Nat) (z : Nat) (f : Nat → Int32) (h : Nat → Int32) (ho : o < 6) (hz : z ≤ 6) (hz0 : 0 < z) : rcV l E yX1_takeBack cX1_takeBack 2 3 [.ref y, .ref r] [(y, .inr (0, [.ref q, .int (nI o), .int (nI z)])), (q, .inr (3, [.ref w])), (w, .inl (E.2.1, 1758, .inl h)), (r, .inr (2, [.ref rc])), (rc, .inl (E.2.1, 293, .inl f))] [(y, .inr (0, [.ref q, .int (nI o), .int (nI (z - 1))])), (q, .inr (3, [.ref w])), (w, .inl (E.2.1, 1758, .inl h)), (r, .inr (2, [.ref rc])), (rc, .inl (E.2.1, 293, .inl (va_cpy h f ((o + (z - 1)) % 6 * 293) 0 293)))] := by
  refine rcV_of (by decide) (Nat.le_of_ble_eq_true rfl) ?_
  intro pg e s m below meth c Q A ls S hP hD0 hE hA hl hret
  have hx := S.1
  have hb := S.2.1
  have hown := S.2.2.2.1
  have hts := S.2.2.2.2
  have hK := hE.1
  have hS : va_S A s.heap s.heap [] := va_S.rf
  have hDa : va_Da A [y, q, w, r, rc] := ⟨_, hD0, rfl⟩
  have hl : lv_has ls 2 [(0, .ref y), (1, .ref r)] := hl
  refine lv_aload_n hx hb dX1_takeBack_0 rfl (lv_at hl 0 rfl) ?_
  refine va_get (D := E.1) (ci := 0) (v := .int (nI z)) (C := RX1) (T := TX1) (N := 3) hx hb hts inb_X1 hown hK hP 0 rfl rfl 2 (by decide) (hts _ bw_84) (fun _ h9 => h9) rfl dX1_takeBack_1 ?_
  refine rn_if_le (a := z) (tgt := 37) hx hb (by omega) dX1_takeBack_4 (by decide) (fun c_1 => absurd c_1 (by omega)) (fun c_1 => ?_)
  refine lv_aload_n hx hb dX1_takeBack_7 rfl (lv_at hl 0 rfl) ?_
  refine lv_dup hx hb dX1_takeBack_8 rfl ?_
  refine va_get (D := E.1) (ci := 0) (v := .int (nI z)) (C := RX1) (T := TX1) (N := 3) hx hb hts inb_X1 hown hK hP 0 rfl rfl 2 (by decide) (hts _ bw_84) (fun _ h9 => h9) rfl dX1_takeBack_9 ?_
  refine lv_iconst (v := nI 1) hx hb dX1_takeBack_12 (by decide) ?_
  refine rn_sub (a := z) (b := 1) hx hb dX1_takeBack_13 (by omega) ?_
  refine va_put (D := E.1) (ci := 0) (v := .int (nI (z - 1))) (ty := .int) (C := RX1) (T := TX1) (N := 3) hx hb hts inb_X1 tyX1 tyX1_ok nmX1 hown hK hP (hDa.to rfl) hS 0 rfl rfl 2 (by decide) (hts _ bw_84) (fun _ h9 => h9) rfl (by decide +kernel) rfl rfl (Nat.le_of_ble_eq_true rfl) dX1_takeBack_14 (fun H locs hP _ hS => ?_)
  have hP : va_P E.1 vwCl [(y, .inr (0, [.ref q, .int (nI o), .int (nI (z - 1))])), (q, .inr (3, [.ref w])), (w, .inl (E.2.1, 1758, .inl h)), (r, .inr (2, [.ref rc])), (rc, .inl (E.2.1, 293, .inl f))] H := hP
  refine lv_aload_n hx hb dX1_takeBack_17 rfl (lv_at hl 0 rfl) ?_
  refine va_get (D := E.1) (ci := 0) (v := .ref q) (C := RX1) (T := TX1) (N := 3) hx hb hts inb_X1 hown hK hP 0 rfl rfl 0 (by decide) (hts _ bw_82) (fun _ h9 => h9) rfl dX1_takeBack_18 ?_
  refine lv_aload_n hx hb dX1_takeBack_21 rfl (lv_at hl 0 rfl) ?_
  refine va_get (D := E.1) (ci := 0) (v := .int (nI o)) (C := RX1) (T := TX1) (N := 3) hx hb hts inb_X1 hown hK hP 0 rfl rfl 1 (by decide) (hts _ bw_83) (fun _ h9 => h9) rfl dX1_takeBack_22 ?_
  refine lv_aload_n hx hb dX1_takeBack_25 rfl (lv_at hl 0 rfl) ?_
  refine va_get (D := E.1) (ci := 0) (v := .int (nI (z - 1))) (C := RX1) (T := TX1) (N := 3) hx hb hts inb_X1 hown hK hP 0 rfl rfl 2 (by decide) (hts _ bw_84) (fun _ h9 => h9) rfl dX1_takeBack_26 ?_
  refine rn_add (a := o) (b := z - 1) hx hb dX1_takeBack_29 ?_
  refine lv_bipush (v := nI 6) hx hb dX1_takeBack_30 (by decide) ?_
  refine rn_rem (a := o + (z - 1)) (b := 6) hx hb dX1_takeBack_32 (by omega) (by omega) (by omega) ?_
  refine lv_aload_n hx hb dX1_takeBack_33 rfl (lv_at hl 1 rfl) ?_
  refine rwVv2 (rest := []) S (c_X4_give l E q r rc w 1758 f h ((o + (z - 1)) % 6) (by omega) (by omega)) cd_X4_give bw_127 ⟨Nat.le_of_ble_eq_true rfl, Nat.le_of_ble_eq_true rfl⟩ ⟨Nat.zero_le _, Nat.zero_le _⟩ hP (hDa.to rfl) hE hA hS [1, 2, 3, 4] rfl rfl [q, w, r, rc] rfl rfl (ci := 3) rfl (q0 := 0) rfl (Nat.le_of_ble_eq_true rfl) hl.1 dX1_takeBack_34 (fun H locs hP _ hS => ?_)
  have hP : va_P E.1 vwCl [(y, .inr (0, [.ref q, .int (nI o), .int (nI (z - 1))])), (q, .inr (3, [.ref w])), (w, .inl (E.2.1, 1758, .inl h)), (r, .inr (2, [.ref rc])), (rc, .inl (E.2.1, 293, .inl (va_cpy h f (((o + (z - 1)) % 6) * 293) 0 293)))] H := hP
  exact hret _ _ _ _ _ rfl hP hS dX1_takeBack_37

