/-! the changes -/
theorem cd_X0_exchange : cdS yX0_exchange cX0_exchange 4 (some .int) 3 := ⟨⟨bw_351, bw_10, by decide, by decide, by decide +kernel⟩, bw_350⟩
set_option maxHeartbeats 4000000 in
set_option maxRecDepth 100000 in
theorem c_X0_exchange (l : Launch) (E : EV) (r : Nat) (rc : Nat) (f : Nat → Int32) (p : Nat) (z : Int32) (hp : p < 293) : rcI l E yX0_exchange cX0_exchange 4 .int 1 [.ref r, .int (nI p), .int z] [(r, .inr (2, [.ref rc])), (rc, .inl (E.2.1, 293, .inl f))] (f p) [(r, .inr (2, [.ref rc])), (rc, .inl (E.2.1, 293, .inl (upd f p z)))] := by
  refine rcI_of (by decide) (Nat.le_of_ble_eq_true rfl) ?_
  intro pg e s m below meth c Q A ls S hP hD0 hE hA hl hret
  have hx := S.1
  have hb := S.2.1
  have hown := S.2.2.2.1
  have hts := S.2.2.2.2
  have hK := hE.1
  have hS : va_S A s.heap s.heap [] := va_S.rf
  have hDa : va_Da A [r, rc] := ⟨_, hD0, rfl⟩
  have hl : lv_has ls 4 [(0, .ref r), (1, .int (nI p)), (2, .int z)] := hl
  refine lv_aload_n hx hb dX0_exchange_0 rfl (lv_at hl 0 rfl) ?_
  refine lv_iload_n hx hb dX0_exchange_1 rfl (lv_at hl 1 rfl) ?_
  refine rwV1 (rest := []) S (c_X3_read l E r rc f p hp) cd_X3_read bw_285 ⟨Nat.le_of_ble_eq_true rfl, Nat.le_of_ble_eq_true rfl⟩ ⟨Nat.zero_le _, Nat.zero_le _⟩ hP (hDa.to rfl) hE hA hS [0, 1] rfl rfl [r, rc] rfl rfl (ci := 2) rfl (q0 := 0) rfl (Nat.le_of_ble_eq_true rfl) hl.1 dX0_exchange_2 (fun H locs hP _ hS => ?_)
  have hP : va_P E.1 vwCl [(r, .inr (2, [.ref rc])), (rc, .inl (E.2.1, 293, .inl f))] H := hP
  refine lv_istore_n (lv' := [(3, .int (f p)), (0, .ref r), (1, .int (nI p)), (2, .int z)]) hx hb dX0_exchange_5 rfl hl (by decide) rfl (fun ls hl => ?_)
  refine lv_aload_n hx hb dX0_exchange_6 rfl (lv_at hl 1 rfl) ?_
  refine lv_iload_n hx hb dX0_exchange_7 rfl (lv_at hl 2 rfl) ?_
  refine lv_iload_n hx hb dX0_exchange_8 rfl (lv_at hl 3 rfl) ?_
  refine rwVv2 (rest := []) S (c_X3_write l E r rc f p z hp) cd_X3_write bw_311 ⟨Nat.le_of_ble_eq_true rfl, Nat.le_of_ble_eq_true rfl⟩ ⟨Nat.zero_le _, Nat.zero_le _⟩ hP (hDa.to rfl) hE hA hS [0, 1] rfl rfl [r, rc] rfl rfl (ci := 2) rfl (q0 := 0) rfl (Nat.le_of_ble_eq_true rfl) hl.1 dX0_exchange_9 (fun H locs hP _ hS => ?_)
  have hP : va_P E.1 vwCl [(r, .inr (2, [.ref rc])), (rc, .inl (E.2.1, 293, .inl (upd f p z)))] H := hP
  refine lv_iload_n hx hb dX0_exchange_12 rfl (lv_at hl 0 rfl) ?_
  exact hret _ _ _ _ _ _ rfl rfl rfl hP hS dX0_exchange_13

theorem cd_X0_changeSetting : cdS yX0_changeSetting cX0_changeSetting 3 (some .int) 3 := ⟨⟨bw_372, bw_10, by decide, by decide, by decide +kernel⟩, bw_371⟩
def cSv (f : Nat → Int32) (x : Int32) (z : Int32) : Int32 := if isW x (nI 0) (nI 3) = 0 then (-2) else if isW z (([1, 0, 1, 0] : List Int32).getD (ix x) 0) (([5, 9, 40, 50] : List Int32).getD (ix x) 0) = 0 then (-2) else f (0 + (ix x))
def cSw (f : Nat → Int32) (x : Int32) (z : Int32) : Nat → Int32 := if isW x (nI 0) (nI 3) = 0 then f else if isW z (([1, 0, 1, 0] : List Int32).getD (ix x) 0) (([5, 9, 40, 50] : List Int32).getD (ix x) 0) = 0 then f else upd f (0 + (ix x)) z
set_option maxHeartbeats 4000000 in
set_option maxRecDepth 100000 in
theorem c_X0_changeSetting (l : Launch) (E : EV) (r : Nat) (rc : Nat) (f : Nat → Int32) (x : Int32) (z : Int32)  : rcI l E yX0_changeSetting cX0_changeSetting 3 .int 2 [.ref r, .int x, .int z] [(r, .inr (2, [.ref rc])), (rc, .inl (E.2.1, 293, .inl f))] (cSv f x z) [(r, .inr (2, [.ref rc])), (rc, .inl (E.2.1, 293, .inl (cSw f x z)))] := by
  refine rcI_of (by decide) (Nat.le_of_ble_eq_true rfl) ?_
  intro pg e s m below meth c Q A ls S hP hD0 hE hA hl hret
  have hx := S.1
  have hb := S.2.1
  have hown := S.2.2.2.1
  have hts := S.2.2.2.2
  have hK := hE.1
  have hS : va_S A s.heap s.heap [] := va_S.rf
  have hDa : va_Da A [r, rc] := ⟨_, hD0, rfl⟩
  have hl : lv_has ls 3 [(0, .ref r), (1, .int x), (2, .int z)] := hl
  refine lv_iload_n hx hb dX0_changeSetting_0 rfl (lv_at hl 1 rfl) ?_
  refine lv_iconst (v := nI 0) hx hb dX0_changeSetting_1 (by decide) ?_
  refine lv_iconst (v := nI 3) hx hb dX0_changeSetting_2 (by decide) ?_
  refine rwN3 (rest := []) S (c_X7_isWithin l E x (nI 0) (nI 3)) cd_X7_isWithin hE.2.1.1 ⟨Nat.le_of_ble_eq_true rfl, Nat.le_of_ble_eq_true rfl⟩ ⟨Nat.zero_le _, Nat.zero_le _⟩ hP (hDa.to rfl) hE hA hS [] rfl rfl [] rfl rfl (Nat.le_of_ble_eq_true rfl) hl.1 dX0_changeSetting_3 (fun H locs hP _ hS => ?_)
  have hP : va_P E.1 vwCl [(r, .inr (2, [.ref rc])), (rc, .inl (E.2.1, 293, .inl f))] H := hP
  refine lv_if_eq (tgt := 26) hx hb dX0_changeSetting_6 (by decide) (fun c_1 => ?_) (fun c_1 => ?_)
  · refine lv_bipush (v := (-2)) hx hb dX0_changeSetting_26 (by decide) ?_
    exact hret _ _ _ _ _ _ (by rw [cSv, if_pos c_1]) (by rw [cSw, if_pos c_1]) rfl hP hS dX0_changeSetting_28
  · obtain ⟨i, h9_i, rfl⟩ : ∃ i : Nat, i < 4 ∧ x = nI i := (isW_of (n := 3) (by omega) c_1)
    refine lv_iload_n hx hb dX0_changeSetting_9 rfl (lv_at hl 2 rfl) ?_
    obtain ⟨tb_L, hZ_L, hT_L⟩ := hE.2.2.2.2.1
    refine va_getsN (host := "TimingLights") hx hb hZ_L hS hown (va_Nw.use rfl hE.2.1.2.2.2.2.2.2.2.2.1) (fun _ h9 => h9) dX0_changeSetting_10 ?_
    refine lv_iload_n hx hb dX0_changeSetting_13 rfl (lv_at hl 1 rfl) ?_
    refine rn_tab (i := i) hx hb hT_L hS (by omega) dX0_changeSetting_14 ?_
    obtain ⟨tb_M, hZ_M, hT_M⟩ := hE.2.2.2.2.2.1
    refine va_getsN (host := "TimingLights") hx hb hZ_M hS hown (va_Nw.use rfl hE.2.1.2.2.2.2.2.2.2.2.2) (fun _ h9 => h9) dX0_changeSetting_15 ?_
    refine lv_iload_n hx hb dX0_changeSetting_18 rfl (lv_at hl 1 rfl) ?_
    refine rn_tab (i := i) hx hb hT_M hS (by omega) dX0_changeSetting_19 ?_
    refine rwN3 (rest := []) S (c_X7_isWithin l E z (([1, 0, 1, 0] : List Int32).getD i 0) (([5, 9, 40, 50] : List Int32).getD i 0)) cd_X7_isWithin hE.2.1.1 ⟨Nat.le_of_ble_eq_true rfl, Nat.le_of_ble_eq_true rfl⟩ ⟨Nat.zero_le _, Nat.zero_le _⟩ hP (hDa.to rfl) hE hA hS [] rfl rfl [] rfl rfl (Nat.le_of_ble_eq_true rfl) hl.1 dX0_changeSetting_20 (fun H locs hP _ hS => ?_)
    have hP : va_P E.1 vwCl [(r, .inr (2, [.ref rc])), (rc, .inl (E.2.1, 293, .inl f))] H := hP
    refine lv_if_ne (tgt := 29) hx hb dX0_changeSetting_23 (by decide) (fun c_2 => ?_) (fun c_2 => ?_)
    · refine lv_aload_n hx hb dX0_changeSetting_29 rfl (lv_at hl 0 rfl) ?_
      refine lv_iconst (v := nI 0) hx hb dX0_changeSetting_30 (by decide) ?_
      refine lv_iload_n hx hb dX0_changeSetting_31 rfl (lv_at hl 1 rfl) ?_
      refine rn_add (a := 0) (b := i) hx hb dX0_changeSetting_32 ?_
      refine lv_iload_n hx hb dX0_changeSetting_33 rfl (lv_at hl 2 rfl) ?_
      refine rwS3 (rest := []) S (c_X0_exchange l E r rc f (0 + i) z (by omega)) cd_X0_exchange bw_349 ⟨Nat.le_of_ble_eq_true rfl, Nat.le_of_ble_eq_true rfl⟩ ⟨Nat.zero_le _, Nat.zero_le _⟩ hP (hDa.to rfl) hE hA hS [0, 1] rfl rfl [r, rc] rfl rfl (Nat.le_of_ble_eq_true rfl) hl.1 dX0_changeSetting_34 (fun H locs hP _ hS => ?_)
      have hP : va_P E.1 vwCl [(r, .inr (2, [.ref rc])), (rc, .inl (E.2.1, 293, .inl (upd f (0 + i) z)))] H := hP
      exact hret _ _ _ _ _ _ (by first | rw [cSv, ix_nI (show i < 2 ^ 31 by omega), if_neg c_1, if_neg c_2] | rw [cSv, if_neg c_1, if_neg c_2] | simp only [cSv, ix_nI (show i < 2 ^ 31 by omega), if_neg c_1, if_neg c_2]) (by first | rw [cSw, ix_nI (show i < 2 ^ 31 by omega), if_neg c_1, if_neg c_2] | rw [cSw, if_neg c_1, if_neg c_2] | simp only [cSw, ix_nI (show i < 2 ^ 31 by omega), if_neg c_1, if_neg c_2]) rfl hP hS dX0_changeSetting_37
    · refine lv_bipush (v := (-2)) hx hb dX0_changeSetting_26 (by decide) ?_
      exact hret _ _ _ _ _ _ (by first | rw [cSv, ix_nI (show i < 2 ^ 31 by omega), if_neg c_1, if_pos c_2] | rw [cSv, if_neg c_1, if_pos c_2] | simp only [cSv, ix_nI (show i < 2 ^ 31 by omega), if_neg c_1, if_pos c_2]) (by first | rw [cSw, ix_nI (show i < 2 ^ 31 by omega), if_neg c_1, if_pos c_2] | rw [cSw, if_neg c_1, if_pos c_2] | simp only [cSw, ix_nI (show i < 2 ^ 31 by omega), if_neg c_1, if_pos c_2]) rfl hP hS dX0_changeSetting_28

theorem cd_X0_addShot : cdS yX0_addShot cX0_addShot 7 (some .int) 6 := ⟨⟨bw_157, bw_10, by decide, by decide, by decide +kernel⟩, bw_156⟩
def cAv (f : Nat → Int32) (n : Nat) (x : Int32) (ft : Int32) (re : Int32) (gr : Int32) (bl : Int32) : Int32 := if isW x (nI 0) (nI n) = 0 then (-1) else if isW ft (nI 1) (nI 99) = 0 then (-2) else if isP re = 0 then (-2) else if isP gr = 0 then (-2) else if isP bl = 0 then (-2) else if n < 20 then nI (n + 1) else (-4)
def cAw (f : Nat → Int32) (n : Nat) (x : Int32) (ft : Int32) (re : Int32) (gr : Int32) (bl : Int32) : Nat → Int32 := if isW x (nI 0) (nI n) = 0 then f else if isW ft (nI 1) (nI 99) = 0 then f else if isP re = 0 then f else if isP gr = 0 then f else if isP bl = 0 then f else if n < 20 then (upd (upd (upd (upd (upd (upd (upd (upd (upd (upd (upd (opS f n (ix x)) (13 + 14 * (ix x) + 0) ft) (13 + 14 * (ix x) + 1) (nI 0)) (13 + 14 * (ix x) + 2) re) (13 + 14 * (ix x) + 3) gr) (13 + 14 * (ix x) + 4) bl) (13 + 14 * (ix x) + 5) (nI 0)) (13 + 14 * (ix x) + 8) (nI 25)) (13 + 14 * (ix x) + 6) (nI 0)) (13 + 14 * (ix x) + 9) (nI 25)) (13 + 14 * (ix x) + 7) (nI 0)) (13 + 14 * (ix x) + 10) (nI 25)) else f
set_option maxHeartbeats 4000000 in
set_option maxRecDepth 100000 in
theorem c_X0_addShot (l : Launch) (E : EV) (r : Nat) (rc : Nat) (f : Nat → Int32) (n : Nat) (x : Int32) (ft : Int32) (re : Int32) (gr : Int32) (bl : Int32) (hf : f 12 = nI n) (hn : n ≤ 20) : rcI l E yX0_addShot cX0_addShot 7 .int 3 [.ref r, .int x, .int ft, .int re, .int gr, .int bl] [(r, .inr (2, [.ref rc])), (rc, .inl (E.2.1, 293, .inl f))] (cAv f n x ft re gr bl) [(r, .inr (2, [.ref rc])), (rc, .inl (E.2.1, 293, .inl (cAw f n x ft re gr bl)))] := by
  refine rcI_of (by decide) (Nat.le_of_ble_eq_true rfl) ?_
  intro pg e s m below meth c Q A ls S hP hD0 hE hA hl hret
  have hx := S.1
  have hb := S.2.1
  have hown := S.2.2.2.1
  have hts := S.2.2.2.2
  have hK := hE.1
  have hS : va_S A s.heap s.heap [] := va_S.rf
  have hDa : va_Da A [r, rc] := ⟨_, hD0, rfl⟩
  have hl : lv_has ls 7 [(0, .ref r), (1, .int x), (2, .int ft), (3, .int re), (4, .int gr), (5, .int bl)] := hl
  refine lv_iload_n hx hb dX0_addShot_0 rfl (lv_at hl 1 rfl) ?_
  refine lv_iconst (v := nI 0) hx hb dX0_addShot_1 (by decide) ?_
  refine lv_aload_n hx hb dX0_addShot_2 rfl (lv_at hl 0 rfl) ?_
  refine rwV0 (rest := [.int (nI 0), .int x]) S (c_X3_shots l E r rc f n hf) cd_X3_shots bw_158 ⟨Nat.le_of_ble_eq_true rfl, Nat.le_of_ble_eq_true rfl⟩ ⟨Nat.zero_le _, Nat.zero_le _⟩ hP (hDa.to rfl) hE hA hS [0, 1] rfl rfl [r, rc] rfl rfl (ci := 2) rfl (q0 := 0) rfl (Nat.le_of_ble_eq_true rfl) hl.1 dX0_addShot_3 (fun H locs hP _ hS => ?_)
  have hP : va_P E.1 vwCl [(r, .inr (2, [.ref rc])), (rc, .inl (E.2.1, 293, .inl f))] H := hP
  refine rwN3 (rest := []) S (c_X7_isWithin l E x (nI 0) (nI n)) cd_X7_isWithin hE.2.1.1 ⟨Nat.le_of_ble_eq_true rfl, Nat.le_of_ble_eq_true rfl⟩ ⟨Nat.zero_le _, Nat.zero_le _⟩ hP (hDa.to rfl) hE hA hS [] rfl rfl [] rfl rfl (Nat.le_of_ble_eq_true rfl) hl.1 dX0_addShot_6 (fun H locs hP _ hS => ?_)
  have hP : va_P E.1 vwCl [(r, .inr (2, [.ref rc])), (rc, .inl (E.2.1, 293, .inl f))] H := hP
  refine lv_if_ne (tgt := 14) hx hb dX0_addShot_9 (by decide) (fun c_1 => ?_) (fun c_1 => ?_)
  · obtain ⟨p, h9_p, rfl⟩ : ∃ p : Nat, p < n + 1 ∧ x = nI p := (isW_of (by omega) c_1)
    refine lv_iload_n hx hb dX0_addShot_14 rfl (lv_at hl 2 rfl) ?_
    refine lv_iconst (v := nI 1) hx hb dX0_addShot_15 (by decide) ?_
    refine lv_bipush (v := nI 99) hx hb dX0_addShot_16 (by decide) ?_
    refine rwN3 (rest := []) S (c_X7_isWithin l E ft (nI 1) (nI 99)) cd_X7_isWithin hE.2.1.1 ⟨Nat.le_of_ble_eq_true rfl, Nat.le_of_ble_eq_true rfl⟩ ⟨Nat.zero_le _, Nat.zero_le _⟩ hP (hDa.to rfl) hE hA hS [] rfl rfl [] rfl rfl (Nat.le_of_ble_eq_true rfl) hl.1 dX0_addShot_18 (fun H locs hP _ hS => ?_)
    have hP : va_P E.1 vwCl [(r, .inr (2, [.ref rc])), (rc, .inl (E.2.1, 293, .inl f))] H := hP
    refine lv_if_eq (tgt := 47) hx hb dX0_addShot_21 (by decide) (fun c_2 => ?_) (fun c_2 => ?_)
    · refine lv_bipush (v := (-2)) hx hb dX0_addShot_47 (by decide) ?_
      exact hret _ _ _ _ _ _ (by first | rw [cAv, ix_nI (show p < 2 ^ 31 by omega), if_neg c_1, if_pos c_2] | rw [cAv, if_neg c_1, if_pos c_2] | simp only [cAv, ix_nI (show p < 2 ^ 31 by omega), if_neg c_1, if_pos c_2]) (by first | rw [cAw, ix_nI (show p < 2 ^ 31 by omega), if_neg c_1, if_pos c_2] | rw [cAw, if_neg c_1, if_pos c_2] | simp only [cAw, ix_nI (show p < 2 ^ 31 by omega), if_neg c_1, if_pos c_2]) rfl hP hS dX0_addShot_49
    · refine lv_iload_n hx hb dX0_addShot_24 rfl (lv_at hl 3 rfl) ?_
      refine rwN1 (rest := []) S (c_X7_isPoints l E re) cd_X7_isPoints hE.2.1.2.1 ⟨Nat.le_of_ble_eq_true rfl, Nat.le_of_ble_eq_true rfl⟩ ⟨Nat.zero_le _, Nat.zero_le _⟩ hP (hDa.to rfl) hE hA hS [] rfl rfl [] rfl rfl (Nat.le_of_ble_eq_true rfl) hl.1 dX0_addShot_25 (fun H locs hP _ hS => ?_)
      have hP : va_P E.1 vwCl [(r, .inr (2, [.ref rc])), (rc, .inl (E.2.1, 293, .inl f))] H := hP
      refine lv_if_eq (tgt := 47) hx hb dX0_addShot_28 (by decide) (fun c_3 => ?_) (fun c_3 => ?_)
      · refine lv_bipush (v := (-2)) hx hb dX0_addShot_47 (by decide) ?_
        exact hret _ _ _ _ _ _ (by first | rw [cAv, ix_nI (show p < 2 ^ 31 by omega), if_neg c_1, if_neg c_2, if_pos c_3] | rw [cAv, if_neg c_1, if_neg c_2, if_pos c_3] | simp only [cAv, ix_nI (show p < 2 ^ 31 by omega), if_neg c_1, if_neg c_2, if_pos c_3]) (by first | rw [cAw, ix_nI (show p < 2 ^ 31 by omega), if_neg c_1, if_neg c_2, if_pos c_3] | rw [cAw, if_neg c_1, if_neg c_2, if_pos c_3] | simp only [cAw, ix_nI (show p < 2 ^ 31 by omega), if_neg c_1, if_neg c_2, if_pos c_3]) rfl hP hS dX0_addShot_49
      · refine lv_iload hx hb dX0_addShot_31 (lv_at hl 4 rfl) ?_
        refine rwN1 (rest := []) S (c_X7_isPoints l E gr) cd_X7_isPoints hE.2.1.2.1 ⟨Nat.le_of_ble_eq_true rfl, Nat.le_of_ble_eq_true rfl⟩ ⟨Nat.zero_le _, Nat.zero_le _⟩ hP (hDa.to rfl) hE hA hS [] rfl rfl [] rfl rfl (Nat.le_of_ble_eq_true rfl) hl.1 dX0_addShot_33 (fun H locs hP _ hS => ?_)
        have hP : va_P E.1 vwCl [(r, .inr (2, [.ref rc])), (rc, .inl (E.2.1, 293, .inl f))] H := hP
        refine lv_if_eq (tgt := 47) hx hb dX0_addShot_36 (by decide) (fun c_4 => ?_) (fun c_4 => ?_)
        · refine lv_bipush (v := (-2)) hx hb dX0_addShot_47 (by decide) ?_
          exact hret _ _ _ _ _ _ (by first | rw [cAv, ix_nI (show p < 2 ^ 31 by omega), if_neg c_1, if_neg c_2, if_neg c_3, if_pos c_4] | rw [cAv, if_neg c_1, if_neg c_2, if_neg c_3, if_pos c_4] | simp only [cAv, ix_nI (show p < 2 ^ 31 by omega), if_neg c_1, if_neg c_2, if_neg c_3, if_pos c_4]) (by first | rw [cAw, ix_nI (show p < 2 ^ 31 by omega), if_neg c_1, if_neg c_2, if_neg c_3, if_pos c_4] | rw [cAw, if_neg c_1, if_neg c_2, if_neg c_3, if_pos c_4] | simp only [cAw, ix_nI (show p < 2 ^ 31 by omega), if_neg c_1, if_neg c_2, if_neg c_3, if_pos c_4]) rfl hP hS dX0_addShot_49
        · refine lv_iload hx hb dX0_addShot_39 (lv_at hl 5 rfl) ?_
          refine rwN1 (rest := []) S (c_X7_isPoints l E bl) cd_X7_isPoints hE.2.1.2.1 ⟨Nat.le_of_ble_eq_true rfl, Nat.le_of_ble_eq_true rfl⟩ ⟨Nat.zero_le _, Nat.zero_le _⟩ hP (hDa.to rfl) hE hA hS [] rfl rfl [] rfl rfl (Nat.le_of_ble_eq_true rfl) hl.1 dX0_addShot_41 (fun H locs hP _ hS => ?_)
          have hP : va_P E.1 vwCl [(r, .inr (2, [.ref rc])), (rc, .inl (E.2.1, 293, .inl f))] H := hP
          refine lv_if_ne (tgt := 50) hx hb dX0_addShot_44 (by decide) (fun c_5 => ?_) (fun c_5 => ?_)
          · refine lv_aload_n hx hb dX0_addShot_50 rfl (lv_at hl 0 rfl) ?_
            refine rwV0 (rest := []) S (c_X3_shots l E r rc f n hf) cd_X3_shots bw_158 ⟨Nat.le_of_ble_eq_true rfl, Nat.le_of_ble_eq_true rfl⟩ ⟨Nat.zero_le _, Nat.zero_le _⟩ hP (hDa.to rfl) hE hA hS [0, 1] rfl rfl [r, rc] rfl rfl (ci := 2) rfl (q0 := 0) rfl (Nat.le_of_ble_eq_true rfl) hl.1 dX0_addShot_51 (fun H locs hP _ hS => ?_)
            have hP : va_P E.1 vwCl [(r, .inr (2, [.ref rc])), (rc, .inl (E.2.1, 293, .inl f))] H := hP
            refine lv_bipush (v := nI 20) hx hb dX0_addShot_54 (by decide) ?_
            refine rn_icmp_lt (a := n) (b := 20) (tgt := 62) hx hb (by omega) (by omega) dX0_addShot_56 (by decide) (fun c_6 => ?_) (fun c_6 => ?_)
            · refine lv_aload_n hx hb dX0_addShot_62 rfl (lv_at hl 0 rfl) ?_
              refine lv_iload_n hx hb dX0_addShot_63 rfl (lv_at hl 1 rfl) ?_
              refine rwVv1 (rest := []) S (c_X3_openPlace l E r rc f n p hf c_6 (by omega)) cd_X3_openPlace bw_173 ⟨Nat.le_of_ble_eq_true rfl, Nat.le_of_ble_eq_true rfl⟩ ⟨Nat.zero_le _, Nat.zero_le _⟩ hP (hDa.to rfl) hE hA hS [0, 1] rfl rfl [r, rc] rfl rfl (ci := 2) rfl (q0 := 0) rfl (Nat.le_of_ble_eq_true rfl) hl.1 dX0_addShot_64 (fun H locs hP _ hS => ?_)
              have hP : va_P E.1 vwCl [(r, .inr (2, [.ref rc])), (rc, .inl (E.2.1, 293, .inl (opS f n p)))] H := hP
              refine lv_aload_n hx hb dX0_addShot_67 rfl (lv_at hl 0 rfl) ?_
              refine lv_iload_n hx hb dX0_addShot_68 rfl (lv_at hl 1 rfl) ?_
              refine lv_iconst (v := nI 0) hx hb dX0_addShot_69 (by decide) ?_
              refine lv_iload_n hx hb dX0_addShot_70 rfl (lv_at hl 2 rfl) ?_
              refine rwVv3 (rest := []) S (c_X3_writeShot l E r rc (opS f n p) p 0 ft (by omega) (by omega)) cd_X3_writeShot bw_197 ⟨Nat.le_of_ble_eq_true rfl, Nat.le_of_ble_eq_true rfl⟩ ⟨Nat.zero_le _, Nat.zero_le _⟩ hP (hDa.to rfl) hE hA hS [0, 1] rfl rfl [r, rc] rfl rfl (ci := 2) rfl (q0 := 0) rfl (Nat.le_of_ble_eq_true rfl) hl.1 dX0_addShot_71 (fun H locs hP _ hS => ?_)
              have hP : va_P E.1 vwCl [(r, .inr (2, [.ref rc])), (rc, .inl (E.2.1, 293, .inl (upd (opS f n p) (13 + 14 * p + 0) ft)))] H := hP
              refine lv_aload_n hx hb dX0_addShot_74 rfl (lv_at hl 0 rfl) ?_
              refine lv_iload_n hx hb dX0_addShot_75 rfl (lv_at hl 1 rfl) ?_
              refine lv_iconst (v := nI 1) hx hb dX0_addShot_76 (by decide) ?_
              refine lv_iconst (v := nI 0) hx hb dX0_addShot_77 (by decide) ?_
              refine rwVv3 (rest := []) S (c_X3_writeShot l E r rc (upd (opS f n p) (13 + 14 * p + 0) ft) p 1 (nI 0) (by omega) (by omega)) cd_X3_writeShot bw_197 ⟨Nat.le_of_ble_eq_true rfl, Nat.le_of_ble_eq_true rfl⟩ ⟨Nat.zero_le _, Nat.zero_le _⟩ hP (hDa.to rfl) hE hA hS [0, 1] rfl rfl [r, rc] rfl rfl (ci := 2) rfl (q0 := 0) rfl (Nat.le_of_ble_eq_true rfl) hl.1 dX0_addShot_78 (fun H locs hP _ hS => ?_)
              have hP : va_P E.1 vwCl [(r, .inr (2, [.ref rc])), (rc, .inl (E.2.1, 293, .inl (upd (upd (opS f n p) (13 + 14 * p + 0) ft) (13 + 14 * p + 1) (nI 0))))] H := hP
              refine lv_aload_n hx hb dX0_addShot_81 rfl (lv_at hl 0 rfl) ?_
              refine lv_iload_n hx hb dX0_addShot_82 rfl (lv_at hl 1 rfl) ?_
              refine lv_iconst (v := nI 2) hx hb dX0_addShot_83 (by decide) ?_
              refine lv_iload_n hx hb dX0_addShot_84 rfl (lv_at hl 3 rfl) ?_
              refine rwVv3 (rest := []) S (c_X3_writeShot l E r rc (upd (upd (opS f n p) (13 + 14 * p + 0) ft) (13 + 14 * p + 1) (nI 0)) p 2 re (by omega) (by omega)) cd_X3_writeShot bw_197 ⟨Nat.le_of_ble_eq_true rfl, Nat.le_of_ble_eq_true rfl⟩ ⟨Nat.zero_le _, Nat.zero_le _⟩ hP (hDa.to rfl) hE hA hS [0, 1] rfl rfl [r, rc] rfl rfl (ci := 2) rfl (q0 := 0) rfl (Nat.le_of_ble_eq_true rfl) hl.1 dX0_addShot_85 (fun H locs hP _ hS => ?_)
              have hP : va_P E.1 vwCl [(r, .inr (2, [.ref rc])), (rc, .inl (E.2.1, 293, .inl (upd (upd (upd (opS f n p) (13 + 14 * p + 0) ft) (13 + 14 * p + 1) (nI 0)) (13 + 14 * p + 2) re)))] H := hP
              refine lv_aload_n hx hb dX0_addShot_88 rfl (lv_at hl 0 rfl) ?_
              refine lv_iload_n hx hb dX0_addShot_89 rfl (lv_at hl 1 rfl) ?_
              refine lv_iconst (v := nI 3) hx hb dX0_addShot_90 (by decide) ?_
              refine lv_iload hx hb dX0_addShot_91 (lv_at hl 4 rfl) ?_
              refine rwVv3 (rest := []) S (c_X3_writeShot l E r rc (upd (upd (upd (opS f n p) (13 + 14 * p + 0) ft) (13 + 14 * p + 1) (nI 0)) (13 + 14 * p + 2) re) p 3 gr (by omega) (by omega)) cd_X3_writeShot bw_197 ⟨Nat.le_of_ble_eq_true rfl, Nat.le_of_ble_eq_true rfl⟩ ⟨Nat.zero_le _, Nat.zero_le _⟩ hP (hDa.to rfl) hE hA hS [0, 1] rfl rfl [r, rc] rfl rfl (ci := 2) rfl (q0 := 0) rfl (Nat.le_of_ble_eq_true rfl) hl.1 dX0_addShot_93 (fun H locs hP _ hS => ?_)
              have hP : va_P E.1 vwCl [(r, .inr (2, [.ref rc])), (rc, .inl (E.2.1, 293, .inl (upd (upd (upd (upd (opS f n p) (13 + 14 * p + 0) ft) (13 + 14 * p + 1) (nI 0)) (13 + 14 * p + 2) re) (13 + 14 * p + 3) gr)))] H := hP
              refine lv_aload_n hx hb dX0_addShot_96 rfl (lv_at hl 0 rfl) ?_
              refine lv_iload_n hx hb dX0_addShot_97 rfl (lv_at hl 1 rfl) ?_
              refine lv_iconst (v := nI 4) hx hb dX0_addShot_98 (by decide) ?_
              refine lv_iload hx hb dX0_addShot_99 (lv_at hl 5 rfl) ?_
              refine rwVv3 (rest := []) S (c_X3_writeShot l E r rc (upd (upd (upd (upd (opS f n p) (13 + 14 * p + 0) ft) (13 + 14 * p + 1) (nI 0)) (13 + 14 * p + 2) re) (13 + 14 * p + 3) gr) p 4 bl (by omega) (by omega)) cd_X3_writeShot bw_197 ⟨Nat.le_of_ble_eq_true rfl, Nat.le_of_ble_eq_true rfl⟩ ⟨Nat.zero_le _, Nat.zero_le _⟩ hP (hDa.to rfl) hE hA hS [0, 1] rfl rfl [r, rc] rfl rfl (ci := 2) rfl (q0 := 0) rfl (Nat.le_of_ble_eq_true rfl) hl.1 dX0_addShot_101 (fun H locs hP _ hS => ?_)
              have hP : va_P E.1 vwCl [(r, .inr (2, [.ref rc])), (rc, .inl (E.2.1, 293, .inl (upd (upd (upd (upd (upd (opS f n p) (13 + 14 * p + 0) ft) (13 + 14 * p + 1) (nI 0)) (13 + 14 * p + 2) re) (13 + 14 * p + 3) gr) (13 + 14 * p + 4) bl)))] H := hP
              refine lv_iconst (v := nI 0) hx hb dX0_addShot_104 (by decide) ?_
              refine lv_istore (lv' := [(6, .int (nI 0)), (0, .ref r), (1, .int (nI p)), (2, .int ft), (3, .int re), (4, .int gr), (5, .int bl)]) hx hb dX0_addShot_105 hl (by decide) rfl (fun ls hl => ?_)
              refine lv_iload hx hb dX0_addShot_107 (lv_at hl 0 rfl) ?_
              refine lv_iconst (v := nI 3) hx hb dX0_addShot_109 (by decide) ?_
              refine rn_icmp_ge (a := 0) (b := 3) (tgt := 141) hx hb (by omega) (by omega) dX0_addShot_110 (by decide) (fun c_7 => absurd c_7 (by omega)) (fun c_7 => ?_)
              refine lv_aload_n hx hb dX0_addShot_113 rfl (lv_at hl 1 rfl) ?_
              refine lv_iload_n hx hb dX0_addShot_114 rfl (lv_at hl 2 rfl) ?_
              refine lv_iconst (v := nI 5) hx hb dX0_addShot_115 (by decide) ?_
              refine lv_iload hx hb dX0_addShot_116 (lv_at hl 0 rfl) ?_
              refine rn_add (a := 5) (b := 0) hx hb dX0_addShot_118 ?_
              refine lv_iconst (v := nI 0) hx hb dX0_addShot_119 (by decide) ?_
              refine rwVv3 (rest := []) S (c_X3_writeShot l E r rc (upd (upd (upd (upd (upd (opS f n p) (13 + 14 * p + 0) ft) (13 + 14 * p + 1) (nI 0)) (13 + 14 * p + 2) re) (13 + 14 * p + 3) gr) (13 + 14 * p + 4) bl) p 5 (nI 0) (by omega) (by omega)) cd_X3_writeShot bw_197 ⟨Nat.le_of_ble_eq_true rfl, Nat.le_of_ble_eq_true rfl⟩ ⟨Nat.zero_le _, Nat.zero_le _⟩ hP (hDa.to rfl) hE hA hS [0, 1] rfl rfl [r, rc] rfl rfl (ci := 2) rfl (q0 := 0) rfl (Nat.le_of_ble_eq_true rfl) hl.1 dX0_addShot_120 (fun H locs hP _ hS => ?_)
              have hP : va_P E.1 vwCl [(r, .inr (2, [.ref rc])), (rc, .inl (E.2.1, 293, .inl (upd (upd (upd (upd (upd (upd (opS f n p) (13 + 14 * p + 0) ft) (13 + 14 * p + 1) (nI 0)) (13 + 14 * p + 2) re) (13 + 14 * p + 3) gr) (13 + 14 * p + 4) bl) (13 + 14 * p + 5) (nI 0))))] H := hP
              refine lv_aload_n hx hb dX0_addShot_123 rfl (lv_at hl 1 rfl) ?_
              refine lv_iload_n hx hb dX0_addShot_124 rfl (lv_at hl 2 rfl) ?_
              refine lv_bipush (v := nI 8) hx hb dX0_addShot_125 (by decide) ?_
              refine lv_iload hx hb dX0_addShot_127 (lv_at hl 0 rfl) ?_
              refine rn_add (a := 8) (b := 0) hx hb dX0_addShot_129 ?_
              refine lv_bipush (v := nI 25) hx hb dX0_addShot_130 (by decide) ?_
              refine rwVv3 (rest := []) S (c_X3_writeShot l E r rc (upd (upd (upd (upd (upd (upd (opS f n p) (13 + 14 * p + 0) ft) (13 + 14 * p + 1) (nI 0)) (13 + 14 * p + 2) re) (13 + 14 * p + 3) gr) (13 + 14 * p + 4) bl) (13 + 14 * p + 5) (nI 0)) p 8 (nI 25) (by omega) (by omega)) cd_X3_writeShot bw_197 ⟨Nat.le_of_ble_eq_true rfl, Nat.le_of_ble_eq_true rfl⟩ ⟨Nat.zero_le _, Nat.zero_le _⟩ hP (hDa.to rfl) hE hA hS [0, 1] rfl rfl [r, rc] rfl rfl (ci := 2) rfl (q0 := 0) rfl (Nat.le_of_ble_eq_true rfl) hl.1 dX0_addShot_132 (fun H locs hP _ hS => ?_)
              have hP : va_P E.1 vwCl [(r, .inr (2, [.ref rc])), (rc, .inl (E.2.1, 293, .inl (upd (upd (upd (upd (upd (upd (upd (opS f n p) (13 + 14 * p + 0) ft) (13 + 14 * p + 1) (nI 0)) (13 + 14 * p + 2) re) (13 + 14 * p + 3) gr) (13 + 14 * p + 4) bl) (13 + 14 * p + 5) (nI 0)) (13 + 14 * p + 8) (nI 25))))] H := hP
              refine rn_inc (a := 0) (d := 1) (lv' := [(6, .int (nI 1)), (0, .ref r), (1, .int (nI p)), (2, .int ft), (3, .int re), (4, .int gr), (5, .int bl)]) hx hb dX0_addShot_135 hl (k := 0) rfl (by decide) (by decide) rfl (fun ls hl => ?_)
              refine lv_goto (tgt := 107) hx hb dX0_addShot_138 (by decide) ?_
              refine lv_iload hx hb dX0_addShot_107 (lv_at hl 0 rfl) ?_
              refine lv_iconst (v := nI 3) hx hb dX0_addShot_109 (by decide) ?_
              refine rn_icmp_ge (a := 1) (b := 3) (tgt := 141) hx hb (by omega) (by omega) dX0_addShot_110 (by decide) (fun c_8 => absurd c_8 (by omega)) (fun c_8 => ?_)
              refine lv_aload_n hx hb dX0_addShot_113 rfl (lv_at hl 1 rfl) ?_
              refine lv_iload_n hx hb dX0_addShot_114 rfl (lv_at hl 2 rfl) ?_
              refine lv_iconst (v := nI 5) hx hb dX0_addShot_115 (by decide) ?_
              refine lv_iload hx hb dX0_addShot_116 (lv_at hl 0 rfl) ?_
              refine rn_add (a := 5) (b := 1) hx hb dX0_addShot_118 ?_
              refine lv_iconst (v := nI 0) hx hb dX0_addShot_119 (by decide) ?_
              refine rwVv3 (rest := []) S (c_X3_writeShot l E r rc (upd (upd (upd (upd (upd (upd (upd (opS f n p) (13 + 14 * p + 0) ft) (13 + 14 * p + 1) (nI 0)) (13 + 14 * p + 2) re) (13 + 14 * p + 3) gr) (13 + 14 * p + 4) bl) (13 + 14 * p + 5) (nI 0)) (13 + 14 * p + 8) (nI 25)) p 6 (nI 0) (by omega) (by omega)) cd_X3_writeShot bw_197 ⟨Nat.le_of_ble_eq_true rfl, Nat.le_of_ble_eq_true rfl⟩ ⟨Nat.zero_le _, Nat.zero_le _⟩ hP (hDa.to rfl) hE hA hS [0, 1] rfl rfl [r, rc] rfl rfl (ci := 2) rfl (q0 := 0) rfl (Nat.le_of_ble_eq_true rfl) hl.1 dX0_addShot_120 (fun H locs hP _ hS => ?_)
              have hP : va_P E.1 vwCl [(r, .inr (2, [.ref rc])), (rc, .inl (E.2.1, 293, .inl (upd (upd (upd (upd (upd (upd (upd (upd (opS f n p) (13 + 14 * p + 0) ft) (13 + 14 * p + 1) (nI 0)) (13 + 14 * p + 2) re) (13 + 14 * p + 3) gr) (13 + 14 * p + 4) bl) (13 + 14 * p + 5) (nI 0)) (13 + 14 * p + 8) (nI 25)) (13 + 14 * p + 6) (nI 0))))] H := hP
              refine lv_aload_n hx hb dX0_addShot_123 rfl (lv_at hl 1 rfl) ?_
              refine lv_iload_n hx hb dX0_addShot_124 rfl (lv_at hl 2 rfl) ?_
              refine lv_bipush (v := nI 8) hx hb dX0_addShot_125 (by decide) ?_
              refine lv_iload hx hb dX0_addShot_127 (lv_at hl 0 rfl) ?_
              refine rn_add (a := 8) (b := 1) hx hb dX0_addShot_129 ?_
              refine lv_bipush (v := nI 25) hx hb dX0_addShot_130 (by decide) ?_
              refine rwVv3 (rest := []) S (c_X3_writeShot l E r rc (upd (upd (upd (upd (upd (upd (upd (upd (opS f n p) (13 + 14 * p + 0) ft) (13 + 14 * p + 1) (nI 0)) (13 + 14 * p + 2) re) (13 + 14 * p + 3) gr) (13 + 14 * p + 4) bl) (13 + 14 * p + 5) (nI 0)) (13 + 14 * p + 8) (nI 25)) (13 + 14 * p + 6) (nI 0)) p 9 (nI 25) (by omega) (by omega)) cd_X3_writeShot bw_197 ⟨Nat.le_of_ble_eq_true rfl, Nat.le_of_ble_eq_true rfl⟩ ⟨Nat.zero_le _, Nat.zero_le _⟩ hP (hDa.to rfl) hE hA hS [0, 1] rfl rfl [r, rc] rfl rfl (ci := 2) rfl (q0 := 0) rfl (Nat.le_of_ble_eq_true rfl) hl.1 dX0_addShot_132 (fun H locs hP _ hS => ?_)
              have hP : va_P E.1 vwCl [(r, .inr (2, [.ref rc])), (rc, .inl (E.2.1, 293, .inl (upd (upd (upd (upd (upd (upd (upd (upd (upd (opS f n p) (13 + 14 * p + 0) ft) (13 + 14 * p + 1) (nI 0)) (13 + 14 * p + 2) re) (13 + 14 * p + 3) gr) (13 + 14 * p + 4) bl) (13 + 14 * p + 5) (nI 0)) (13 + 14 * p + 8) (nI 25)) (13 + 14 * p + 6) (nI 0)) (13 + 14 * p + 9) (nI 25))))] H := hP
              refine rn_inc (a := 1) (d := 1) (lv' := [(6, .int (nI 2)), (0, .ref r), (1, .int (nI p)), (2, .int ft), (3, .int re), (4, .int gr), (5, .int bl)]) hx hb dX0_addShot_135 hl (k := 0) rfl (by decide) (by decide) rfl (fun ls hl => ?_)
              refine lv_goto (tgt := 107) hx hb dX0_addShot_138 (by decide) ?_
              refine lv_iload hx hb dX0_addShot_107 (lv_at hl 0 rfl) ?_
              refine lv_iconst (v := nI 3) hx hb dX0_addShot_109 (by decide) ?_
              refine rn_icmp_ge (a := 2) (b := 3) (tgt := 141) hx hb (by omega) (by omega) dX0_addShot_110 (by decide) (fun c_9 => absurd c_9 (by omega)) (fun c_9 => ?_)
              refine lv_aload_n hx hb dX0_addShot_113 rfl (lv_at hl 1 rfl) ?_
              refine lv_iload_n hx hb dX0_addShot_114 rfl (lv_at hl 2 rfl) ?_
              refine lv_iconst (v := nI 5) hx hb dX0_addShot_115 (by decide) ?_
              refine lv_iload hx hb dX0_addShot_116 (lv_at hl 0 rfl) ?_
              refine rn_add (a := 5) (b := 2) hx hb dX0_addShot_118 ?_
              refine lv_iconst (v := nI 0) hx hb dX0_addShot_119 (by decide) ?_
              refine rwVv3 (rest := []) S (c_X3_writeShot l E r rc (upd (upd (upd (upd (upd (upd (upd (upd (upd (opS f n p) (13 + 14 * p + 0) ft) (13 + 14 * p + 1) (nI 0)) (13 + 14 * p + 2) re) (13 + 14 * p + 3) gr) (13 + 14 * p + 4) bl) (13 + 14 * p + 5) (nI 0)) (13 + 14 * p + 8) (nI 25)) (13 + 14 * p + 6) (nI 0)) (13 + 14 * p + 9) (nI 25)) p 7 (nI 0) (by omega) (by omega)) cd_X3_writeShot bw_197 ⟨Nat.le_of_ble_eq_true rfl, Nat.le_of_ble_eq_true rfl⟩ ⟨Nat.zero_le _, Nat.zero_le _⟩ hP (hDa.to rfl) hE hA hS [0, 1] rfl rfl [r, rc] rfl rfl (ci := 2) rfl (q0 := 0) rfl (Nat.le_of_ble_eq_true rfl) hl.1 dX0_addShot_120 (fun H locs hP _ hS => ?_)
              have hP : va_P E.1 vwCl [(r, .inr (2, [.ref rc])), (rc, .inl (E.2.1, 293, .inl (upd (upd (upd (upd (upd (upd (upd (upd (upd (upd (opS f n p) (13 + 14 * p + 0) ft) (13 + 14 * p + 1) (nI 0)) (13 + 14 * p + 2) re) (13 + 14 * p + 3) gr) (13 + 14 * p + 4) bl) (13 + 14 * p + 5) (nI 0)) (13 + 14 * p + 8) (nI 25)) (13 + 14 * p + 6) (nI 0)) (13 + 14 * p + 9) (nI 25)) (13 + 14 * p + 7) (nI 0))))] H := hP
              refine lv_aload_n hx hb dX0_addShot_123 rfl (lv_at hl 1 rfl) ?_
              refine lv_iload_n hx hb dX0_addShot_124 rfl (lv_at hl 2 rfl) ?_
              refine lv_bipush (v := nI 8) hx hb dX0_addShot_125 (by decide) ?_
              refine lv_iload hx hb dX0_addShot_127 (lv_at hl 0 rfl) ?_
              refine rn_add (a := 8) (b := 2) hx hb dX0_addShot_129 ?_
              refine lv_bipush (v := nI 25) hx hb dX0_addShot_130 (by decide) ?_
              refine rwVv3 (rest := []) S (c_X3_writeShot l E r rc (upd (upd (upd (upd (upd (upd (upd (upd (upd (upd (opS f n p) (13 + 14 * p + 0) ft) (13 + 14 * p + 1) (nI 0)) (13 + 14 * p + 2) re) (13 + 14 * p + 3) gr) (13 + 14 * p + 4) bl) (13 + 14 * p + 5) (nI 0)) (13 + 14 * p + 8) (nI 25)) (13 + 14 * p + 6) (nI 0)) (13 + 14 * p + 9) (nI 25)) (13 + 14 * p + 7) (nI 0)) p 10 (nI 25) (by omega) (by omega)) cd_X3_writeShot bw_197 ⟨Nat.le_of_ble_eq_true rfl, Nat.le_of_ble_eq_true rfl⟩ ⟨Nat.zero_le _, Nat.zero_le _⟩ hP (hDa.to rfl) hE hA hS [0, 1] rfl rfl [r, rc] rfl rfl (ci := 2) rfl (q0 := 0) rfl (Nat.le_of_ble_eq_true rfl) hl.1 dX0_addShot_132 (fun H locs hP _ hS => ?_)
              have hP : va_P E.1 vwCl [(r, .inr (2, [.ref rc])), (rc, .inl (E.2.1, 293, .inl (upd (upd (upd (upd (upd (upd (upd (upd (upd (upd (upd (opS f n p) (13 + 14 * p + 0) ft) (13 + 14 * p + 1) (nI 0)) (13 + 14 * p + 2) re) (13 + 14 * p + 3) gr) (13 + 14 * p + 4) bl) (13 + 14 * p + 5) (nI 0)) (13 + 14 * p + 8) (nI 25)) (13 + 14 * p + 6) (nI 0)) (13 + 14 * p + 9) (nI 25)) (13 + 14 * p + 7) (nI 0)) (13 + 14 * p + 10) (nI 25))))] H := hP
              refine rn_inc (a := 2) (d := 1) (lv' := [(6, .int (nI 3)), (0, .ref r), (1, .int (nI p)), (2, .int ft), (3, .int re), (4, .int gr), (5, .int bl)]) hx hb dX0_addShot_135 hl (k := 0) rfl (by decide) (by decide) rfl (fun ls hl => ?_)
              refine lv_goto (tgt := 107) hx hb dX0_addShot_138 (by decide) ?_
              refine lv_iload hx hb dX0_addShot_107 (lv_at hl 0 rfl) ?_
              refine lv_iconst (v := nI 3) hx hb dX0_addShot_109 (by decide) ?_
              refine rn_icmp_ge (a := 3) (b := 3) (tgt := 141) hx hb (by omega) (by omega) dX0_addShot_110 (by decide) (fun c_10 => ?_) (fun c_10 => absurd c_10 (by omega))
              refine lv_aload_n hx hb dX0_addShot_141 rfl (lv_at hl 1 rfl) ?_
              refine rwV0 (rest := []) S (c_X3_shots l E r rc (upd (upd (upd (upd (upd (upd (upd (upd (upd (upd (upd (opS f n p) (13 + 14 * p + 0) ft) (13 + 14 * p + 1) (nI 0)) (13 + 14 * p + 2) re) (13 + 14 * p + 3) gr) (13 + 14 * p + 4) bl) (13 + 14 * p + 5) (nI 0)) (13 + 14 * p + 8) (nI 25)) (13 + 14 * p + 6) (nI 0)) (13 + 14 * p + 9) (nI 25)) (13 + 14 * p + 7) (nI 0)) (13 + 14 * p + 10) (nI 25)) (n + 1) ((pk_un (by omega)).trans ((pk_un (by omega)).trans ((pk_un (by omega)).trans ((pk_un (by omega)).trans ((pk_un (by omega)).trans ((pk_un (by omega)).trans ((pk_un (by omega)).trans ((pk_un (by omega)).trans ((pk_un (by omega)).trans ((pk_un (by omega)).trans ((pk_un (by omega)).trans pk_us)))))))))))) cd_X3_shots bw_158 ⟨Nat.le_of_ble_eq_true rfl, Nat.le_of_ble_eq_true rfl⟩ ⟨Nat.zero_le _, Nat.zero_le _⟩ hP (hDa.to rfl) hE hA hS [0, 1] rfl rfl [r, rc] rfl rfl (ci := 2) rfl (q0 := 0) rfl (Nat.le_of_ble_eq_true rfl) hl.1 dX0_addShot_142 (fun H locs hP _ hS => ?_)
              have hP : va_P E.1 vwCl [(r, .inr (2, [.ref rc])), (rc, .inl (E.2.1, 293, .inl (upd (upd (upd (upd (upd (upd (upd (upd (upd (upd (upd (opS f n p) (13 + 14 * p + 0) ft) (13 + 14 * p + 1) (nI 0)) (13 + 14 * p + 2) re) (13 + 14 * p + 3) gr) (13 + 14 * p + 4) bl) (13 + 14 * p + 5) (nI 0)) (13 + 14 * p + 8) (nI 25)) (13 + 14 * p + 6) (nI 0)) (13 + 14 * p + 9) (nI 25)) (13 + 14 * p + 7) (nI 0)) (13 + 14 * p + 10) (nI 25))))] H := hP
              exact hret _ _ _ _ _ _ (by first | rw [cAv, ix_nI (show p < 2 ^ 31 by omega), if_neg c_1, if_neg c_2, if_neg c_3, if_neg c_4, if_neg c_5, if_pos c_6] | rw [cAv, if_neg c_1, if_neg c_2, if_neg c_3, if_neg c_4, if_neg c_5, if_pos c_6] | simp only [cAv, ix_nI (show p < 2 ^ 31 by omega), if_neg c_1, if_neg c_2, if_neg c_3, if_neg c_4, if_neg c_5, if_pos c_6]) (by first | rw [cAw, ix_nI (show p < 2 ^ 31 by omega), if_neg c_1, if_neg c_2, if_neg c_3, if_neg c_4, if_neg c_5, if_pos c_6] | rw [cAw, if_neg c_1, if_neg c_2, if_neg c_3, if_neg c_4, if_neg c_5, if_pos c_6] | simp only [cAw, ix_nI (show p < 2 ^ 31 by omega), if_neg c_1, if_neg c_2, if_neg c_3, if_neg c_4, if_neg c_5, if_pos c_6]) rfl hP hS dX0_addShot_145
            · refine lv_bipush (v := (-4)) hx hb dX0_addShot_59 (by decide) ?_
              exact hret _ _ _ _ _ _ (by first | rw [cAv, ix_nI (show p < 2 ^ 31 by omega), if_neg c_1, if_neg c_2, if_neg c_3, if_neg c_4, if_neg c_5, if_neg c_6] | rw [cAv, if_neg c_1, if_neg c_2, if_neg c_3, if_neg c_4, if_neg c_5, if_neg c_6] | simp only [cAv, ix_nI (show p < 2 ^ 31 by omega), if_neg c_1, if_neg c_2, if_neg c_3, if_neg c_4, if_neg c_5, if_neg c_6]) (by first | rw [cAw, ix_nI (show p < 2 ^ 31 by omega), if_neg c_1, if_neg c_2, if_neg c_3, if_neg c_4, if_neg c_5, if_neg c_6] | rw [cAw, if_neg c_1, if_neg c_2, if_neg c_3, if_neg c_4, if_neg c_5, if_neg c_6] | simp only [cAw, ix_nI (show p < 2 ^ 31 by omega), if_neg c_1, if_neg c_2, if_neg c_3, if_neg c_4, if_neg c_5, if_neg c_6]) rfl hP hS dX0_addShot_61
          · refine lv_bipush (v := (-2)) hx hb dX0_addShot_47 (by decide) ?_
            exact hret _ _ _ _ _ _ (by first | rw [cAv, ix_nI (show p < 2 ^ 31 by omega), if_neg c_1, if_neg c_2, if_neg c_3, if_neg c_4, if_pos c_5] | rw [cAv, if_neg c_1, if_neg c_2, if_neg c_3, if_neg c_4, if_pos c_5] | simp only [cAv, ix_nI (show p < 2 ^ 31 by omega), if_neg c_1, if_neg c_2, if_neg c_3, if_neg c_4, if_pos c_5]) (by first | rw [cAw, ix_nI (show p < 2 ^ 31 by omega), if_neg c_1, if_neg c_2, if_neg c_3, if_neg c_4, if_pos c_5] | rw [cAw, if_neg c_1, if_neg c_2, if_neg c_3, if_neg c_4, if_pos c_5] | simp only [cAw, ix_nI (show p < 2 ^ 31 by omega), if_neg c_1, if_neg c_2, if_neg c_3, if_neg c_4, if_pos c_5]) rfl hP hS dX0_addShot_49
  · refine lv_iconst (v := (-1)) hx hb dX0_addShot_12 (by decide) ?_
    exact hret _ _ _ _ _ _ (by rw [cAv, if_pos c_1]) (by rw [cAw, if_pos c_1]) rfl hP hS dX0_addShot_13

theorem cd_X0_dropShot : cdS yX0_dropShot cX0_dropShot 2 (some .int) 2 := ⟨⟨bw_365, bw_10, by decide, by decide, by decide +kernel⟩, bw_364⟩
def cDv (f : Nat → Int32) (n : Nat) (x : Int32) : Int32 := if hasS n x = 0 then (-1) else nI (n - 1)
def cDw (f : Nat → Int32) (n : Nat) (x : Int32) : Nat → Int32 := if hasS n x = 0 then f else (clS f n (ix x))
set_option maxHeartbeats 4000000 in
set_option maxRecDepth 100000 in
theorem c_X0_dropShot (l : Launch) (E : EV) (r : Nat) (rc : Nat) (f : Nat → Int32) (n : Nat) (x : Int32) (hf : f 12 = nI n) (hn : n ≤ 20) : rcI l E yX0_dropShot cX0_dropShot 2 .int 3 [.ref r, .int x] [(r, .inr (2, [.ref rc])), (rc, .inl (E.2.1, 293, .inl f))] (cDv f n x) [(r, .inr (2, [.ref rc])), (rc, .inl (E.2.1, 293, .inl (cDw f n x)))] := by
  refine rcI_of (by decide) (Nat.le_of_ble_eq_true rfl) ?_
  intro pg e s m below meth c Q A ls S hP hD0 hE hA hl hret
  have hx := S.1
  have hb := S.2.1
  have hown := S.2.2.2.1
  have hts := S.2.2.2.2
  have hK := hE.1
  have hS : va_S A s.heap s.heap [] := va_S.rf
  have hDa : va_Da A [r, rc] := ⟨_, hD0, rfl⟩
  have hl : lv_has ls 2 [(0, .ref r), (1, .int x)] := hl
  refine lv_aload_n hx hb dX0_dropShot_0 rfl (lv_at hl 0 rfl) ?_
  refine lv_iload_n hx hb dX0_dropShot_1 rfl (lv_at hl 1 rfl) ?_
  refine rwV1 (rest := []) S (c_X3_hasShot l E r rc f n x hf) cd_X3_hasShot bw_221 ⟨Nat.le_of_ble_eq_true rfl, Nat.le_of_ble_eq_true rfl⟩ ⟨Nat.zero_le _, Nat.zero_le _⟩ hP (hDa.to rfl) hE hA hS [0, 1] rfl rfl [r, rc] rfl rfl (ci := 2) rfl (q0 := 0) rfl (Nat.le_of_ble_eq_true rfl) hl.1 dX0_dropShot_2 (fun H locs hP _ hS => ?_)
  have hP : va_P E.1 vwCl [(r, .inr (2, [.ref rc])), (rc, .inl (E.2.1, 293, .inl f))] H := hP
  refine lv_if_ne (tgt := 10) hx hb dX0_dropShot_5 (by decide) (fun c_1 => ?_) (fun c_1 => ?_)
  · obtain ⟨p, h9_p, rfl⟩ : ∃ p : Nat, p < n ∧ x = nI p := (hasS_of (by omega) c_1)
    refine lv_aload_n hx hb dX0_dropShot_10 rfl (lv_at hl 0 rfl) ?_
    refine lv_iload_n hx hb dX0_dropShot_11 rfl (lv_at hl 1 rfl) ?_
    refine rwVv1 (rest := []) S (c_X3_closePlace l E r rc f n p hf hn (by omega)) cd_X3_closePlace bw_267 ⟨Nat.le_of_ble_eq_true rfl, Nat.le_of_ble_eq_true rfl⟩ ⟨Nat.zero_le _, Nat.zero_le _⟩ hP (hDa.to rfl) hE hA hS [0, 1] rfl rfl [r, rc] rfl rfl (ci := 2) rfl (q0 := 0) rfl (Nat.le_of_ble_eq_true rfl) hl.1 dX0_dropShot_12 (fun H locs hP _ hS => ?_)
    have hP : va_P E.1 vwCl [(r, .inr (2, [.ref rc])), (rc, .inl (E.2.1, 293, .inl (clS f n p)))] H := hP
    refine lv_aload_n hx hb dX0_dropShot_15 rfl (lv_at hl 0 rfl) ?_
    refine rwV0 (rest := []) S (c_X3_shots l E r rc (clS f n p) (n - 1) pk_us) cd_X3_shots bw_158 ⟨Nat.le_of_ble_eq_true rfl, Nat.le_of_ble_eq_true rfl⟩ ⟨Nat.zero_le _, Nat.zero_le _⟩ hP (hDa.to rfl) hE hA hS [0, 1] rfl rfl [r, rc] rfl rfl (ci := 2) rfl (q0 := 0) rfl (Nat.le_of_ble_eq_true rfl) hl.1 dX0_dropShot_16 (fun H locs hP _ hS => ?_)
    have hP : va_P E.1 vwCl [(r, .inr (2, [.ref rc])), (rc, .inl (E.2.1, 293, .inl (clS f n p)))] H := hP
    exact hret _ _ _ _ _ _ (by first | rw [cDv, ix_nI (show p < 2 ^ 31 by omega), if_neg c_1] | rw [cDv, if_neg c_1] | simp only [cDv, ix_nI (show p < 2 ^ 31 by omega), if_neg c_1]) (by first | rw [cDw, ix_nI (show p < 2 ^ 31 by omega), if_neg c_1] | rw [cDw, if_neg c_1] | simp only [cDw, ix_nI (show p < 2 ^ 31 by omega), if_neg c_1]) rfl hP hS dX0_dropShot_19
  · refine lv_iconst (v := (-1)) hx hb dX0_dropShot_8 (by decide) ?_
    exact hret _ _ _ _ _ _ (by rw [cDv, if_pos c_1]) (by rw [cDw, if_pos c_1]) rfl hP hS dX0_dropShot_9

theorem cd_X0_changeLight : cdS yX0_changeLight cX0_changeLight 5 (some .int) 4 := ⟨⟨bw_220, bw_10, by decide, by decide, by decide +kernel⟩, bw_219⟩
def cLv (f : Nat → Int32) (n : Nat) (x : Int32) (y : Int32) (z : Int32) : Int32 := if hasS n x = 0 then (-1) else if isC y = 0 then (-2) else if isP z = 0 then (-2) else f (13 + 14 * (ix x) + (8 + (ix y)))
def cLw (f : Nat → Int32) (n : Nat) (x : Int32) (y : Int32) (z : Int32) : Nat → Int32 := if hasS n x = 0 then f else if isC y = 0 then f else if isP z = 0 then f else upd f (13 + 14 * (ix x) + (8 + (ix y))) z
set_option maxHeartbeats 4000000 in
set_option maxRecDepth 100000 in
theorem c_X0_changeLight (l : Launch) (E : EV) (r : Nat) (rc : Nat) (f : Nat → Int32) (n : Nat) (x : Int32) (y : Int32) (z : Int32) (hf : f 12 = nI n) (hn : n ≤ 20) : rcI l E yX0_changeLight cX0_changeLight 5 .int 3 [.ref r, .int x, .int y, .int z] [(r, .inr (2, [.ref rc])), (rc, .inl (E.2.1, 293, .inl f))] (cLv f n x y z) [(r, .inr (2, [.ref rc])), (rc, .inl (E.2.1, 293, .inl (cLw f n x y z)))] := by
  refine rcI_of (by decide) (Nat.le_of_ble_eq_true rfl) ?_
  intro pg e s m below meth c Q A ls S hP hD0 hE hA hl hret
  have hx := S.1
  have hb := S.2.1
  have hown := S.2.2.2.1
  have hts := S.2.2.2.2
  have hK := hE.1
  have hS : va_S A s.heap s.heap [] := va_S.rf
  have hDa : va_Da A [r, rc] := ⟨_, hD0, rfl⟩
  have hl : lv_has ls 5 [(0, .ref r), (1, .int x), (2, .int y), (3, .int z)] := hl
  refine lv_aload_n hx hb dX0_changeLight_0 rfl (lv_at hl 0 rfl) ?_
  refine lv_iload_n hx hb dX0_changeLight_1 rfl (lv_at hl 1 rfl) ?_
  refine rwV1 (rest := []) S (c_X3_hasShot l E r rc f n x hf) cd_X3_hasShot bw_221 ⟨Nat.le_of_ble_eq_true rfl, Nat.le_of_ble_eq_true rfl⟩ ⟨Nat.zero_le _, Nat.zero_le _⟩ hP (hDa.to rfl) hE hA hS [0, 1] rfl rfl [r, rc] rfl rfl (ci := 2) rfl (q0 := 0) rfl (Nat.le_of_ble_eq_true rfl) hl.1 dX0_changeLight_2 (fun H locs hP _ hS => ?_)
  have hP : va_P E.1 vwCl [(r, .inr (2, [.ref rc])), (rc, .inl (E.2.1, 293, .inl f))] H := hP
  refine lv_if_ne (tgt := 10) hx hb dX0_changeLight_5 (by decide) (fun c_1 => ?_) (fun c_1 => ?_)
  · obtain ⟨p, h9_p, rfl⟩ : ∃ p : Nat, p < n ∧ x = nI p := (hasS_of (by omega) c_1)
    refine lv_iload_n hx hb dX0_changeLight_10 rfl (lv_at hl 2 rfl) ?_
    refine rwN1 (rest := []) S (c_X7_isColour l E y) cd_X7_isColour hE.2.1.2.2.1 ⟨Nat.le_of_ble_eq_true rfl, Nat.le_of_ble_eq_true rfl⟩ ⟨Nat.zero_le _, Nat.zero_le _⟩ hP (hDa.to rfl) hE hA hS [] rfl rfl [] rfl rfl (Nat.le_of_ble_eq_true rfl) hl.1 dX0_changeLight_11 (fun H locs hP _ hS => ?_)
    have hP : va_P E.1 vwCl [(r, .inr (2, [.ref rc])), (rc, .inl (E.2.1, 293, .inl f))] H := hP
    refine lv_if_eq (tgt := 24) hx hb dX0_changeLight_14 (by decide) (fun c_2 => ?_) (fun c_2 => ?_)
    · refine lv_bipush (v := (-2)) hx hb dX0_changeLight_24 (by decide) ?_
      exact hret _ _ _ _ _ _ (by first | rw [cLv, ix_nI (show p < 2 ^ 31 by omega), if_neg c_1, if_pos c_2] | rw [cLv, if_neg c_1, if_pos c_2] | simp only [cLv, ix_nI (show p < 2 ^ 31 by omega), if_neg c_1, if_pos c_2]) (by first | rw [cLw, ix_nI (show p < 2 ^ 31 by omega), if_neg c_1, if_pos c_2] | rw [cLw, if_neg c_1, if_pos c_2] | simp only [cLw, ix_nI (show p < 2 ^ 31 by omega), if_neg c_1, if_pos c_2]) rfl hP hS dX0_changeLight_26
    · obtain ⟨co, h9_co, rfl⟩ : ∃ co : Nat, co < 3 ∧ y = nI co := (isC_of c_2)
      refine lv_iload_n hx hb dX0_changeLight_17 rfl (lv_at hl 3 rfl) ?_
      refine rwN1 (rest := []) S (c_X7_isPoints l E z) cd_X7_isPoints hE.2.1.2.1 ⟨Nat.le_of_ble_eq_true rfl, Nat.le_of_ble_eq_true rfl⟩ ⟨Nat.zero_le _, Nat.zero_le _⟩ hP (hDa.to rfl) hE hA hS [] rfl rfl [] rfl rfl (Nat.le_of_ble_eq_true rfl) hl.1 dX0_changeLight_18 (fun H locs hP _ hS => ?_)
      have hP : va_P E.1 vwCl [(r, .inr (2, [.ref rc])), (rc, .inl (E.2.1, 293, .inl f))] H := hP
      refine lv_if_ne (tgt := 27) hx hb dX0_changeLight_21 (by decide) (fun c_3 => ?_) (fun c_3 => ?_)
      · refine lv_aload_n hx hb dX0_changeLight_27 rfl (lv_at hl 0 rfl) ?_
        refine lv_iload_n hx hb dX0_changeLight_28 rfl (lv_at hl 1 rfl) ?_
        refine lv_bipush (v := nI 8) hx hb dX0_changeLight_29 (by decide) ?_
        refine lv_iload_n hx hb dX0_changeLight_31 rfl (lv_at hl 2 rfl) ?_
        refine rn_add (a := 8) (b := co) hx hb dX0_changeLight_32 ?_
        refine rwV2 (rest := []) S (c_X3_readShot l E r rc f p (8 + co) (by omega) (by omega)) cd_X3_readShot bw_228 ⟨Nat.le_of_ble_eq_true rfl, Nat.le_of_ble_eq_true rfl⟩ ⟨Nat.zero_le _, Nat.zero_le _⟩ hP (hDa.to rfl) hE hA hS [0, 1] rfl rfl [r, rc] rfl rfl (ci := 2) rfl (q0 := 0) rfl (Nat.le_of_ble_eq_true rfl) hl.1 dX0_changeLight_33 (fun H locs hP _ hS => ?_)
        have hP : va_P E.1 vwCl [(r, .inr (2, [.ref rc])), (rc, .inl (E.2.1, 293, .inl f))] H := hP
        refine lv_istore (lv' := [(4, .int (f (13 + 14 * p + (8 + co)))), (0, .ref r), (1, .int (nI p)), (2, .int (nI co)), (3, .int z)]) hx hb dX0_changeLight_36 hl (by decide) rfl (fun ls hl => ?_)
        refine lv_aload_n hx hb dX0_changeLight_38 rfl (lv_at hl 1 rfl) ?_
        refine lv_iload_n hx hb dX0_changeLight_39 rfl (lv_at hl 2 rfl) ?_
        refine lv_bipush (v := nI 8) hx hb dX0_changeLight_40 (by decide) ?_
        refine lv_iload_n hx hb dX0_changeLight_42 rfl (lv_at hl 3 rfl) ?_
        refine rn_add (a := 8) (b := co) hx hb dX0_changeLight_43 ?_
        refine lv_iload_n hx hb dX0_changeLight_44 rfl (lv_at hl 4 rfl) ?_
        refine rwVv3 (rest := []) S (c_X3_writeShot l E r rc f p (8 + co) z (by omega) (by omega)) cd_X3_writeShot bw_197 ⟨Nat.le_of_ble_eq_true rfl, Nat.le_of_ble_eq_true rfl⟩ ⟨Nat.zero_le _, Nat.zero_le _⟩ hP (hDa.to rfl) hE hA hS [0, 1] rfl rfl [r, rc] rfl rfl (ci := 2) rfl (q0 := 0) rfl (Nat.le_of_ble_eq_true rfl) hl.1 dX0_changeLight_45 (fun H locs hP _ hS => ?_)
        have hP : va_P E.1 vwCl [(r, .inr (2, [.ref rc])), (rc, .inl (E.2.1, 293, .inl (upd f (13 + 14 * p + (8 + co)) z)))] H := hP
        refine lv_iload hx hb dX0_changeLight_48 (lv_at hl 0 rfl) ?_
        exact hret _ _ _ _ _ _ (by first | rw [cLv, ix_nI (show p < 2 ^ 31 by omega), ix_nI (show co < 2 ^ 31 by omega), if_neg c_1, if_neg c_2, if_neg c_3] | rw [cLv, if_neg c_1, if_neg c_2, if_neg c_3] | simp only [cLv, ix_nI (show p < 2 ^ 31 by omega), ix_nI (show co < 2 ^ 31 by omega), if_neg c_1, if_neg c_2, if_neg c_3]) (by first | rw [cLw, ix_nI (show p < 2 ^ 31 by omega), ix_nI (show co < 2 ^ 31 by omega), if_neg c_1, if_neg c_2, if_neg c_3] | rw [cLw, if_neg c_1, if_neg c_2, if_neg c_3] | simp only [cLw, ix_nI (show p < 2 ^ 31 by omega), ix_nI (show co < 2 ^ 31 by omega), if_neg c_1, if_neg c_2, if_neg c_3]) rfl hP hS dX0_changeLight_50
      · refine lv_bipush (v := (-2)) hx hb dX0_changeLight_24 (by decide) ?_
        exact hret _ _ _ _ _ _ (by first | rw [cLv, ix_nI (show p < 2 ^ 31 by omega), ix_nI (show co < 2 ^ 31 by omega), if_neg c_1, if_neg c_2, if_pos c_3] | rw [cLv, if_neg c_1, if_neg c_2, if_pos c_3] | simp only [cLv, ix_nI (show p < 2 ^ 31 by omega), ix_nI (show co < 2 ^ 31 by omega), if_neg c_1, if_neg c_2, if_pos c_3]) (by first | rw [cLw, ix_nI (show p < 2 ^ 31 by omega), ix_nI (show co < 2 ^ 31 by omega), if_neg c_1, if_neg c_2, if_pos c_3] | rw [cLw, if_neg c_1, if_neg c_2, if_pos c_3] | simp only [cLw, ix_nI (show p < 2 ^ 31 by omega), ix_nI (show co < 2 ^ 31 by omega), if_neg c_1, if_neg c_2, if_pos c_3]) rfl hP hS dX0_changeLight_26
  · refine lv_iconst (v := (-1)) hx hb dX0_changeLight_8 (by decide) ?_
    exact hret _ _ _ _ _ _ (by rw [cLv, if_pos c_1]) (by rw [cLw, if_pos c_1]) rfl hP hS dX0_changeLight_9

theorem cd_X0_changeWish : cdS yX0_changeWish cX0_changeWish 5 (some .int) 4 := ⟨⟨bw_235, bw_10, by decide, by decide, by decide +kernel⟩, bw_234⟩
def cWv (f : Nat → Int32) (n : Nat) (x : Int32) (y : Int32) (z : Int32) : Int32 := if hasS n x = 0 then (-1) else if isC y = 0 then (-2) else if isW z (-10) (nI 10) = 0 then (-2) else f (13 + 14 * (ix x) + (5 + (ix y))) + (nI 10)
def cWw (f : Nat → Int32) (n : Nat) (x : Int32) (y : Int32) (z : Int32) : Nat → Int32 := if hasS n x = 0 then f else if isC y = 0 then f else if isW z (-10) (nI 10) = 0 then f else upd f (13 + 14 * (ix x) + (5 + (ix y))) z
set_option maxHeartbeats 4000000 in
set_option maxRecDepth 100000 in
theorem c_X0_changeWish (l : Launch) (E : EV) (r : Nat) (rc : Nat) (f : Nat → Int32) (n : Nat) (x : Int32) (y : Int32) (z : Int32) (hf : f 12 = nI n) (hn : n ≤ 20) : rcI l E yX0_changeWish cX0_changeWish 5 .int 3 [.ref r, .int x, .int y, .int z] [(r, .inr (2, [.ref rc])), (rc, .inl (E.2.1, 293, .inl f))] (cWv f n x y z) [(r, .inr (2, [.ref rc])), (rc, .inl (E.2.1, 293, .inl (cWw f n x y z)))] := by
  refine rcI_of (by decide) (Nat.le_of_ble_eq_true rfl) ?_
  intro pg e s m below meth c Q A ls S hP hD0 hE hA hl hret
  have hx := S.1
  have hb := S.2.1
  have hown := S.2.2.2.1
  have hts := S.2.2.2.2
  have hK := hE.1
  have hS : va_S A s.heap s.heap [] := va_S.rf
  have hDa : va_Da A [r, rc] := ⟨_, hD0, rfl⟩
  have hl : lv_has ls 5 [(0, .ref r), (1, .int x), (2, .int y), (3, .int z)] := hl
  refine lv_aload_n hx hb dX0_changeWish_0 rfl (lv_at hl 0 rfl) ?_
  refine lv_iload_n hx hb dX0_changeWish_1 rfl (lv_at hl 1 rfl) ?_
  refine rwV1 (rest := []) S (c_X3_hasShot l E r rc f n x hf) cd_X3_hasShot bw_221 ⟨Nat.le_of_ble_eq_true rfl, Nat.le_of_ble_eq_true rfl⟩ ⟨Nat.zero_le _, Nat.zero_le _⟩ hP (hDa.to rfl) hE hA hS [0, 1] rfl rfl [r, rc] rfl rfl (ci := 2) rfl (q0 := 0) rfl (Nat.le_of_ble_eq_true rfl) hl.1 dX0_changeWish_2 (fun H locs hP _ hS => ?_)
  have hP : va_P E.1 vwCl [(r, .inr (2, [.ref rc])), (rc, .inl (E.2.1, 293, .inl f))] H := hP
  refine lv_if_ne (tgt := 10) hx hb dX0_changeWish_5 (by decide) (fun c_1 => ?_) (fun c_1 => ?_)
  · obtain ⟨p, h9_p, rfl⟩ : ∃ p : Nat, p < n ∧ x = nI p := (hasS_of (by omega) c_1)
    refine lv_iload_n hx hb dX0_changeWish_10 rfl (lv_at hl 2 rfl) ?_
    refine rwN1 (rest := []) S (c_X7_isColour l E y) cd_X7_isColour hE.2.1.2.2.1 ⟨Nat.le_of_ble_eq_true rfl, Nat.le_of_ble_eq_true rfl⟩ ⟨Nat.zero_le _, Nat.zero_le _⟩ hP (hDa.to rfl) hE hA hS [] rfl rfl [] rfl rfl (Nat.le_of_ble_eq_true rfl) hl.1 dX0_changeWish_11 (fun H locs hP _ hS => ?_)
    have hP : va_P E.1 vwCl [(r, .inr (2, [.ref rc])), (rc, .inl (E.2.1, 293, .inl f))] H := hP
    refine lv_if_eq (tgt := 28) hx hb dX0_changeWish_14 (by decide) (fun c_2 => ?_) (fun c_2 => ?_)
    · refine lv_bipush (v := (-2)) hx hb dX0_changeWish_28 (by decide) ?_
      exact hret _ _ _ _ _ _ (by first | rw [cWv, ix_nI (show p < 2 ^ 31 by omega), if_neg c_1, if_pos c_2] | rw [cWv, if_neg c_1, if_pos c_2] | simp only [cWv, ix_nI (show p < 2 ^ 31 by omega), if_neg c_1, if_pos c_2]) (by first | rw [cWw, ix_nI (show p < 2 ^ 31 by omega), if_neg c_1, if_pos c_2] | rw [cWw, if_neg c_1, if_pos c_2] | simp only [cWw, ix_nI (show p < 2 ^ 31 by omega), if_neg c_1, if_pos c_2]) rfl hP hS dX0_changeWish_30
    · obtain ⟨co, h9_co, rfl⟩ : ∃ co : Nat, co < 3 ∧ y = nI co := (isC_of c_2)
      refine lv_iload_n hx hb dX0_changeWish_17 rfl (lv_at hl 3 rfl) ?_
      refine lv_bipush (v := (-10)) hx hb dX0_changeWish_18 (by decide) ?_
      refine lv_bipush (v := nI 10) hx hb dX0_changeWish_20 (by decide) ?_
      refine rwN3 (rest := []) S (c_X7_isWithin l E z (-10) (nI 10)) cd_X7_isWithin hE.2.1.1 ⟨Nat.le_of_ble_eq_true rfl, Nat.le_of_ble_eq_true rfl⟩ ⟨Nat.zero_le _, Nat.zero_le _⟩ hP (hDa.to rfl) hE hA hS [] rfl rfl [] rfl rfl (Nat.le_of_ble_eq_true rfl) hl.1 dX0_changeWish_22 (fun H locs hP _ hS => ?_)
      have hP : va_P E.1 vwCl [(r, .inr (2, [.ref rc])), (rc, .inl (E.2.1, 293, .inl f))] H := hP
      refine lv_if_ne (tgt := 31) hx hb dX0_changeWish_25 (by decide) (fun c_3 => ?_) (fun c_3 => ?_)
      · refine lv_aload_n hx hb dX0_changeWish_31 rfl (lv_at hl 0 rfl) ?_
        refine lv_iload_n hx hb dX0_changeWish_32 rfl (lv_at hl 1 rfl) ?_
        refine lv_iconst (v := nI 5) hx hb dX0_changeWish_33 (by decide) ?_
        refine lv_iload_n hx hb dX0_changeWish_34 rfl (lv_at hl 2 rfl) ?_
        refine rn_add (a := 5) (b := co) hx hb dX0_changeWish_35 ?_
        refine rwV2 (rest := []) S (c_X3_readShot l E r rc f p (5 + co) (by omega) (by omega)) cd_X3_readShot bw_228 ⟨Nat.le_of_ble_eq_true rfl, Nat.le_of_ble_eq_true rfl⟩ ⟨Nat.zero_le _, Nat.zero_le _⟩ hP (hDa.to rfl) hE hA hS [0, 1] rfl rfl [r, rc] rfl rfl (ci := 2) rfl (q0 := 0) rfl (Nat.le_of_ble_eq_true rfl) hl.1 dX0_changeWish_36 (fun H locs hP _ hS => ?_)
        have hP : va_P E.1 vwCl [(r, .inr (2, [.ref rc])), (rc, .inl (E.2.1, 293, .inl f))] H := hP
        refine lv_istore (lv' := [(4, .int (f (13 + 14 * p + (5 + co)))), (0, .ref r), (1, .int (nI p)), (2, .int (nI co)), (3, .int z)]) hx hb dX0_changeWish_39 hl (by decide) rfl (fun ls hl => ?_)
        refine lv_aload_n hx hb dX0_changeWish_41 rfl (lv_at hl 1 rfl) ?_
        refine lv_iload_n hx hb dX0_changeWish_42 rfl (lv_at hl 2 rfl) ?_
        refine lv_iconst (v := nI 5) hx hb dX0_changeWish_43 (by decide) ?_
        refine lv_iload_n hx hb dX0_changeWish_44 rfl (lv_at hl 3 rfl) ?_
        refine rn_add (a := 5) (b := co) hx hb dX0_changeWish_45 ?_
        refine lv_iload_n hx hb dX0_changeWish_46 rfl (lv_at hl 4 rfl) ?_
        refine rwVv3 (rest := []) S (c_X3_writeShot l E r rc f p (5 + co) z (by omega) (by omega)) cd_X3_writeShot bw_197 ⟨Nat.le_of_ble_eq_true rfl, Nat.le_of_ble_eq_true rfl⟩ ⟨Nat.zero_le _, Nat.zero_le _⟩ hP (hDa.to rfl) hE hA hS [0, 1] rfl rfl [r, rc] rfl rfl (ci := 2) rfl (q0 := 0) rfl (Nat.le_of_ble_eq_true rfl) hl.1 dX0_changeWish_47 (fun H locs hP _ hS => ?_)
        have hP : va_P E.1 vwCl [(r, .inr (2, [.ref rc])), (rc, .inl (E.2.1, 293, .inl (upd f (13 + 14 * p + (5 + co)) z)))] H := hP
        refine lv_iload hx hb dX0_changeWish_50 (lv_at hl 0 rfl) ?_
        refine lv_bipush (v := nI 10) hx hb dX0_changeWish_52 (by decide) ?_
        refine lv_iadd hx hb dX0_changeWish_54 ?_
        exact hret _ _ _ _ _ _ (by first | rw [cWv, ix_nI (show p < 2 ^ 31 by omega), ix_nI (show co < 2 ^ 31 by omega), if_neg c_1, if_neg c_2, if_neg c_3] | rw [cWv, if_neg c_1, if_neg c_2, if_neg c_3] | simp only [cWv, ix_nI (show p < 2 ^ 31 by omega), ix_nI (show co < 2 ^ 31 by omega), if_neg c_1, if_neg c_2, if_neg c_3]) (by first | rw [cWw, ix_nI (show p < 2 ^ 31 by omega), ix_nI (show co < 2 ^ 31 by omega), if_neg c_1, if_neg c_2, if_neg c_3] | rw [cWw, if_neg c_1, if_neg c_2, if_neg c_3] | simp only [cWw, ix_nI (show p < 2 ^ 31 by omega), ix_nI (show co < 2 ^ 31 by omega), if_neg c_1, if_neg c_2, if_neg c_3]) rfl hP hS dX0_changeWish_55
      · refine lv_bipush (v := (-2)) hx hb dX0_changeWish_28 (by decide) ?_
        exact hret _ _ _ _ _ _ (by first | rw [cWv, ix_nI (show p < 2 ^ 31 by omega), ix_nI (show co < 2 ^ 31 by omega), if_neg c_1, if_neg c_2, if_pos c_3] | rw [cWv, if_neg c_1, if_neg c_2, if_pos c_3] | simp only [cWv, ix_nI (show p < 2 ^ 31 by omega), ix_nI (show co < 2 ^ 31 by omega), if_neg c_1, if_neg c_2, if_pos c_3]) (by first | rw [cWw, ix_nI (show p < 2 ^ 31 by omega), ix_nI (show co < 2 ^ 31 by omega), if_neg c_1, if_neg c_2, if_pos c_3] | rw [cWw, if_neg c_1, if_neg c_2, if_pos c_3] | simp only [cWw, ix_nI (show p < 2 ^ 31 by omega), ix_nI (show co < 2 ^ 31 by omega), if_neg c_1, if_neg c_2, if_pos c_3]) rfl hP hS dX0_changeWish_30
  · refine lv_iconst (v := (-1)) hx hb dX0_changeWish_8 (by decide) ?_
    exact hret _ _ _ _ _ _ (by rw [cWv, if_pos c_1]) (by rw [cWw, if_pos c_1]) rfl hP hS dX0_changeWish_9

