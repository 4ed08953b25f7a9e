/-! what can be told of a reel -/
theorem cd_X5_printsWith : cdS yX5_printsWith cX5_printsWith 6 (some .int) 5 := ⟨⟨bw_294, bw_9, by decide, by decide, by decide +kernel⟩, bw_293⟩
def cPr (f : Nat → Int32) (p : Nat) (co : Nat) (li : Int32) (tr : Int32) : Int32 := bd (nI 25 + li + tr - (f (4 + co) * f 3 / nI 100) - (f (13 + 14 * p + (2 + co))))
set_option maxHeartbeats 4000000 in
set_option maxRecDepth 100000 in
theorem c_X5_printsWith (l : Launch) (E : EV) (r : Nat) (rc : Nat) (f : Nat → Int32) (p : Nat) (co : Nat) (li : Int32) (tr : Int32) (hp : p < 20) (hco : co < 3) : rcI l E yX5_printsWith cX5_printsWith 6 .int 1 [.ref r, .int (nI p), .int (nI co), .int li, .int tr] [(r, .inr (2, [.ref rc])), (rc, .inl (E.2.1, 293, .inl f))] (cPr f p co li tr) [(r, .inr (2, [.ref rc])), (rc, .inl (E.2.1, 293, .inl f))] := by
  refine rcI_of (by decide) (Nat.le_of_ble_eq_true rfl) ?_
  intro pg e s m below meth c Q A ls S hP hD0 hE hA hl hret
  have hx := S.1
  have hb := S.2.1
  have hown := S.2.2.2.1
  have hts := S.2.2.2.2
  have hK := hE.1
  have hS : va_S A s.heap s.heap [] := va_S.rf
  have hDa : va_Da A [r, rc] := ⟨_, hD0, rfl⟩
  have hl : lv_has ls 6 [(0, .ref r), (1, .int (nI p)), (2, .int (nI co)), (3, .int li), (4, .int tr)] := hl
  refine lv_aload_n hx hb dX5_printsWith_0 rfl (lv_at hl 0 rfl) ?_
  refine lv_iload_n hx hb dX5_printsWith_1 rfl (lv_at hl 1 rfl) ?_
  refine lv_iconst (v := nI 2) hx hb dX5_printsWith_2 (by decide) ?_
  refine lv_iload_n hx hb dX5_printsWith_3 rfl (lv_at hl 2 rfl) ?_
  refine rn_add (a := 2) (b := co) hx hb dX5_printsWith_4 ?_
  refine rwV2 (rest := []) S (c_X3_readShot l E r rc f p (2 + co) hp (by omega)) cd_X3_readShot bw_284 ⟨Nat.le_of_ble_eq_true rfl, Nat.le_of_ble_eq_true rfl⟩ ⟨Nat.zero_le _, Nat.zero_le _⟩ hP (hDa.to rfl) hE hA hS [0, 1] rfl rfl [r, rc] rfl rfl (ci := 2) rfl (q0 := 0) rfl (Nat.le_of_ble_eq_true rfl) hl.1 dX5_printsWith_5 (fun H locs hP _ hS => ?_)
  have hP : va_P E.1 vwCl [(r, .inr (2, [.ref rc])), (rc, .inl (E.2.1, 293, .inl f))] H := hP
  refine lv_istore (lv' := [(5, .int (f (13 + 14 * p + (2 + co)))), (0, .ref r), (1, .int (nI p)), (2, .int (nI co)), (3, .int li), (4, .int tr)]) hx hb dX5_printsWith_8 hl (by decide) rfl (fun ls hl => ?_)
  refine lv_bipush (v := nI 25) hx hb dX5_printsWith_10 (by decide) ?_
  refine lv_iload_n hx hb dX5_printsWith_12 rfl (lv_at hl 4 rfl) ?_
  refine lv_iadd hx hb dX5_printsWith_13 ?_
  refine lv_iload hx hb dX5_printsWith_14 (lv_at hl 5 rfl) ?_
  refine lv_iadd hx hb dX5_printsWith_16 ?_
  refine lv_aload_n hx hb dX5_printsWith_17 rfl (lv_at hl 1 rfl) ?_
  refine lv_iload_n hx hb dX5_printsWith_18 rfl (lv_at hl 3 rfl) ?_
  refine rwV1 (rest := [.int (nI 25 + li + tr)]) S (c_X3_lampLoss l E r rc f co hco) cd_X3_lampLoss bw_295 ⟨Nat.le_of_ble_eq_true rfl, Nat.le_of_ble_eq_true rfl⟩ ⟨Nat.zero_le _, Nat.zero_le _⟩ hP (hDa.to rfl) hE hA hS [0, 1] rfl rfl [r, rc] rfl rfl (ci := 2) rfl (q0 := 0) rfl (Nat.le_of_ble_eq_true rfl) hl.1 dX5_printsWith_19 (fun H locs hP _ hS => ?_)
  have hP : va_P E.1 vwCl [(r, .inr (2, [.ref rc])), (rc, .inl (E.2.1, 293, .inl f))] H := hP
  refine lv_isub hx hb dX5_printsWith_22 ?_
  refine lv_iload hx hb dX5_printsWith_23 (lv_at hl 0 rfl) ?_
  refine lv_isub hx hb dX5_printsWith_25 ?_
  refine rwN1 (rest := []) S (c_X7_bounded l E (nI 25 + li + tr - (f (4 + co) * f 3 / nI 100) - (f (13 + 14 * p + (2 + co))))) cd_X7_bounded hE.2.1.2.2.2.1 ⟨Nat.le_of_ble_eq_true rfl, Nat.le_of_ble_eq_true rfl⟩ ⟨Nat.zero_le _, Nat.zero_le _⟩ hP (hDa.to rfl) hE hA hS [] rfl rfl [] rfl rfl (Nat.le_of_ble_eq_true rfl) hl.1 dX5_printsWith_26 (fun H locs hP _ hS => ?_)
  have hP : va_P E.1 vwCl [(r, .inr (2, [.ref rc])), (rc, .inl (E.2.1, 293, .inl f))] H := hP
  exact hret _ _ _ _ _ _ (by rw [cPr]) rfl rfl hP hS dX5_printsWith_29

theorem cd_X5_printsNow : cdS yX5_printsNow cX5_printsNow 4 (some .int) 3 := ⟨⟨bw_440, bw_9, by decide, by decide, by decide +kernel⟩, bw_439⟩
def cPn (f : Nat → Int32) (p : Nat) (co : Nat) : Int32 := cPr f p co (f (13 + 14 * p + (8 + co))) (f (7 + co))
set_option maxHeartbeats 4000000 in
set_option maxRecDepth 100000 in
theorem c_X5_printsNow (l : Launch) (E : EV) (r : Nat) (rc : Nat) (f : Nat → Int32) (p : Nat) (co : Nat) (hp : p < 20) (hco : co < 3) : rcI l E yX5_printsNow cX5_printsNow 4 .int 2 [.ref r, .int (nI p), .int (nI co)] [(r, .inr (2, [.ref rc])), (rc, .inl (E.2.1, 293, .inl f))] (cPn f p co) [(r, .inr (2, [.ref rc])), (rc, .inl (E.2.1, 293, .inl f))] := by
  refine rcI_of (by decide) (Nat.le_of_ble_eq_true rfl) ?_
  intro pg e s m below meth c Q A ls S hP hD0 hE hA hl hret
  have hx := S.1
  have hb := S.2.1
  have hown := S.2.2.2.1
  have hts := S.2.2.2.2
  have hK := hE.1
  have hS : va_S A s.heap s.heap [] := va_S.rf
  have hDa : va_Da A [r, rc] := ⟨_, hD0, rfl⟩
  have hl : lv_has ls 4 [(0, .ref r), (1, .int (nI p)), (2, .int (nI co))] := hl
  refine lv_aload_n hx hb dX5_printsNow_0 rfl (lv_at hl 0 rfl) ?_
  refine lv_iload_n hx hb dX5_printsNow_1 rfl (lv_at hl 1 rfl) ?_
  refine lv_bipush (v := nI 8) hx hb dX5_printsNow_2 (by decide) ?_
  refine lv_iload_n hx hb dX5_printsNow_4 rfl (lv_at hl 2 rfl) ?_
  refine rn_add (a := 8) (b := co) hx hb dX5_printsNow_5 ?_
  refine rwV2 (rest := []) S (c_X3_readShot l E r rc f p (8 + co) hp (by omega)) cd_X3_readShot bw_284 ⟨Nat.le_of_ble_eq_true rfl, Nat.le_of_ble_eq_true rfl⟩ ⟨Nat.zero_le _, Nat.zero_le _⟩ hP (hDa.to rfl) hE hA hS [0, 1] rfl rfl [r, rc] rfl rfl (ci := 2) rfl (q0 := 0) rfl (Nat.le_of_ble_eq_true rfl) hl.1 dX5_printsNow_6 (fun H locs hP _ hS => ?_)
  have hP : va_P E.1 vwCl [(r, .inr (2, [.ref rc])), (rc, .inl (E.2.1, 293, .inl f))] H := hP
  refine lv_istore_n (lv' := [(3, .int (f (13 + 14 * p + (8 + co)))), (0, .ref r), (1, .int (nI p)), (2, .int (nI co))]) hx hb dX5_printsNow_9 rfl hl (by decide) rfl (fun ls hl => ?_)
  refine lv_aload_n hx hb dX5_printsNow_10 rfl (lv_at hl 1 rfl) ?_
  refine lv_iload_n hx hb dX5_printsNow_11 rfl (lv_at hl 2 rfl) ?_
  refine lv_iload_n hx hb dX5_printsNow_12 rfl (lv_at hl 3 rfl) ?_
  refine lv_iload_n hx hb dX5_printsNow_13 rfl (lv_at hl 0 rfl) ?_
  refine lv_aload_n hx hb dX5_printsNow_14 rfl (lv_at hl 1 rfl) ?_
  refine lv_bipush (v := nI 7) hx hb dX5_printsNow_15 (by decide) ?_
  refine lv_iload_n hx hb dX5_printsNow_17 rfl (lv_at hl 3 rfl) ?_
  refine rn_add (a := 7) (b := co) hx hb dX5_printsNow_18 ?_
  refine rwV1 (rest := [.int (f (13 + 14 * p + (8 + co))), .int (nI co), .int (nI p), .ref r]) S (c_X3_read l E r rc f (7 + co) (by omega)) cd_X3_read bw_310 ⟨Nat.le_of_ble_eq_true rfl, Nat.le_of_ble_eq_true rfl⟩ ⟨Nat.zero_le _, Nat.zero_le _⟩ hP (hDa.to rfl) hE hA hS [0, 1] rfl rfl [r, rc] rfl rfl (ci := 2) rfl (q0 := 0) rfl (Nat.le_of_ble_eq_true rfl) hl.1 dX5_printsNow_19 (fun H locs hP _ hS => ?_)
  have hP : va_P E.1 vwCl [(r, .inr (2, [.ref rc])), (rc, .inl (E.2.1, 293, .inl f))] H := hP
  refine rwS5 (rest := []) S (c_X5_printsWith l E r rc f p co (f (13 + 14 * p + (8 + co))) (f (7 + co)) hp hco) cd_X5_printsWith bw_292 ⟨Nat.le_of_ble_eq_true rfl, Nat.le_of_ble_eq_true rfl⟩ ⟨Nat.zero_le _, Nat.zero_le _⟩ hP (hDa.to rfl) hE hA hS [0, 1] rfl rfl [r, rc] rfl rfl (Nat.le_of_ble_eq_true rfl) hl.1 dX5_printsNow_22 (fun H locs hP _ hS => ?_)
  have hP : va_P E.1 vwCl [(r, .inr (2, [.ref rc])), (rc, .inl (E.2.1, 293, .inl f))] H := hP
  exact hret _ _ _ _ _ _ (by rw [cPn]) rfl rfl hP hS dX5_printsNow_25

theorem cd_X5_offWith : cdS yX5_offWith cX5_offWith 6 (some .int) 4 := ⟨⟨bw_291, bw_9, by decide, by decide, by decide +kernel⟩, bw_290⟩
def cOf (f : Nat → Int32) (p : Nat) (co : Nat) (tr : Int32) : Int32 := cPr f p co (f (13 + 14 * p + (8 + co))) tr - (nI 25) - (f (13 + 14 * p + (5 + co)))
set_option maxHeartbeats 4000000 in
set_option maxRecDepth 100000 in
theorem c_X5_offWith (l : Launch) (E : EV) (r : Nat) (rc : Nat) (f : Nat → Int32) (p : Nat) (co : Nat) (tr : Int32) (hp : p < 20) (hco : co < 3) : rcI l E yX5_offWith cX5_offWith 6 .int 2 [.ref r, .int (nI p), .int (nI co), .int tr] [(r, .inr (2, [.ref rc])), (rc, .inl (E.2.1, 293, .inl f))] (cOf f p co tr) [(r, .inr (2, [.ref rc])), (rc, .inl (E.2.1, 293, .inl f))] := by
  refine rcI_of (by decide) (Nat.le_of_ble_eq_true rfl) ?_
  intro pg e s m below meth c Q A ls S hP hD0 hE hA hl hret
  have hx := S.1
  have hb := S.2.1
  have hown := S.2.2.2.1
  have hts := S.2.2.2.2
  have hK := hE.1
  have hS : va_S A s.heap s.heap [] := va_S.rf
  have hDa : va_Da A [r, rc] := ⟨_, hD0, rfl⟩
  have hl : lv_has ls 6 [(0, .ref r), (1, .int (nI p)), (2, .int (nI co)), (3, .int tr)] := hl
  refine lv_aload_n hx hb dX5_offWith_0 rfl (lv_at hl 0 rfl) ?_
  refine lv_iload_n hx hb dX5_offWith_1 rfl (lv_at hl 1 rfl) ?_
  refine lv_bipush (v := nI 8) hx hb dX5_offWith_2 (by decide) ?_
  refine lv_iload_n hx hb dX5_offWith_4 rfl (lv_at hl 2 rfl) ?_
  refine rn_add (a := 8) (b := co) hx hb dX5_offWith_5 ?_
  refine rwV2 (rest := []) S (c_X3_readShot l E r rc f p (8 + co) hp (by omega)) cd_X3_readShot bw_284 ⟨Nat.le_of_ble_eq_true rfl, Nat.le_of_ble_eq_true rfl⟩ ⟨Nat.zero_le _, Nat.zero_le _⟩ hP (hDa.to rfl) hE hA hS [0, 1] rfl rfl [r, rc] rfl rfl (ci := 2) rfl (q0 := 0) rfl (Nat.le_of_ble_eq_true rfl) hl.1 dX5_offWith_6 (fun H locs hP _ hS => ?_)
  have hP : va_P E.1 vwCl [(r, .inr (2, [.ref rc])), (rc, .inl (E.2.1, 293, .inl f))] H := hP
  refine lv_istore (lv' := [(4, .int (f (13 + 14 * p + (8 + co)))), (0, .ref r), (1, .int (nI p)), (2, .int (nI co)), (3, .int tr)]) hx hb dX5_offWith_9 hl (by decide) rfl (fun ls hl => ?_)
  refine lv_aload_n hx hb dX5_offWith_11 rfl (lv_at hl 1 rfl) ?_
  refine lv_iload_n hx hb dX5_offWith_12 rfl (lv_at hl 2 rfl) ?_
  refine lv_iconst (v := nI 5) hx hb dX5_offWith_13 (by decide) ?_
  refine lv_iload_n hx hb dX5_offWith_14 rfl (lv_at hl 3 rfl) ?_
  refine rn_add (a := 5) (b := co) hx hb dX5_offWith_15 ?_
  refine rwV2 (rest := []) S (c_X3_readShot l E r rc f p (5 + co) hp (by omega)) cd_X3_readShot bw_284 ⟨Nat.le_of_ble_eq_true rfl, Nat.le_of_ble_eq_true rfl⟩ ⟨Nat.zero_le _, Nat.zero_le _⟩ hP (hDa.to rfl) hE hA hS [0, 1] rfl rfl [r, rc] rfl rfl (ci := 2) rfl (q0 := 0) rfl (Nat.le_of_ble_eq_true rfl) hl.1 dX5_offWith_16 (fun H locs hP _ hS => ?_)
  have hP : va_P E.1 vwCl [(r, .inr (2, [.ref rc])), (rc, .inl (E.2.1, 293, .inl f))] H := hP
  refine lv_istore (lv' := [(5, .int (f (13 + 14 * p + (5 + co)))), (4, .int (f (13 + 14 * p + (8 + co)))), (0, .ref r), (1, .int (nI p)), (2, .int (nI co)), (3, .int tr)]) hx hb dX5_offWith_19 hl (by decide) rfl (fun ls hl => ?_)
  refine lv_aload_n hx hb dX5_offWith_21 rfl (lv_at hl 2 rfl) ?_
  refine lv_iload_n hx hb dX5_offWith_22 rfl (lv_at hl 3 rfl) ?_
  refine lv_iload_n hx hb dX5_offWith_23 rfl (lv_at hl 4 rfl) ?_
  refine lv_iload hx hb dX5_offWith_24 (lv_at hl 1 rfl) ?_
  refine lv_iload_n hx hb dX5_offWith_26 rfl (lv_at hl 5 rfl) ?_
  refine rwS5 (rest := []) S (c_X5_printsWith l E r rc f p co (f (13 + 14 * p + (8 + co))) tr hp hco) cd_X5_printsWith bw_292 ⟨Nat.le_of_ble_eq_true rfl, Nat.le_of_ble_eq_true rfl⟩ ⟨Nat.zero_le _, Nat.zero_le _⟩ hP (hDa.to rfl) hE hA hS [0, 1] rfl rfl [r, rc] rfl rfl (Nat.le_of_ble_eq_true rfl) hl.1 dX5_offWith_27 (fun H locs hP _ hS => ?_)
  have hP : va_P E.1 vwCl [(r, .inr (2, [.ref rc])), (rc, .inl (E.2.1, 293, .inl f))] H := hP
  refine lv_bipush (v := nI 25) hx hb dX5_offWith_30 (by decide) ?_
  refine lv_isub hx hb dX5_offWith_32 ?_
  refine lv_iload hx hb dX5_offWith_33 (lv_at hl 0 rfl) ?_
  refine lv_isub hx hb dX5_offWith_35 ?_
  exact hret _ _ _ _ _ _ (by rw [cOf]) rfl rfl hP hS dX5_offWith_36

theorem cd_X5_offNow : cdS yX5_offNow cX5_offNow 3 (some .int) 3 := ⟨⟨bw_491, bw_9, by decide, by decide, by decide +kernel⟩, bw_490⟩
def cOn (f : Nat → Int32) (p : Nat) (co : Nat) : Int32 := cOf f p co (f (7 + co))
set_option maxHeartbeats 4000000 in
set_option maxRecDepth 100000 in
theorem c_X5_offNow (l : Launch) (E : EV) (r : Nat) (rc : Nat) (f : Nat → Int32) (p : Nat) (co : Nat) (hp : p < 20) (hco : co < 3) : rcI l E yX5_offNow cX5_offNow 3 .int 3 [.ref r, .int (nI p), .int (nI co)] [(r, .inr (2, [.ref rc])), (rc, .inl (E.2.1, 293, .inl f))] (cOn f p co) [(r, .inr (2, [.ref rc])), (rc, .inl (E.2.1, 293, .inl f))] := by
  refine rcI_of (by decide) (Nat.le_of_ble_eq_true rfl) ?_
  intro pg e s m below meth c Q A ls S hP hD0 hE hA hl hret
  have hx := S.1
  have hb := S.2.1
  have hown := S.2.2.2.1
  have hts := S.2.2.2.2
  have hK := hE.1
  have hS : va_S A s.heap s.heap [] := va_S.rf
  have hDa : va_Da A [r, rc] := ⟨_, hD0, rfl⟩
  have hl : lv_has ls 3 [(0, .ref r), (1, .int (nI p)), (2, .int (nI co))] := hl
  refine lv_aload_n hx hb dX5_offNow_0 rfl (lv_at hl 0 rfl) ?_
  refine lv_iload_n hx hb dX5_offNow_1 rfl (lv_at hl 1 rfl) ?_
  refine lv_iload_n hx hb dX5_offNow_2 rfl (lv_at hl 2 rfl) ?_
  refine lv_aload_n hx hb dX5_offNow_3 rfl (lv_at hl 0 rfl) ?_
  refine lv_bipush (v := nI 7) hx hb dX5_offNow_4 (by decide) ?_
  refine lv_iload_n hx hb dX5_offNow_6 rfl (lv_at hl 2 rfl) ?_
  refine rn_add (a := 7) (b := co) hx hb dX5_offNow_7 ?_
  refine rwV1 (rest := [.int (nI co), .int (nI p), .ref r]) S (c_X3_read l E r rc f (7 + co) (by omega)) cd_X3_read bw_310 ⟨Nat.le_of_ble_eq_true rfl, Nat.le_of_ble_eq_true rfl⟩ ⟨Nat.zero_le _, Nat.zero_le _⟩ hP (hDa.to rfl) hE hA hS [0, 1] rfl rfl [r, rc] rfl rfl (ci := 2) rfl (q0 := 0) rfl (Nat.le_of_ble_eq_true rfl) hl.1 dX5_offNow_8 (fun H locs hP _ hS => ?_)
  have hP : va_P E.1 vwCl [(r, .inr (2, [.ref rc])), (rc, .inl (E.2.1, 293, .inl f))] H := hP
  refine rwS4 (rest := []) S (c_X5_offWith l E r rc f p co (f (7 + co)) hp hco) cd_X5_offWith bw_444 ⟨Nat.le_of_ble_eq_true rfl, Nat.le_of_ble_eq_true rfl⟩ ⟨Nat.zero_le _, Nat.zero_le _⟩ hP (hDa.to rfl) hE hA hS [0, 1] rfl rfl [r, rc] rfl rfl (Nat.le_of_ble_eq_true rfl) hl.1 dX5_offNow_11 (fun H locs hP _ hS => ?_)
  have hP : va_P E.1 vwCl [(r, .inr (2, [.ref rc])), (rc, .inl (E.2.1, 293, .inl f))] H := hP
  exact hret _ _ _ _ _ _ (by rw [cOn]) rfl rfl hP hS dX5_offNow_14

def cFt (f : Nat → Int32) : Nat → Int32
  | 0 => nI 0
  | k + 1 => cFt f k + f (13 + 14 * k + 0)
theorem cd_X5_feetBefore : cdS yX5_feetBefore cX5_feetBefore 4 (some .int) 2 := ⟨⟨bw_283, bw_9, by decide, by decide, by decide +kernel⟩, bw_282⟩
set_option maxHeartbeats 4000000 in
set_option maxRecDepth 100000 in
theorem c_X5_feetBefore (l : Launch) (E : EV) (r : Nat) (rc : Nat) (f : Nat → Int32) (p : Nat) (hp : p ≤ 20) : rcI l E yX5_feetBefore cX5_feetBefore 4 .int 1 [.ref r, .int (nI p)] [(r, .inr (2, [.ref rc])), (rc, .inl (E.2.1, 293, .inl f))] (cFt f p) [(r, .inr (2, [.ref rc])), (rc, .inl (E.2.1, 293, .inl f))] := by
  refine rcI_of (by decide) (Nat.le_of_ble_eq_true rfl) ?_
  intro pg e s m below meth c Q A ls S hP hD0 hE hA hl hret
  have hx := S.1
  have hb := S.2.1
  have hown := S.2.2.2.1
  have hts := S.2.2.2.2
  have hK := hE.1
  have hS : va_S A s.heap s.heap [] := va_S.rf
  have hDa : va_Da A [r, rc] := ⟨_, hD0, rfl⟩
  have hl : lv_has ls 4 [(0, .ref r), (1, .int (nI p))] := hl
  refine lv_iconst (v := nI 0) hx hb dX5_feetBefore_0 (by decide) ?_
  refine lv_istore_n (lv' := [(2, .int (nI 0)), (0, .ref r), (1, .int (nI p))]) hx hb dX5_feetBefore_1 rfl hl (by decide) rfl (fun ls hl => ?_)
  refine lv_iconst (v := nI 0) hx hb dX5_feetBefore_2 (by decide) ?_
  refine lv_istore_n (lv' := [(3, .int (nI 0)), (2, .int (nI 0)), (0, .ref r), (1, .int (nI p))]) hx hb dX5_feetBefore_3 rfl hl (by decide) rfl (fun ls hl => ?_)
  have loop4 : ∀ (fuel : Nat) (k : Nat), p - k < fuel → (k ≤ p) → ∀ (H : Heap) (locs : List Loc), va_P E.1 vwCl [(r, .inr (2, [.ref rc])), (rc, .inl (E.2.1, 293, .inl f))] H → va_S A s.heap H locs → ∀ ls : Array Slot, lv_has ls 4 [(3, .int (nI k)), (2, .int (cFt f k)), (0, .ref r), (1, .int (nI p))] → W pg l e (rq 1) s m ([.ref r, .int (nI p)] : List Value).toArray below meth c H locs 0 0 Q (F0 m 4 ls []) := by
    intro fuel
    induction fuel with
    | zero => intro k h9; exact absurd h9 (Nat.not_lt_zero _)
    | succ fuel ih4 =>
      intro k hfu4 hk H locs hP hS ls hl
      refine lv_iload_n hx hb dX5_feetBefore_4 rfl (lv_at hl 0 rfl) ?_
      refine lv_iload_n hx hb dX5_feetBefore_5 rfl (lv_at hl 3 rfl) ?_
      refine rn_icmp_ge (a := k) (b := p) (tgt := 30) hx hb (by omega) (by omega) dX5_feetBefore_6 (by decide) (fun c_1 => ?_) (fun c_1 => ?_)
      · have hex : p = k := by omega
        subst hex
        refine lv_iload_n hx hb dX5_feetBefore_30 rfl (lv_at hl 1 rfl) ?_
        exact hret _ _ _ _ _ _ rfl rfl rfl hP hS dX5_feetBefore_31
      · refine lv_iload_n hx hb dX5_feetBefore_9 rfl (lv_at hl 0 rfl) ?_
        refine lv_bipush (v := nI 20) hx hb dX5_feetBefore_10 (by decide) ?_
        refine rn_icmp_ge (a := k) (b := 20) (tgt := 30) hx hb (by omega) (by omega) dX5_feetBefore_12 (by decide) (fun c_2 => absurd c_2 (by omega)) (fun c_2 => ?_)
        refine lv_iload_n hx hb dX5_feetBefore_15 rfl (lv_at hl 1 rfl) ?_
        refine lv_aload_n hx hb dX5_feetBefore_16 rfl (lv_at hl 2 rfl) ?_
        refine lv_iload_n hx hb dX5_feetBefore_17 rfl (lv_at hl 0 rfl) ?_
        refine lv_iconst (v := nI 0) hx hb dX5_feetBefore_18 (by decide) ?_
        refine rwV2 (rest := [.int (cFt f k)]) S (c_X3_readShot l E r rc f k 0 (by omega) (by omega)) cd_X3_readShot bw_284 ⟨Nat.le_of_ble_eq_true rfl, Nat.le_of_ble_eq_true rfl⟩ ⟨Nat.zero_le _, Nat.zero_le _⟩ hP (hDa.to rfl) hE hA hS [0, 1] rfl rfl [r, rc] rfl rfl (ci := 2) rfl (q0 := 0) rfl (Nat.le_of_ble_eq_true rfl) hl.1 dX5_feetBefore_19 (fun H locs hP _ hS => ?_)
        have hP : va_P E.1 vwCl [(r, .inr (2, [.ref rc])), (rc, .inl (E.2.1, 293, .inl f))] H := hP
        refine lv_iadd hx hb dX5_feetBefore_22 ?_
        refine lv_istore_n (lv' := [(2, .int (cFt f k + (f (13 + 14 * k + 0)))), (3, .int (nI k)), (0, .ref r), (1, .int (nI p))]) hx hb dX5_feetBefore_23 rfl hl (by decide) rfl (fun ls hl => ?_)
        refine rn_inc (a := k) (d := 1) (lv' := [(3, .int (nI (k + 1))), (2, .int (cFt f k + (f (13 + 14 * k + 0)))), (0, .ref r), (1, .int (nI p))]) hx hb dX5_feetBefore_24 hl (k := 1) rfl (by decide) (by decide) rfl (fun ls hl => ?_)
        refine lv_goto (tgt := 4) hx hb dX5_feetBefore_27 (by decide) ?_
        have hl : lv_has ls 4 [(3, .int (nI (k + 1))), (2, .int (cFt f (k + 1))), (0, .ref r), (1, .int (nI p))] := lv_sub hl [0, 1, 2, 3] rfl
        exact ih4 (k + 1) (by omega) (by omega) _ _ hP hS _ hl
  have hl : lv_has ls 4 [(3, .int (nI 0)), (2, .int (cFt f 0)), (0, .ref r), (1, .int (nI p))] := lv_sub hl [0, 1, 2, 3] rfl
  exact loop4 _ 0 (Nat.lt_succ_self _) (by omega) _ _ hP hS _ hl

theorem cd_X5_isAnswered : cdS yX5_isAnswered cX5_isAnswered 2 (some .boolean) 2 := ⟨⟨bw_309, bw_9, by decide, by decide, by decide +kernel⟩, bw_308⟩
def cAn (f : Nat → Int32) (p : Nat) : Int32 := if f (13 + 14 * p + 1) = 0 then nI 0 else nI 1
theorem cAn_z (f : Nat → Int32) (p : Nat) : narrow .boolean (.int (cAn f p)) = .int (cAn f p) := by
  unfold cAn
  repeat' split
  all_goals first | decide | rfl
set_option maxHeartbeats 4000000 in
set_option maxRecDepth 100000 in
theorem c_X5_isAnswered (l : Launch) (E : EV) (r : Nat) (rc : Nat) (f : Nat → Int32) (p : Nat) (hp : p < 20) : rcI l E yX5_isAnswered cX5_isAnswered 2 .boolean 1 [.ref r, .int (nI p)] [(r, .inr (2, [.ref rc])), (rc, .inl (E.2.1, 293, .inl f))] (cAn f p) [(r, .inr (2, [.ref rc])), (rc, .inl (E.2.1, 293, .inl f))] := by
  refine rcI_of (by decide) (Nat.le_of_ble_eq_true rfl) ?_
  intro pg e s m below meth c Q A ls S hP hD0 hE hA hl hret
  have hx := S.1
  have hb := S.2.1
  have hown := S.2.2.2.1
  have hts := S.2.2.2.2
  have hK := hE.1
  have hS : va_S A s.heap s.heap [] := va_S.rf
  have hDa : va_Da A [r, rc] := ⟨_, hD0, rfl⟩
  have hl : lv_has ls 2 [(0, .ref r), (1, .int (nI p))] := hl
  refine lv_aload_n hx hb dX5_isAnswered_0 rfl (lv_at hl 0 rfl) ?_
  refine lv_iload_n hx hb dX5_isAnswered_1 rfl (lv_at hl 1 rfl) ?_
  refine lv_iconst (v := nI 1) hx hb dX5_isAnswered_2 (by decide) ?_
  refine rwV2 (rest := []) S (c_X3_readShot l E r rc f p 1 hp (by omega)) cd_X3_readShot bw_284 ⟨Nat.le_of_ble_eq_true rfl, Nat.le_of_ble_eq_true rfl⟩ ⟨Nat.zero_le _, Nat.zero_le _⟩ hP (hDa.to rfl) hE hA hS [0, 1] rfl rfl [r, rc] rfl rfl (ci := 2) rfl (q0 := 0) rfl (Nat.le_of_ble_eq_true rfl) hl.1 dX5_isAnswered_3 (fun H locs hP _ hS => ?_)
  have hP : va_P E.1 vwCl [(r, .inr (2, [.ref rc])), (rc, .inl (E.2.1, 293, .inl f))] H := hP
  refine lv_if_eq (tgt := 13) hx hb dX5_isAnswered_6 (by decide) (fun c_1 => ?_) (fun c_1 => ?_)
  · refine lv_iconst (v := nI 0) hx hb dX5_isAnswered_13 (by decide) ?_
    exact hret _ _ _ _ _ _ (by rw [cAn, if_pos c_1]) rfl (by decide) hP hS dX5_isAnswered_14
  · refine lv_iconst (v := nI 1) hx hb dX5_isAnswered_9 (by decide) ?_
    refine lv_goto (tgt := 14) hx hb dX5_isAnswered_10 (by decide) ?_
    exact hret _ _ _ _ _ _ (by rw [cAn, if_neg c_1]) rfl (by decide) hP hS dX5_isAnswered_14

theorem cd_X5_isBad : cdS yX5_isBad cX5_isBad 4 (some .boolean) 2 := ⟨⟨bw_304, bw_9, by decide, by decide, by decide +kernel⟩, bw_303⟩
def cBa (f : Nat → Int32) (p : Nat) : Int32 := if cAn f p = 0 then nI 0 else if imax (imax (imax (nI 0) (iabs (f (13 + 14 * p + 11)))) (iabs (f (13 + 14 * p + 12)))) (iabs (f (13 + 14 * p + 13))) ≤ f 1 then nI 0 else nI 1
theorem cBa_z (f : Nat → Int32) (p : Nat) : narrow .boolean (.int (cBa f p)) = .int (cBa f p) := by
  unfold cBa
  repeat' split
  all_goals first | decide | rfl
set_option maxHeartbeats 4000000 in
set_option maxRecDepth 100000 in
theorem c_X5_isBad (l : Launch) (E : EV) (r : Nat) (rc : Nat) (f : Nat → Int32) (p : Nat) (hp : p < 20) : rcI l E yX5_isBad cX5_isBad 4 .boolean 2 [.ref r, .int (nI p)] [(r, .inr (2, [.ref rc])), (rc, .inl (E.2.1, 293, .inl f))] (cBa f p) [(r, .inr (2, [.ref rc])), (rc, .inl (E.2.1, 293, .inl f))] := by
  refine rcI_of (by decide) (Nat.le_of_ble_eq_true rfl) ?_
  intro pg e s m below meth c Q A ls S hP hD0 hE hA hl hret
  have hx := S.1
  have hb := S.2.1
  have hown := S.2.2.2.1
  have hts := S.2.2.2.2
  have hK := hE.1
  have hS : va_S A s.heap s.heap [] := va_S.rf
  have hDa : va_Da A [r, rc] := ⟨_, hD0, rfl⟩
  have hl : lv_has ls 4 [(0, .ref r), (1, .int (nI p))] := hl
  refine lv_iconst (v := nI 0) hx hb dX5_isBad_0 (by decide) ?_
  refine lv_istore_n (lv' := [(2, .int (nI 0)), (0, .ref r), (1, .int (nI p))]) hx hb dX5_isBad_1 rfl hl (by decide) rfl (fun ls hl => ?_)
  refine lv_iconst (v := nI 0) hx hb dX5_isBad_2 (by decide) ?_
  refine lv_istore_n (lv' := [(3, .int (nI 0)), (2, .int (nI 0)), (0, .ref r), (1, .int (nI p))]) hx hb dX5_isBad_3 rfl hl (by decide) rfl (fun ls hl => ?_)
  refine lv_iload_n hx hb dX5_isBad_4 rfl (lv_at hl 0 rfl) ?_
  refine lv_iconst (v := nI 3) hx hb dX5_isBad_5 (by decide) ?_
  refine rn_icmp_ge (a := 0) (b := 3) (tgt := 32) hx hb (by omega) (by omega) dX5_isBad_6 (by decide) (fun c_1 => absurd c_1 (by omega)) (fun c_1 => ?_)
  refine lv_iload_n hx hb dX5_isBad_9 rfl (lv_at hl 1 rfl) ?_
  refine lv_aload_n hx hb dX5_isBad_10 rfl (lv_at hl 2 rfl) ?_
  refine lv_iload_n hx hb dX5_isBad_11 rfl (lv_at hl 3 rfl) ?_
  refine lv_bipush (v := nI 11) hx hb dX5_isBad_12 (by decide) ?_
  refine lv_iload_n hx hb dX5_isBad_14 rfl (lv_at hl 0 rfl) ?_
  refine rn_add (a := 11) (b := 0) hx hb dX5_isBad_15 ?_
  refine rwV2 (rest := [.int (nI 0)]) S (c_X3_readShot l E r rc f p 11 hp (by omega)) cd_X3_readShot bw_284 ⟨Nat.le_of_ble_eq_true rfl, Nat.le_of_ble_eq_true rfl⟩ ⟨Nat.zero_le _, Nat.zero_le _⟩ hP (hDa.to rfl) hE hA hS [0, 1] rfl rfl [r, rc] rfl rfl (ci := 2) rfl (q0 := 0) rfl (Nat.le_of_ble_eq_true rfl) hl.1 dX5_isBad_16 (fun H locs hP _ hS => ?_)
  have hP : va_P E.1 vwCl [(r, .inr (2, [.ref rc])), (rc, .inl (E.2.1, 293, .inl f))] H := hP
  refine rw_abs (rest := [.int (nI 0)]) S hl.1 bw_305 ⟨Nat.le_of_ble_eq_true rfl, Nat.le_of_ble_eq_true rfl⟩ (Nat.le_of_ble_eq_true rfl) ⟨Nat.zero_le _, Nat.zero_le _⟩ dX5_isBad_19 ?_
  refine rw_max (rest := []) S hl.1 bw_306 ⟨Nat.le_of_ble_eq_true rfl, Nat.le_of_ble_eq_true rfl⟩ (Nat.le_of_ble_eq_true rfl) ⟨Nat.zero_le _, Nat.zero_le _⟩ dX5_isBad_22 ?_
  refine lv_istore_n (lv' := [(2, .int (imax (nI 0) (iabs (f (13 + 14 * p + 11))))), (3, .int (nI 0)), (0, .ref r), (1, .int (nI p))]) hx hb dX5_isBad_25 rfl hl (by decide) rfl (fun ls hl => ?_)
  refine rn_inc (a := 0) (d := 1) (lv' := [(3, .int (nI 1)), (2, .int (imax (nI 0) (iabs (f (13 + 14 * p + 11))))), (0, .ref r), (1, .int (nI p))]) hx hb dX5_isBad_26 hl (k := 1) rfl (by decide) (by decide) rfl (fun ls hl => ?_)
  refine lv_goto (tgt := 4) hx hb dX5_isBad_29 (by decide) ?_
  refine lv_iload_n hx hb dX5_isBad_4 rfl (lv_at hl 0 rfl) ?_
  refine lv_iconst (v := nI 3) hx hb dX5_isBad_5 (by decide) ?_
  refine rn_icmp_ge (a := 1) (b := 3) (tgt := 32) hx hb (by omega) (by omega) dX5_isBad_6 (by decide) (fun c_2 => absurd c_2 (by omega)) (fun c_2 => ?_)
  refine lv_iload_n hx hb dX5_isBad_9 rfl (lv_at hl 1 rfl) ?_
  refine lv_aload_n hx hb dX5_isBad_10 rfl (lv_at hl 2 rfl) ?_
  refine lv_iload_n hx hb dX5_isBad_11 rfl (lv_at hl 3 rfl) ?_
  refine lv_bipush (v := nI 11) hx hb dX5_isBad_12 (by decide) ?_
  refine lv_iload_n hx hb dX5_isBad_14 rfl (lv_at hl 0 rfl) ?_
  refine rn_add (a := 11) (b := 1) hx hb dX5_isBad_15 ?_
  refine rwV2 (rest := [.int (imax (nI 0) (iabs (f (13 + 14 * p + 11))))]) S (c_X3_readShot l E r rc f p 12 hp (by omega)) cd_X3_readShot bw_284 ⟨Nat.le_of_ble_eq_true rfl, Nat.le_of_ble_eq_true rfl⟩ ⟨Nat.zero_le _, Nat.zero_le _⟩ hP (hDa.to rfl) hE hA hS [0, 1] rfl rfl [r, rc] rfl rfl (ci := 2) rfl (q0 := 0) rfl (Nat.le_of_ble_eq_true rfl) hl.1 dX5_isBad_16 (fun H locs hP _ hS => ?_)
  have hP : va_P E.1 vwCl [(r, .inr (2, [.ref rc])), (rc, .inl (E.2.1, 293, .inl f))] H := hP
  refine rw_abs (rest := [.int (imax (nI 0) (iabs (f (13 + 14 * p + 11))))]) S hl.1 bw_305 ⟨Nat.le_of_ble_eq_true rfl, Nat.le_of_ble_eq_true rfl⟩ (Nat.le_of_ble_eq_true rfl) ⟨Nat.zero_le _, Nat.zero_le _⟩ dX5_isBad_19 ?_
  refine rw_max (rest := []) S hl.1 bw_306 ⟨Nat.le_of_ble_eq_true rfl, Nat.le_of_ble_eq_true rfl⟩ (Nat.le_of_ble_eq_true rfl) ⟨Nat.zero_le _, Nat.zero_le _⟩ dX5_isBad_22 ?_
  refine lv_istore_n (lv' := [(2, .int (imax (imax (nI 0) (iabs (f (13 + 14 * p + 11)))) (iabs (f (13 + 14 * p + 12))))), (3, .int (nI 1)), (0, .ref r), (1, .int (nI p))]) hx hb dX5_isBad_25 rfl hl (by decide) rfl (fun ls hl => ?_)
  refine rn_inc (a := 1) (d := 1) (lv' := [(3, .int (nI 2)), (2, .int (imax (imax (nI 0) (iabs (f (13 + 14 * p + 11)))) (iabs (f (13 + 14 * p + 12))))), (0, .ref r), (1, .int (nI p))]) hx hb dX5_isBad_26 hl (k := 1) rfl (by decide) (by decide) rfl (fun ls hl => ?_)
  refine lv_goto (tgt := 4) hx hb dX5_isBad_29 (by decide) ?_
  refine lv_iload_n hx hb dX5_isBad_4 rfl (lv_at hl 0 rfl) ?_
  refine lv_iconst (v := nI 3) hx hb dX5_isBad_5 (by decide) ?_
  refine rn_icmp_ge (a := 2) (b := 3) (tgt := 32) hx hb (by omega) (by omega) dX5_isBad_6 (by decide) (fun c_3 => absurd c_3 (by omega)) (fun c_3 => ?_)
  refine lv_iload_n hx hb dX5_isBad_9 rfl (lv_at hl 1 rfl) ?_
  refine lv_aload_n hx hb dX5_isBad_10 rfl (lv_at hl 2 rfl) ?_
  refine lv_iload_n hx hb dX5_isBad_11 rfl (lv_at hl 3 rfl) ?_
  refine lv_bipush (v := nI 11) hx hb dX5_isBad_12 (by decide) ?_
  refine lv_iload_n hx hb dX5_isBad_14 rfl (lv_at hl 0 rfl) ?_
  refine rn_add (a := 11) (b := 2) hx hb dX5_isBad_15 ?_
  refine rwV2 (rest := [.int (imax (imax (nI 0) (iabs (f (13 + 14 * p + 11)))) (iabs (f (13 + 14 * p + 12))))]) S (c_X3_readShot l E r rc f p 13 hp (by omega)) cd_X3_readShot bw_284 ⟨Nat.le_of_ble_eq_true rfl, Nat.le_of_ble_eq_true rfl⟩ ⟨Nat.zero_le _, Nat.zero_le _⟩ hP (hDa.to rfl) hE hA hS [0, 1] rfl rfl [r, rc] rfl rfl (ci := 2) rfl (q0 := 0) rfl (Nat.le_of_ble_eq_true rfl) hl.1 dX5_isBad_16 (fun H locs hP _ hS => ?_)
  have hP : va_P E.1 vwCl [(r, .inr (2, [.ref rc])), (rc, .inl (E.2.1, 293, .inl f))] H := hP
  refine rw_abs (rest := [.int (imax (imax (nI 0) (iabs (f (13 + 14 * p + 11)))) (iabs (f (13 + 14 * p + 12))))]) S hl.1 bw_305 ⟨Nat.le_of_ble_eq_true rfl, Nat.le_of_ble_eq_true rfl⟩ (Nat.le_of_ble_eq_true rfl) ⟨Nat.zero_le _, Nat.zero_le _⟩ dX5_isBad_19 ?_
  refine rw_max (rest := []) S hl.1 bw_306 ⟨Nat.le_of_ble_eq_true rfl, Nat.le_of_ble_eq_true rfl⟩ (Nat.le_of_ble_eq_true rfl) ⟨Nat.zero_le _, Nat.zero_le _⟩ dX5_isBad_22 ?_
  refine lv_istore_n (lv' := [(2, .int (imax (imax (imax (nI 0) (iabs (f (13 + 14 * p + 11)))) (iabs (f (13 + 14 * p + 12)))) (iabs (f (13 + 14 * p + 13))))), (3, .int (nI 2)), (0, .ref r), (1, .int (nI p))]) hx hb dX5_isBad_25 rfl hl (by decide) rfl (fun ls hl => ?_)
  refine rn_inc (a := 2) (d := 1) (lv' := [(3, .int (nI 3)), (2, .int (imax (imax (imax (nI 0) (iabs (f (13 + 14 * p + 11)))) (iabs (f (13 + 14 * p + 12)))) (iabs (f (13 + 14 * p + 13))))), (0, .ref r), (1, .int (nI p))]) hx hb dX5_isBad_26 hl (k := 1) rfl (by decide) (by decide) rfl (fun ls hl => ?_)
  refine lv_goto (tgt := 4) hx hb dX5_isBad_29 (by decide) ?_
  refine lv_iload_n hx hb dX5_isBad_4 rfl (lv_at hl 0 rfl) ?_
  refine lv_iconst (v := nI 3) hx hb dX5_isBad_5 (by decide) ?_
  refine rn_icmp_ge (a := 3) (b := 3) (tgt := 32) hx hb (by omega) (by omega) dX5_isBad_6 (by decide) (fun c_4 => ?_) (fun c_4 => absurd c_4 (by omega))
  refine lv_aload_n hx hb dX5_isBad_32 rfl (lv_at hl 2 rfl) ?_
  refine lv_iload_n hx hb dX5_isBad_33 rfl (lv_at hl 3 rfl) ?_
  refine rwS2 (rest := []) S (c_X5_isAnswered l E r rc f p hp) cd_X5_isAnswered bw_307 ⟨Nat.le_of_ble_eq_true rfl, Nat.le_of_ble_eq_true rfl⟩ ⟨Nat.zero_le _, Nat.zero_le _⟩ hP (hDa.to rfl) hE hA hS [0, 1] rfl rfl [r, rc] rfl rfl (Nat.le_of_ble_eq_true rfl) hl.1 dX5_isBad_34 (fun H locs hP _ hS => ?_)
  have hP : va_P E.1 vwCl [(r, .inr (2, [.ref rc])), (rc, .inl (E.2.1, 293, .inl f))] H := hP
  refine lv_if_eq (tgt := 53) hx hb dX5_isBad_37 (by decide) (fun c_5 => ?_) (fun c_5 => ?_)
  · refine lv_iconst (v := nI 0) hx hb dX5_isBad_53 (by decide) ?_
    exact hret _ _ _ _ _ _ (by rw [cBa, if_pos c_5]) rfl (by decide) hP hS dX5_isBad_54
  · refine lv_iload_n hx hb dX5_isBad_40 rfl (lv_at hl 1 rfl) ?_
    refine lv_aload_n hx hb dX5_isBad_41 rfl (lv_at hl 2 rfl) ?_
    refine lv_iconst (v := nI 1) hx hb dX5_isBad_42 (by decide) ?_
    refine rwV1 (rest := [.int (imax (imax (imax (nI 0) (iabs (f (13 + 14 * p + 11)))) (iabs (f (13 + 14 * p + 12)))) (iabs (f (13 + 14 * p + 13))))]) S (c_X3_read l E r rc f 1 (by omega)) cd_X3_read bw_310 ⟨Nat.le_of_ble_eq_true rfl, Nat.le_of_ble_eq_true rfl⟩ ⟨Nat.zero_le _, Nat.zero_le _⟩ hP (hDa.to rfl) hE hA hS [0, 1] rfl rfl [r, rc] rfl rfl (ci := 2) rfl (q0 := 0) rfl (Nat.le_of_ble_eq_true rfl) hl.1 dX5_isBad_43 (fun H locs hP _ hS => ?_)
    have hP : va_P E.1 vwCl [(r, .inr (2, [.ref rc])), (rc, .inl (E.2.1, 293, .inl f))] H := hP
    refine lv_icmp_le (tgt := 53) hx hb dX5_isBad_46 (by decide) (fun c_6 => ?_) (fun c_6 => ?_)
    · refine lv_iconst (v := nI 0) hx hb dX5_isBad_53 (by decide) ?_
      exact hret _ _ _ _ _ _ (by rw [cBa, if_neg c_5, if_pos c_6]) rfl (by decide) hP hS dX5_isBad_54
    · refine lv_iconst (v := nI 1) hx hb dX5_isBad_49 (by decide) ?_
      refine lv_goto (tgt := 54) hx hb dX5_isBad_50 (by decide) ?_
      exact hret _ _ _ _ _ _ (by rw [cBa, if_neg c_5, if_neg c_6]) rfl (by decide) hP hS dX5_isBad_54

theorem cd_X5_isOff : cdS yX5_isOff cX5_isOff 5 (some .boolean) 2 := ⟨⟨bw_443, bw_9, by decide, by decide, by decide +kernel⟩, bw_442⟩
def cOo (f : Nat → Int32) (p : Nat) : Int32 := if imax (imax (imax (nI 0) (iabs (cOf f p 0 (f 7)))) (iabs (cOf f p 1 (f 8)))) (iabs (cOf f p 2 (f 9))) ≤ f 1 then nI 0 else nI 1
theorem cOo_z (f : Nat → Int32) (p : Nat) : narrow .boolean (.int (cOo f p)) = .int (cOo f p) := by
  unfold cOo
  repeat' split
  all_goals first | decide | rfl
set_option maxHeartbeats 4000000 in
set_option maxRecDepth 100000 in
theorem c_X5_isOff (l : Launch) (E : EV) (r : Nat) (rc : Nat) (f : Nat → Int32) (p : Nat) (hp : p < 20) : rcI l E yX5_isOff cX5_isOff 5 .boolean 3 [.ref r, .int (nI p)] [(r, .inr (2, [.ref rc])), (rc, .inl (E.2.1, 293, .inl f))] (cOo f p) [(r, .inr (2, [.ref rc])), (rc, .inl (E.2.1, 293, .inl f))] := by
  refine rcI_of (by decide) (Nat.le_of_ble_eq_true rfl) ?_
  intro pg e s m below meth c Q A ls S hP hD0 hE hA hl hret
  have hx := S.1
  have hb := S.2.1
  have hown := S.2.2.2.1
  have hts := S.2.2.2.2
  have hK := hE.1
  have hS : va_S A s.heap s.heap [] := va_S.rf
  have hDa : va_Da A [r, rc] := ⟨_, hD0, rfl⟩
  have hl : lv_has ls 5 [(0, .ref r), (1, .int (nI p))] := hl
  refine lv_iconst (v := nI 0) hx hb dX5_isOff_0 (by decide) ?_
  refine lv_istore_n (lv' := [(2, .int (nI 0)), (0, .ref r), (1, .int (nI p))]) hx hb dX5_isOff_1 rfl hl (by decide) rfl (fun ls hl => ?_)
  refine lv_iconst (v := nI 0) hx hb dX5_isOff_2 (by decide) ?_
  refine lv_istore_n (lv' := [(3, .int (nI 0)), (2, .int (nI 0)), (0, .ref r), (1, .int (nI p))]) hx hb dX5_isOff_3 rfl hl (by decide) rfl (fun ls hl => ?_)
  refine lv_iload_n hx hb dX5_isOff_4 rfl (lv_at hl 0 rfl) ?_
  refine lv_iconst (v := nI 3) hx hb dX5_isOff_5 (by decide) ?_
  refine rn_icmp_ge (a := 0) (b := 3) (tgt := 41) hx hb (by omega) (by omega) dX5_isOff_6 (by decide) (fun c_1 => absurd c_1 (by omega)) (fun c_1 => ?_)
  refine lv_aload_n hx hb dX5_isOff_9 rfl (lv_at hl 2 rfl) ?_
  refine lv_bipush (v := nI 7) hx hb dX5_isOff_10 (by decide) ?_
  refine lv_iload_n hx hb dX5_isOff_12 rfl (lv_at hl 0 rfl) ?_
  refine rn_add (a := 7) (b := 0) hx hb dX5_isOff_13 ?_
  refine rwV1 (rest := []) S (c_X3_read l E r rc f 7 (by omega)) cd_X3_read bw_310 ⟨Nat.le_of_ble_eq_true rfl, Nat.le_of_ble_eq_true rfl⟩ ⟨Nat.zero_le _, Nat.zero_le _⟩ hP (hDa.to rfl) hE hA hS [0, 1] rfl rfl [r, rc] rfl rfl (ci := 2) rfl (q0 := 0) rfl (Nat.le_of_ble_eq_true rfl) hl.1 dX5_isOff_14 (fun H locs hP _ hS => ?_)
  have hP : va_P E.1 vwCl [(r, .inr (2, [.ref rc])), (rc, .inl (E.2.1, 293, .inl f))] H := hP
  refine lv_istore (lv' := [(4, .int (f 7)), (3, .int (nI 0)), (2, .int (nI 0)), (0, .ref r), (1, .int (nI p))]) hx hb dX5_isOff_17 hl (by decide) rfl (fun ls hl => ?_)
  refine lv_iload_n hx hb dX5_isOff_19 rfl (lv_at hl 2 rfl) ?_
  refine lv_aload_n hx hb dX5_isOff_20 rfl (lv_at hl 3 rfl) ?_
  refine lv_iload_n hx hb dX5_isOff_21 rfl (lv_at hl 4 rfl) ?_
  refine lv_iload_n hx hb dX5_isOff_22 rfl (lv_at hl 1 rfl) ?_
  refine lv_iload hx hb dX5_isOff_23 (lv_at hl 0 rfl) ?_
  refine rwS4 (rest := [.int (nI 0)]) S (c_X5_offWith l E r rc f p 0 (f 7) hp (by omega)) cd_X5_offWith bw_444 ⟨Nat.le_of_ble_eq_true rfl, Nat.le_of_ble_eq_true rfl⟩ ⟨Nat.zero_le _, Nat.zero_le _⟩ hP (hDa.to rfl) hE hA hS [0, 1] rfl rfl [r, rc] rfl rfl (Nat.le_of_ble_eq_true rfl) hl.1 dX5_isOff_25 (fun H locs hP _ hS => ?_)
  have hP : va_P E.1 vwCl [(r, .inr (2, [.ref rc])), (rc, .inl (E.2.1, 293, .inl f))] H := hP
  refine rw_abs (rest := [.int (nI 0)]) S hl.1 bw_305 ⟨Nat.le_of_ble_eq_true rfl, Nat.le_of_ble_eq_true rfl⟩ (Nat.le_of_ble_eq_true rfl) ⟨Nat.zero_le _, Nat.zero_le _⟩ dX5_isOff_28 ?_
  refine rw_max (rest := []) S hl.1 bw_306 ⟨Nat.le_of_ble_eq_true rfl, Nat.le_of_ble_eq_true rfl⟩ (Nat.le_of_ble_eq_true rfl) ⟨Nat.zero_le _, Nat.zero_le _⟩ dX5_isOff_31 ?_
  refine lv_istore_n (lv' := [(2, .int (imax (nI 0) (iabs (cOf f p 0 (f 7))))), (4, .int (f 7)), (3, .int (nI 0)), (0, .ref r), (1, .int (nI p))]) hx hb dX5_isOff_34 rfl hl (by decide) rfl (fun ls hl => ?_)
  refine rn_inc (a := 0) (d := 1) (lv' := [(3, .int (nI 1)), (2, .int (imax (nI 0) (iabs (cOf f p 0 (f 7))))), (4, .int (f 7)), (0, .ref r), (1, .int (nI p))]) hx hb dX5_isOff_35 hl (k := 2) rfl (by decide) (by decide) rfl (fun ls hl => ?_)
  refine lv_goto (tgt := 4) hx hb dX5_isOff_38 (by decide) ?_
  refine lv_iload_n hx hb dX5_isOff_4 rfl (lv_at hl 0 rfl) ?_
  refine lv_iconst (v := nI 3) hx hb dX5_isOff_5 (by decide) ?_
  refine rn_icmp_ge (a := 1) (b := 3) (tgt := 41) hx hb (by omega) (by omega) dX5_isOff_6 (by decide) (fun c_2 => absurd c_2 (by omega)) (fun c_2 => ?_)
  refine lv_aload_n hx hb dX5_isOff_9 rfl (lv_at hl 3 rfl) ?_
  refine lv_bipush (v := nI 7) hx hb dX5_isOff_10 (by decide) ?_
  refine lv_iload_n hx hb dX5_isOff_12 rfl (lv_at hl 0 rfl) ?_
  refine rn_add (a := 7) (b := 1) hx hb dX5_isOff_13 ?_
  refine rwV1 (rest := []) S (c_X3_read l E r rc f 8 (by omega)) cd_X3_read bw_310 ⟨Nat.le_of_ble_eq_true rfl, Nat.le_of_ble_eq_true rfl⟩ ⟨Nat.zero_le _, Nat.zero_le _⟩ hP (hDa.to rfl) hE hA hS [0, 1] rfl rfl [r, rc] rfl rfl (ci := 2) rfl (q0 := 0) rfl (Nat.le_of_ble_eq_true rfl) hl.1 dX5_isOff_14 (fun H locs hP _ hS => ?_)
  have hP : va_P E.1 vwCl [(r, .inr (2, [.ref rc])), (rc, .inl (E.2.1, 293, .inl f))] H := hP
  refine lv_istore (lv' := [(4, .int (f 8)), (3, .int (nI 1)), (2, .int (imax (nI 0) (iabs (cOf f p 0 (f 7))))), (0, .ref r), (1, .int (nI p))]) hx hb dX5_isOff_17 hl (by decide) rfl (fun ls hl => ?_)
  refine lv_iload_n hx hb dX5_isOff_19 rfl (lv_at hl 2 rfl) ?_
  refine lv_aload_n hx hb dX5_isOff_20 rfl (lv_at hl 3 rfl) ?_
  refine lv_iload_n hx hb dX5_isOff_21 rfl (lv_at hl 4 rfl) ?_
  refine lv_iload_n hx hb dX5_isOff_22 rfl (lv_at hl 1 rfl) ?_
  refine lv_iload hx hb dX5_isOff_23 (lv_at hl 0 rfl) ?_
  refine rwS4 (rest := [.int (imax (nI 0) (iabs (cOf f p 0 (f 7))))]) S (c_X5_offWith l E r rc f p 1 (f 8) hp (by omega)) cd_X5_offWith bw_444 ⟨Nat.le_of_ble_eq_true rfl, Nat.le_of_ble_eq_true rfl⟩ ⟨Nat.zero_le _, Nat.zero_le _⟩ hP (hDa.to rfl) hE hA hS [0, 1] rfl rfl [r, rc] rfl rfl (Nat.le_of_ble_eq_true rfl) hl.1 dX5_isOff_25 (fun H locs hP _ hS => ?_)
  have hP : va_P E.1 vwCl [(r, .inr (2, [.ref rc])), (rc, .inl (E.2.1, 293, .inl f))] H := hP
  refine rw_abs (rest := [.int (imax (nI 0) (iabs (cOf f p 0 (f 7))))]) S hl.1 bw_305 ⟨Nat.le_of_ble_eq_true rfl, Nat.le_of_ble_eq_true rfl⟩ (Nat.le_of_ble_eq_true rfl) ⟨Nat.zero_le _, Nat.zero_le _⟩ dX5_isOff_28 ?_
  refine rw_max (rest := []) S hl.1 bw_306 ⟨Nat.le_of_ble_eq_true rfl, Nat.le_of_ble_eq_true rfl⟩ (Nat.le_of_ble_eq_true rfl) ⟨Nat.zero_le _, Nat.zero_le _⟩ dX5_isOff_31 ?_
  refine lv_istore_n (lv' := [(2, .int (imax (imax (nI 0) (iabs (cOf f p 0 (f 7)))) (iabs (cOf f p 1 (f 8))))), (4, .int (f 8)), (3, .int (nI 1)), (0, .ref r), (1, .int (nI p))]) hx hb dX5_isOff_34 rfl hl (by decide) rfl (fun ls hl => ?_)
  refine rn_inc (a := 1) (d := 1) (lv' := [(3, .int (nI 2)), (2, .int (imax (imax (nI 0) (iabs (cOf f p 0 (f 7)))) (iabs (cOf f p 1 (f 8))))), (4, .int (f 8)), (0, .ref r), (1, .int (nI p))]) hx hb dX5_isOff_35 hl (k := 2) rfl (by decide) (by decide) rfl (fun ls hl => ?_)
  refine lv_goto (tgt := 4) hx hb dX5_isOff_38 (by decide) ?_
  refine lv_iload_n hx hb dX5_isOff_4 rfl (lv_at hl 0 rfl) ?_
  refine lv_iconst (v := nI 3) hx hb dX5_isOff_5 (by decide) ?_
  refine rn_icmp_ge (a := 2) (b := 3) (tgt := 41) hx hb (by omega) (by omega) dX5_isOff_6 (by decide) (fun c_3 => absurd c_3 (by omega)) (fun c_3 => ?_)
  refine lv_aload_n hx hb dX5_isOff_9 rfl (lv_at hl 3 rfl) ?_
  refine lv_bipush (v := nI 7) hx hb dX5_isOff_10 (by decide) ?_
  refine lv_iload_n hx hb dX5_isOff_12 rfl (lv_at hl 0 rfl) ?_
  refine rn_add (a := 7) (b := 2) hx hb dX5_isOff_13 ?_
  refine rwV1 (rest := []) S (c_X3_read l E r rc f 9 (by omega)) cd_X3_read bw_310 ⟨Nat.le_of_ble_eq_true rfl, Nat.le_of_ble_eq_true rfl⟩ ⟨Nat.zero_le _, Nat.zero_le _⟩ hP (hDa.to rfl) hE hA hS [0, 1] rfl rfl [r, rc] rfl rfl (ci := 2) rfl (q0 := 0) rfl (Nat.le_of_ble_eq_true rfl) hl.1 dX5_isOff_14 (fun H locs hP _ hS => ?_)
  have hP : va_P E.1 vwCl [(r, .inr (2, [.ref rc])), (rc, .inl (E.2.1, 293, .inl f))] H := hP
  refine lv_istore (lv' := [(4, .int (f 9)), (3, .int (nI 2)), (2, .int (imax (imax (nI 0) (iabs (cOf f p 0 (f 7)))) (iabs (cOf f p 1 (f 8))))), (0, .ref r), (1, .int (nI p))]) hx hb dX5_isOff_17 hl (by decide) rfl (fun ls hl => ?_)
  refine lv_iload_n hx hb dX5_isOff_19 rfl (lv_at hl 2 rfl) ?_
  refine lv_aload_n hx hb dX5_isOff_20 rfl (lv_at hl 3 rfl) ?_
  refine lv_iload_n hx hb dX5_isOff_21 rfl (lv_at hl 4 rfl) ?_
  refine lv_iload_n hx hb dX5_isOff_22 rfl (lv_at hl 1 rfl) ?_
  refine lv_iload hx hb dX5_isOff_23 (lv_at hl 0 rfl) ?_
  refine rwS4 (rest := [.int (imax (imax (nI 0) (iabs (cOf f p 0 (f 7)))) (iabs (cOf f p 1 (f 8))))]) S (c_X5_offWith l E r rc f p 2 (f 9) hp (by omega)) cd_X5_offWith bw_444 ⟨Nat.le_of_ble_eq_true rfl, Nat.le_of_ble_eq_true rfl⟩ ⟨Nat.zero_le _, Nat.zero_le _⟩ hP (hDa.to rfl) hE hA hS [0, 1] rfl rfl [r, rc] rfl rfl (Nat.le_of_ble_eq_true rfl) hl.1 dX5_isOff_25 (fun H locs hP _ hS => ?_)
  have hP : va_P E.1 vwCl [(r, .inr (2, [.ref rc])), (rc, .inl (E.2.1, 293, .inl f))] H := hP
  refine rw_abs (rest := [.int (imax (imax (nI 0) (iabs (cOf f p 0 (f 7)))) (iabs (cOf f p 1 (f 8))))]) S hl.1 bw_305 ⟨Nat.le_of_ble_eq_true rfl, Nat.le_of_ble_eq_true rfl⟩ (Nat.le_of_ble_eq_true rfl) ⟨Nat.zero_le _, Nat.zero_le _⟩ dX5_isOff_28 ?_
  refine rw_max (rest := []) S hl.1 bw_306 ⟨Nat.le_of_ble_eq_true rfl, Nat.le_of_ble_eq_true rfl⟩ (Nat.le_of_ble_eq_true rfl) ⟨Nat.zero_le _, Nat.zero_le _⟩ dX5_isOff_31 ?_
  refine lv_istore_n (lv' := [(2, .int (imax (imax (imax (nI 0) (iabs (cOf f p 0 (f 7)))) (iabs (cOf f p 1 (f 8)))) (iabs (cOf f p 2 (f 9))))), (4, .int (f 9)), (3, .int (nI 2)), (0, .ref r), (1, .int (nI p))]) hx hb dX5_isOff_34 rfl hl (by decide) rfl (fun ls hl => ?_)
  refine rn_inc (a := 2) (d := 1) (lv' := [(3, .int (nI 3)), (2, .int (imax (imax (imax (nI 0) (iabs (cOf f p 0 (f 7)))) (iabs (cOf f p 1 (f 8)))) (iabs (cOf f p 2 (f 9))))), (4, .int (f 9)), (0, .ref r), (1, .int (nI p))]) hx hb dX5_isOff_35 hl (k := 2) rfl (by decide) (by decide) rfl (fun ls hl => ?_)
  refine lv_goto (tgt := 4) hx hb dX5_isOff_38 (by decide) ?_
  refine lv_iload_n hx hb dX5_isOff_4 rfl (lv_at hl 0 rfl) ?_
  refine lv_iconst (v := nI 3) hx hb dX5_isOff_5 (by decide) ?_
  refine rn_icmp_ge (a := 3) (b := 3) (tgt := 41) hx hb (by omega) (by omega) dX5_isOff_6 (by decide) (fun c_4 => ?_) (fun c_4 => absurd c_4 (by omega))
  refine lv_iload_n hx hb dX5_isOff_41 rfl (lv_at hl 1 rfl) ?_
  refine lv_aload_n hx hb dX5_isOff_42 rfl (lv_at hl 3 rfl) ?_
  refine lv_iconst (v := nI 1) hx hb dX5_isOff_43 (by decide) ?_
  refine rwV1 (rest := [.int (imax (imax (imax (nI 0) (iabs (cOf f p 0 (f 7)))) (iabs (cOf f p 1 (f 8)))) (iabs (cOf f p 2 (f 9))))]) S (c_X3_read l E r rc f 1 (by omega)) cd_X3_read bw_310 ⟨Nat.le_of_ble_eq_true rfl, Nat.le_of_ble_eq_true rfl⟩ ⟨Nat.zero_le _, Nat.zero_le _⟩ hP (hDa.to rfl) hE hA hS [0, 1] rfl rfl [r, rc] rfl rfl (ci := 2) rfl (q0 := 0) rfl (Nat.le_of_ble_eq_true rfl) hl.1 dX5_isOff_44 (fun H locs hP _ hS => ?_)
  have hP : va_P E.1 vwCl [(r, .inr (2, [.ref rc])), (rc, .inl (E.2.1, 293, .inl f))] H := hP
  refine lv_icmp_le (tgt := 54) hx hb dX5_isOff_47 (by decide) (fun c_5 => ?_) (fun c_5 => ?_)
  · refine lv_iconst (v := nI 0) hx hb dX5_isOff_54 (by decide) ?_
    exact hret _ _ _ _ _ _ (by rw [cOo, if_pos c_5]) rfl (by decide) hP hS dX5_isOff_55
  · refine lv_iconst (v := nI 1) hx hb dX5_isOff_50 (by decide) ?_
    refine lv_goto (tgt := 55) hx hb dX5_isOff_51 (by decide) ?_
    exact hret _ _ _ _ _ _ (by rw [cOo, if_neg c_5]) rfl (by decide) hP hS dX5_isOff_55

theorem hasS_lt {n q : Nat} (hn : n < 2 ^ 31) (hq : q < 2 ^ 31) (h : ¬ hasS n (nI q) = 0) : q < n := by
  unfold hasS at h
  rcases Nat.lt_or_ge q n with e | e
  · exact e
  · rw [if_neg (nI_pos hq), if_pos (nI_le e hq)] at h
    exact absurd nI_0 h
theorem hasS_ne {n q : Nat} (hn : n < 2 ^ 31) (h : q < n) : ¬ hasS n (nI q) = 0 := by
  unfold hasS
  rw [if_neg (nI_pos (by omega)), if_neg (nI_ge h hn)]
  decide
theorem hasS_of {n : Nat} {x : Int32} (hn : n < 2 ^ 31) (h : ¬ hasS n x = 0) : ∃ i : Nat, i < n ∧ x = nI i := by
  unfold hasS at h
  by_cases h0 : x < 0
  · rw [if_pos h0] at h; exact absurd nI_0 h
  · obtain ⟨i, hi, rfl⟩ := nI_of h0
    refine ⟨i, ?_, rfl⟩
    rw [if_neg h0] at h
    rcases Nat.lt_or_ge i n with e | e
    · exact e
    · rw [if_pos (nI_le e hi)] at h; exact absurd nI_0 h
theorem isW_of {n : Nat} {x : Int32} (hn : n < 2 ^ 31) (h : ¬ isW x (nI 0) (nI n) = 0) : ∃ i : Nat, i < n + 1 ∧ x = nI i := by
  unfold isW at h
  by_cases h0 : x < nI 0
  · rw [if_pos h0] at h; exact absurd nI_0 h
  · rw [nI_0] at h0
    obtain ⟨i, hi, rfl⟩ := nI_of h0
    refine ⟨i, ?_, rfl⟩
    rw [nI_0, if_neg h0] at h
    rcases Nat.lt_or_ge n i with e | e
    · rw [if_pos (nI_lt e hi)] at h; exact absurd nI_0 h
    · omega
theorem isC_of {x : Int32} (h : ¬ isC x = 0) : ∃ i : Nat, i < 3 ∧ x = nI i := isW_of (n := 2) (by omega) h
theorem cd_X5_jumps : cdS yX5_jumps cX5_jumps 5 (some .boolean) 2 := ⟨⟨bw_436, bw_9, by decide, by decide, by decide +kernel⟩, bw_435⟩
def cJu (f : Nat → Int32) (n : Nat) (p : Nat) : Int32 := if hasS n (nI (p + 1)) = 0 then nI 0 else if imax (imax (imax (nI 0) (iabs (cPn f (p + 1) 0 - (cPn f p 0)))) (iabs (cPn f (p + 1) 1 - (cPn f p 1)))) (iabs (cPn f (p + 1) 2 - (cPn f p 2))) ≤ f 2 then nI 0 else nI 1
theorem cJu_z (f : Nat → Int32) (n : Nat) (p : Nat) : narrow .boolean (.int (cJu f n p)) = .int (cJu f n p) := by
  unfold cJu
  repeat' split
  all_goals first | decide | rfl
set_option maxHeartbeats 4000000 in
set_option maxRecDepth 100000 in
theorem c_X5_jumps (l : Launch) (E : EV) (r : Nat) (rc : Nat) (f : Nat → Int32) (n : Nat) (p : Nat) (hf : f 12 = nI n) (hn : n ≤ 20) (hp : p < 20) : rcI l E yX5_jumps cX5_jumps 5 .boolean 3 [.ref r, .int (nI p)] [(r, .inr (2, [.ref rc])), (rc, .inl (E.2.1, 293, .inl f))] (cJu f n p) [(r, .inr (2, [.ref rc])), (rc, .inl (E.2.1, 293, .inl f))] := by
  refine rcI_of (by decide) (Nat.le_of_ble_eq_true rfl) ?_
  intro pg e s m below meth c Q A ls S hP hD0 hE hA hl hret
  have hx := S.1
  have hb := S.2.1
  have hown := S.2.2.2.1
  have hts := S.2.2.2.2
  have hK := hE.1
  have hS : va_S A s.heap s.heap [] := va_S.rf
  have hDa : va_Da A [r, rc] := ⟨_, hD0, rfl⟩
  have hl : lv_has ls 5 [(0, .ref r), (1, .int (nI p))] := hl
  refine lv_aload_n hx hb dX5_jumps_0 rfl (lv_at hl 0 rfl) ?_
  refine lv_iload_n hx hb dX5_jumps_1 rfl (lv_at hl 1 rfl) ?_
  refine lv_iconst (v := nI 1) hx hb dX5_jumps_2 (by decide) ?_
  refine rn_add (a := p) (b := 1) hx hb dX5_jumps_3 ?_
  refine rwV1 (rest := []) S (c_X3_hasShot l E r rc f n (nI (p + 1)) hf) cd_X3_hasShot bw_437 ⟨Nat.le_of_ble_eq_true rfl, Nat.le_of_ble_eq_true rfl⟩ ⟨Nat.zero_le _, Nat.zero_le _⟩ hP (hDa.to rfl) hE hA hS [0, 1] rfl rfl [r, rc] rfl rfl (ci := 2) rfl (q0 := 0) rfl (Nat.le_of_ble_eq_true rfl) hl.1 dX5_jumps_4 (fun H locs hP _ hS => ?_)
  have hP : va_P E.1 vwCl [(r, .inr (2, [.ref rc])), (rc, .inl (E.2.1, 293, .inl f))] H := hP
  refine lv_if_ne (tgt := 12) hx hb dX5_jumps_7 (by decide) (fun c_1 => ?_) (fun c_1 => ?_)
  · have hpn := hasS_lt (by omega) (by omega) c_1
    refine lv_iconst (v := nI 0) hx hb dX5_jumps_12 (by decide) ?_
    refine lv_istore_n (lv' := [(2, .int (nI 0)), (0, .ref r), (1, .int (nI p))]) hx hb dX5_jumps_13 rfl hl (by decide) rfl (fun ls hl => ?_)
    refine lv_iconst (v := nI 0) hx hb dX5_jumps_14 (by decide) ?_
    refine lv_istore_n (lv' := [(3, .int (nI 0)), (2, .int (nI 0)), (0, .ref r), (1, .int (nI p))]) hx hb dX5_jumps_15 rfl hl (by decide) rfl (fun ls hl => ?_)
    refine lv_iload_n hx hb dX5_jumps_16 rfl (lv_at hl 0 rfl) ?_
    refine lv_iconst (v := nI 3) hx hb dX5_jumps_17 (by decide) ?_
    refine rn_icmp_ge (a := 0) (b := 3) (tgt := 54) hx hb (by omega) (by omega) dX5_jumps_18 (by decide) (fun c_2 => absurd c_2 (by omega)) (fun c_2 => ?_)
    refine lv_aload_n hx hb dX5_jumps_21 rfl (lv_at hl 2 rfl) ?_
    refine lv_iload_n hx hb dX5_jumps_22 rfl (lv_at hl 3 rfl) ?_
    refine lv_iconst (v := nI 1) hx hb dX5_jumps_23 (by decide) ?_
    refine rn_add (a := p) (b := 1) hx hb dX5_jumps_24 ?_
    refine lv_iload_n hx hb dX5_jumps_25 rfl (lv_at hl 0 rfl) ?_
    refine rwS3 (rest := []) S (c_X5_printsNow l E r rc f (p + 1) 0 (by omega) (by omega)) cd_X5_printsNow bw_438 ⟨Nat.le_of_ble_eq_true rfl, Nat.le_of_ble_eq_true rfl⟩ ⟨Nat.zero_le _, Nat.zero_le _⟩ hP (hDa.to rfl) hE hA hS [0, 1] rfl rfl [r, rc] rfl rfl (Nat.le_of_ble_eq_true rfl) hl.1 dX5_jumps_26 (fun H locs hP _ hS => ?_)
    have hP : va_P E.1 vwCl [(r, .inr (2, [.ref rc])), (rc, .inl (E.2.1, 293, .inl f))] H := hP
    refine lv_aload_n hx hb dX5_jumps_29 rfl (lv_at hl 2 rfl) ?_
    refine lv_iload_n hx hb dX5_jumps_30 rfl (lv_at hl 3 rfl) ?_
    refine lv_iload_n hx hb dX5_jumps_31 rfl (lv_at hl 0 rfl) ?_
    refine rwS3 (rest := [.int (cPn f (p + 1) 0)]) S (c_X5_printsNow l E r rc f p 0 hp (by omega)) cd_X5_printsNow bw_438 ⟨Nat.le_of_ble_eq_true rfl, Nat.le_of_ble_eq_true rfl⟩ ⟨Nat.zero_le _, Nat.zero_le _⟩ hP (hDa.to rfl) hE hA hS [0, 1] rfl rfl [r, rc] rfl rfl (Nat.le_of_ble_eq_true rfl) hl.1 dX5_jumps_32 (fun H locs hP _ hS => ?_)
    have hP : va_P E.1 vwCl [(r, .inr (2, [.ref rc])), (rc, .inl (E.2.1, 293, .inl f))] H := hP
    refine lv_isub hx hb dX5_jumps_35 ?_
    refine lv_istore (lv' := [(4, .int (cPn f (p + 1) 0 - (cPn f p 0))), (3, .int (nI 0)), (2, .int (nI 0)), (0, .ref r), (1, .int (nI p))]) hx hb dX5_jumps_36 hl (by decide) rfl (fun ls hl => ?_)
    refine lv_iload_n hx hb dX5_jumps_38 rfl (lv_at hl 2 rfl) ?_
    refine lv_iload hx hb dX5_jumps_39 (lv_at hl 0 rfl) ?_
    refine rw_abs (rest := [.int (nI 0)]) S hl.1 bw_305 ⟨Nat.le_of_ble_eq_true rfl, Nat.le_of_ble_eq_true rfl⟩ (Nat.le_of_ble_eq_true rfl) ⟨Nat.zero_le _, Nat.zero_le _⟩ dX5_jumps_41 ?_
    refine rw_max (rest := []) S hl.1 bw_306 ⟨Nat.le_of_ble_eq_true rfl, Nat.le_of_ble_eq_true rfl⟩ (Nat.le_of_ble_eq_true rfl) ⟨Nat.zero_le _, Nat.zero_le _⟩ dX5_jumps_44 ?_
    refine lv_istore_n (lv' := [(2, .int (imax (nI 0) (iabs (cPn f (p + 1) 0 - (cPn f p 0))))), (4, .int (cPn f (p + 1) 0 - (cPn f p 0))), (3, .int (nI 0)), (0, .ref r), (1, .int (nI p))]) hx hb dX5_jumps_47 rfl hl (by decide) rfl (fun ls hl => ?_)
    refine rn_inc (a := 0) (d := 1) (lv' := [(3, .int (nI 1)), (2, .int (imax (nI 0) (iabs (cPn f (p + 1) 0 - (cPn f p 0))))), (4, .int (cPn f (p + 1) 0 - (cPn f p 0))), (0, .ref r), (1, .int (nI p))]) hx hb dX5_jumps_48 hl (k := 2) rfl (by decide) (by decide) rfl (fun ls hl => ?_)
    refine lv_goto (tgt := 16) hx hb dX5_jumps_51 (by decide) ?_
    refine lv_iload_n hx hb dX5_jumps_16 rfl (lv_at hl 0 rfl) ?_
    refine lv_iconst (v := nI 3) hx hb dX5_jumps_17 (by decide) ?_
    refine rn_icmp_ge (a := 1) (b := 3) (tgt := 54) hx hb (by omega) (by omega) dX5_jumps_18 (by decide) (fun c_3 => absurd c_3 (by omega)) (fun c_3 => ?_)
    refine lv_aload_n hx hb dX5_jumps_21 rfl (lv_at hl 3 rfl) ?_
    refine lv_iload_n hx hb dX5_jumps_22 rfl (lv_at hl 4 rfl) ?_
    refine lv_iconst (v := nI 1) hx hb dX5_jumps_23 (by decide) ?_
    refine rn_add (a := p) (b := 1) hx hb dX5_jumps_24 ?_
    refine lv_iload_n hx hb dX5_jumps_25 rfl (lv_at hl 0 rfl) ?_
    refine rwS3 (rest := []) S (c_X5_printsNow l E r rc f (p + 1) 1 (by omega) (by omega)) cd_X5_printsNow bw_438 ⟨Nat.le_of_ble_eq_true rfl, Nat.le_of_ble_eq_true rfl⟩ ⟨Nat.zero_le _, Nat.zero_le _⟩ hP (hDa.to rfl) hE hA hS [0, 1] rfl rfl [r, rc] rfl rfl (Nat.le_of_ble_eq_true rfl) hl.1 dX5_jumps_26 (fun H locs hP _ hS => ?_)
    have hP : va_P E.1 vwCl [(r, .inr (2, [.ref rc])), (rc, .inl (E.2.1, 293, .inl f))] H := hP
    refine lv_aload_n hx hb dX5_jumps_29 rfl (lv_at hl 3 rfl) ?_
    refine lv_iload_n hx hb dX5_jumps_30 rfl (lv_at hl 4 rfl) ?_
    refine lv_iload_n hx hb dX5_jumps_31 rfl (lv_at hl 0 rfl) ?_
    refine rwS3 (rest := [.int (cPn f (p + 1) 1)]) S (c_X5_printsNow l E r rc f p 1 hp (by omega)) cd_X5_printsNow bw_438 ⟨Nat.le_of_ble_eq_true rfl, Nat.le_of_ble_eq_true rfl⟩ ⟨Nat.zero_le _, Nat.zero_le _⟩ hP (hDa.to rfl) hE hA hS [0, 1] rfl rfl [r, rc] rfl rfl (Nat.le_of_ble_eq_true rfl) hl.1 dX5_jumps_32 (fun H locs hP _ hS => ?_)
    have hP : va_P E.1 vwCl [(r, .inr (2, [.ref rc])), (rc, .inl (E.2.1, 293, .inl f))] H := hP
    refine lv_isub hx hb dX5_jumps_35 ?_
    refine lv_istore (lv' := [(4, .int (cPn f (p + 1) 1 - (cPn f p 1))), (3, .int (nI 1)), (2, .int (imax (nI 0) (iabs (cPn f (p + 1) 0 - (cPn f p 0))))), (0, .ref r), (1, .int (nI p))]) hx hb dX5_jumps_36 hl (by decide) rfl (fun ls hl => ?_)
    refine lv_iload_n hx hb dX5_jumps_38 rfl (lv_at hl 2 rfl) ?_
    refine lv_iload hx hb dX5_jumps_39 (lv_at hl 0 rfl) ?_
    refine rw_abs (rest := [.int (imax (nI 0) (iabs (cPn f (p + 1) 0 - (cPn f p 0))))]) S hl.1 bw_305 ⟨Nat.le_of_ble_eq_true rfl, Nat.le_of_ble_eq_true rfl⟩ (Nat.le_of_ble_eq_true rfl) ⟨Nat.zero_le _, Nat.zero_le _⟩ dX5_jumps_41 ?_
    refine rw_max (rest := []) S hl.1 bw_306 ⟨Nat.le_of_ble_eq_true rfl, Nat.le_of_ble_eq_true rfl⟩ (Nat.le_of_ble_eq_true rfl) ⟨Nat.zero_le _, Nat.zero_le _⟩ dX5_jumps_44 ?_
    refine lv_istore_n (lv' := [(2, .int (imax (imax (nI 0) (iabs (cPn f (p + 1) 0 - (cPn f p 0)))) (iabs (cPn f (p + 1) 1 - (cPn f p 1))))), (4, .int (cPn f (p + 1) 1 - (cPn f p 1))), (3, .int (nI 1)), (0, .ref r), (1, .int (nI p))]) hx hb dX5_jumps_47 rfl hl (by decide) rfl (fun ls hl => ?_)
    refine rn_inc (a := 1) (d := 1) (lv' := [(3, .int (nI 2)), (2, .int (imax (imax (nI 0) (iabs (cPn f (p + 1) 0 - (cPn f p 0)))) (iabs (cPn f (p + 1) 1 - (cPn f p 1))))), (4, .int (cPn f (p + 1) 1 - (cPn f p 1))), (0, .ref r), (1, .int (nI p))]) hx hb dX5_jumps_48 hl (k := 2) rfl (by decide) (by decide) rfl (fun ls hl => ?_)
    refine lv_goto (tgt := 16) hx hb dX5_jumps_51 (by decide) ?_
    refine lv_iload_n hx hb dX5_jumps_16 rfl (lv_at hl 0 rfl) ?_
    refine lv_iconst (v := nI 3) hx hb dX5_jumps_17 (by decide) ?_
    refine rn_icmp_ge (a := 2) (b := 3) (tgt := 54) hx hb (by omega) (by omega) dX5_jumps_18 (by decide) (fun c_4 => absurd c_4 (by omega)) (fun c_4 => ?_)
    refine lv_aload_n hx hb dX5_jumps_21 rfl (lv_at hl 3 rfl) ?_
    refine lv_iload_n hx hb dX5_jumps_22 rfl (lv_at hl 4 rfl) ?_
    refine lv_iconst (v := nI 1) hx hb dX5_jumps_23 (by decide) ?_
    refine rn_add (a := p) (b := 1) hx hb dX5_jumps_24 ?_
    refine lv_iload_n hx hb dX5_jumps_25 rfl (lv_at hl 0 rfl) ?_
    refine rwS3 (rest := []) S (c_X5_printsNow l E r rc f (p + 1) 2 (by omega) (by omega)) cd_X5_printsNow bw_438 ⟨Nat.le_of_ble_eq_true rfl, Nat.le_of_ble_eq_true rfl⟩ ⟨Nat.zero_le _, Nat.zero_le _⟩ hP (hDa.to rfl) hE hA hS [0, 1] rfl rfl [r, rc] rfl rfl (Nat.le_of_ble_eq_true rfl) hl.1 dX5_jumps_26 (fun H locs hP _ hS => ?_)
    have hP : va_P E.1 vwCl [(r, .inr (2, [.ref rc])), (rc, .inl (E.2.1, 293, .inl f))] H := hP
    refine lv_aload_n hx hb dX5_jumps_29 rfl (lv_at hl 3 rfl) ?_
    refine lv_iload_n hx hb dX5_jumps_30 rfl (lv_at hl 4 rfl) ?_
    refine lv_iload_n hx hb dX5_jumps_31 rfl (lv_at hl 0 rfl) ?_
    refine rwS3 (rest := [.int (cPn f (p + 1) 2)]) S (c_X5_printsNow l E r rc f p 2 hp (by omega)) cd_X5_printsNow bw_438 ⟨Nat.le_of_ble_eq_true rfl, Nat.le_of_ble_eq_true rfl⟩ ⟨Nat.zero_le _, Nat.zero_le _⟩ hP (hDa.to rfl) hE hA hS [0, 1] rfl rfl [r, rc] rfl rfl (Nat.le_of_ble_eq_true rfl) hl.1 dX5_jumps_32 (fun H locs hP _ hS => ?_)
    have hP : va_P E.1 vwCl [(r, .inr (2, [.ref rc])), (rc, .inl (E.2.1, 293, .inl f))] H := hP
    refine lv_isub hx hb dX5_jumps_35 ?_
    refine lv_istore (lv' := [(4, .int (cPn f (p + 1) 2 - (cPn f p 2))), (3, .int (nI 2)), (2, .int (imax (imax (nI 0) (iabs (cPn f (p + 1) 0 - (cPn f p 0)))) (iabs (cPn f (p + 1) 1 - (cPn f p 1))))), (0, .ref r), (1, .int (nI p))]) hx hb dX5_jumps_36 hl (by decide) rfl (fun ls hl => ?_)
    refine lv_iload_n hx hb dX5_jumps_38 rfl (lv_at hl 2 rfl) ?_
    refine lv_iload hx hb dX5_jumps_39 (lv_at hl 0 rfl) ?_
    refine rw_abs (rest := [.int (imax (imax (nI 0) (iabs (cPn f (p + 1) 0 - (cPn f p 0)))) (iabs (cPn f (p + 1) 1 - (cPn f p 1))))]) S hl.1 bw_305 ⟨Nat.le_of_ble_eq_true rfl, Nat.le_of_ble_eq_true rfl⟩ (Nat.le_of_ble_eq_true rfl) ⟨Nat.zero_le _, Nat.zero_le _⟩ dX5_jumps_41 ?_
    refine rw_max (rest := []) S hl.1 bw_306 ⟨Nat.le_of_ble_eq_true rfl, Nat.le_of_ble_eq_true rfl⟩ (Nat.le_of_ble_eq_true rfl) ⟨Nat.zero_le _, Nat.zero_le _⟩ dX5_jumps_44 ?_
    refine lv_istore_n (lv' := [(2, .int (imax (imax (imax (nI 0) (iabs (cPn f (p + 1) 0 - (cPn f p 0)))) (iabs (cPn f (p + 1) 1 - (cPn f p 1)))) (iabs (cPn f (p + 1) 2 - (cPn f p 2))))), (4, .int (cPn f (p + 1) 2 - (cPn f p 2))), (3, .int (nI 2)), (0, .ref r), (1, .int (nI p))]) hx hb dX5_jumps_47 rfl hl (by decide) rfl (fun ls hl => ?_)
    refine rn_inc (a := 2) (d := 1) (lv' := [(3, .int (nI 3)), (2, .int (imax (imax (imax (nI 0) (iabs (cPn f (p + 1) 0 - (cPn f p 0)))) (iabs (cPn f (p + 1) 1 - (cPn f p 1)))) (iabs (cPn f (p + 1) 2 - (cPn f p 2))))), (4, .int (cPn f (p + 1) 2 - (cPn f p 2))), (0, .ref r), (1, .int (nI p))]) hx hb dX5_jumps_48 hl (k := 2) rfl (by decide) (by decide) rfl (fun ls hl => ?_)
    refine lv_goto (tgt := 16) hx hb dX5_jumps_51 (by decide) ?_
    refine lv_iload_n hx hb dX5_jumps_16 rfl (lv_at hl 0 rfl) ?_
    refine lv_iconst (v := nI 3) hx hb dX5_jumps_17 (by decide) ?_
    refine rn_icmp_ge (a := 3) (b := 3) (tgt := 54) hx hb (by omega) (by omega) dX5_jumps_18 (by decide) (fun c_5 => ?_) (fun c_5 => absurd c_5 (by omega))
    refine lv_iload_n hx hb dX5_jumps_54 rfl (lv_at hl 1 rfl) ?_
    refine lv_aload_n hx hb dX5_jumps_55 rfl (lv_at hl 3 rfl) ?_
    refine lv_iconst (v := nI 2) hx hb dX5_jumps_56 (by decide) ?_
    refine rwV1 (rest := [.int (imax (imax (imax (nI 0) (iabs (cPn f (p + 1) 0 - (cPn f p 0)))) (iabs (cPn f (p + 1) 1 - (cPn f p 1)))) (iabs (cPn f (p + 1) 2 - (cPn f p 2))))]) S (c_X3_read l E r rc f 2 (by omega)) cd_X3_read bw_310 ⟨Nat.le_of_ble_eq_true rfl, Nat.le_of_ble_eq_true rfl⟩ ⟨Nat.zero_le _, Nat.zero_le _⟩ hP (hDa.to rfl) hE hA hS [0, 1] rfl rfl [r, rc] rfl rfl (ci := 2) rfl (q0 := 0) rfl (Nat.le_of_ble_eq_true rfl) hl.1 dX5_jumps_57 (fun H locs hP _ hS => ?_)
    have hP : va_P E.1 vwCl [(r, .inr (2, [.ref rc])), (rc, .inl (E.2.1, 293, .inl f))] H := hP
    refine lv_icmp_le (tgt := 67) hx hb dX5_jumps_60 (by decide) (fun c_6 => ?_) (fun c_6 => ?_)
    · refine lv_iconst (v := nI 0) hx hb dX5_jumps_67 (by decide) ?_
      exact hret _ _ _ _ _ _ (by rw [cJu, if_neg c_1, if_pos c_6]) rfl (by decide) hP hS dX5_jumps_68
    · refine lv_iconst (v := nI 1) hx hb dX5_jumps_63 (by decide) ?_
      refine lv_goto (tgt := 68) hx hb dX5_jumps_64 (by decide) ?_
      exact hret _ _ _ _ _ _ (by rw [cJu, if_neg c_1, if_neg c_6]) rfl (by decide) hP hS dX5_jumps_68
  · refine lv_iconst (v := nI 0) hx hb dX5_jumps_10 (by decide) ?_
    exact hret _ _ _ _ _ _ (by rw [cJu, if_pos c_1]) rfl (by decide) hP hS dX5_jumps_11

theorem cd_X5_holds : cdS yX5_holds cX5_holds 3 (some .boolean) 3 := ⟨⟨bw_432, bw_9, by decide, by decide, by decide +kernel⟩, bw_431⟩
set_option maxHeartbeats 4000000 in
set_option maxRecDepth 100000 in
theorem c_X5_holds_0 (l : Launch) (E : EV) (r : Nat) (rc : Nat) (f : Nat → Int32) (n : Nat) (p : Nat) (hf : f 12 = nI n) (hn : n ≤ 20) (hp : p < 20) : rcI l E yX5_holds cX5_holds 3 .boolean 4 [.ref r, .int (nI p), .int (nI 0)] [(r, .inr (2, [.ref rc])), (rc, .inl (E.2.1, 293, .inl f))] (cAn f p) [(r, .inr (2, [.ref rc])), (rc, .inl (E.2.1, 293, .inl f))] := by
  refine rcI_of (by decide) (Nat.le_of_ble_eq_true rfl) ?_
  intro pg e s m below meth c Q A ls S hP hD0 hE hA hl hret
  have hx := S.1
  have hb := S.2.1
  have hown := S.2.2.2.1
  have hts := S.2.2.2.2
  have hK := hE.1
  have hS : va_S A s.heap s.heap [] := va_S.rf
  have hDa : va_Da A [r, rc] := ⟨_, hD0, rfl⟩
  have hl : lv_has ls 3 [(0, .ref r), (1, .int (nI p)), (2, .int (nI 0))] := hl
  refine lv_iload_n hx hb dX5_holds_0 rfl (lv_at hl 2 rfl) ?_
  refine lv_tableIn (tgt := 32) hx hb dX5_holds_1 (by decide) (by decide) rfl (by decide) ?_
  refine lv_aload_n hx hb dX5_holds_32 rfl (lv_at hl 0 rfl) ?_
  refine lv_iload_n hx hb dX5_holds_33 rfl (lv_at hl 1 rfl) ?_
  refine rwS2 (rest := []) S (c_X5_isAnswered l E r rc f p hp) cd_X5_isAnswered bw_307 ⟨Nat.le_of_ble_eq_true rfl, Nat.le_of_ble_eq_true rfl⟩ ⟨Nat.zero_le _, Nat.zero_le _⟩ hP (hDa.to rfl) hE hA hS [0, 1] rfl rfl [r, rc] rfl rfl (Nat.le_of_ble_eq_true rfl) hl.1 dX5_holds_34 (fun H locs hP _ hS => ?_)
  have hP : va_P E.1 vwCl [(r, .inr (2, [.ref rc])), (rc, .inl (E.2.1, 293, .inl f))] H := hP
  exact hret _ _ _ _ _ _ rfl rfl (by first | (with_reducible exact cAn_z _ _) | assumption) hP hS dX5_holds_37

set_option maxHeartbeats 4000000 in
set_option maxRecDepth 100000 in
theorem c_X5_holds_1 (l : Launch) (E : EV) (r : Nat) (rc : Nat) (f : Nat → Int32) (n : Nat) (p : Nat) (hf : f 12 = nI n) (hn : n ≤ 20) (hp : p < 20) : rcI l E yX5_holds cX5_holds 3 .boolean 4 [.ref r, .int (nI p), .int (nI 1)] [(r, .inr (2, [.ref rc])), (rc, .inl (E.2.1, 293, .inl f))] (cBa f p) [(r, .inr (2, [.ref rc])), (rc, .inl (E.2.1, 293, .inl f))] := by
  refine rcI_of (by decide) (Nat.le_of_ble_eq_true rfl) ?_
  intro pg e s m below meth c Q A ls S hP hD0 hE hA hl hret
  have hx := S.1
  have hb := S.2.1
  have hown := S.2.2.2.1
  have hts := S.2.2.2.2
  have hK := hE.1
  have hS : va_S A s.heap s.heap [] := va_S.rf
  have hDa : va_Da A [r, rc] := ⟨_, hD0, rfl⟩
  have hl : lv_has ls 3 [(0, .ref r), (1, .int (nI p)), (2, .int (nI 1))] := hl
  refine lv_iload_n hx hb dX5_holds_0 rfl (lv_at hl 2 rfl) ?_
  refine lv_tableIn (tgt := 38) hx hb dX5_holds_1 (by decide) (by decide) rfl (by decide) ?_
  refine lv_aload_n hx hb dX5_holds_38 rfl (lv_at hl 0 rfl) ?_
  refine lv_iload_n hx hb dX5_holds_39 rfl (lv_at hl 1 rfl) ?_
  refine rwS2 (rest := []) S (c_X5_isBad l E r rc f p hp) cd_X5_isBad bw_433 ⟨Nat.le_of_ble_eq_true rfl, Nat.le_of_ble_eq_true rfl⟩ ⟨Nat.zero_le _, Nat.zero_le _⟩ hP (hDa.to rfl) hE hA hS [0, 1] rfl rfl [r, rc] rfl rfl (Nat.le_of_ble_eq_true rfl) hl.1 dX5_holds_40 (fun H locs hP _ hS => ?_)
  have hP : va_P E.1 vwCl [(r, .inr (2, [.ref rc])), (rc, .inl (E.2.1, 293, .inl f))] H := hP
  exact hret _ _ _ _ _ _ rfl rfl (by first | (with_reducible exact cBa_z _ _) | assumption) hP hS dX5_holds_43

set_option maxHeartbeats 4000000 in
set_option maxRecDepth 100000 in
theorem c_X5_holds_2 (l : Launch) (E : EV) (r : Nat) (rc : Nat) (f : Nat → Int32) (n : Nat) (p : Nat) (hf : f 12 = nI n) (hn : n ≤ 20) (hp : p < 20) : rcI l E yX5_holds cX5_holds 3 .boolean 4 [.ref r, .int (nI p), .int (nI 2)] [(r, .inr (2, [.ref rc])), (rc, .inl (E.2.1, 293, .inl f))] (cJu f n p) [(r, .inr (2, [.ref rc])), (rc, .inl (E.2.1, 293, .inl f))] := by
  refine rcI_of (by decide) (Nat.le_of_ble_eq_true rfl) ?_
  intro pg e s m below meth c Q A ls S hP hD0 hE hA hl hret
  have hx := S.1
  have hb := S.2.1
  have hown := S.2.2.2.1
  have hts := S.2.2.2.2
  have hK := hE.1
  have hS : va_S A s.heap s.heap [] := va_S.rf
  have hDa : va_Da A [r, rc] := ⟨_, hD0, rfl⟩
  have hl : lv_has ls 3 [(0, .ref r), (1, .int (nI p)), (2, .int (nI 2))] := hl
  refine lv_iload_n hx hb dX5_holds_0 rfl (lv_at hl 2 rfl) ?_
  refine lv_tableIn (tgt := 44) hx hb dX5_holds_1 (by decide) (by decide) rfl (by decide) ?_
  refine lv_aload_n hx hb dX5_holds_44 rfl (lv_at hl 0 rfl) ?_
  refine lv_iload_n hx hb dX5_holds_45 rfl (lv_at hl 1 rfl) ?_
  refine rwS2 (rest := []) S (c_X5_jumps l E r rc f n p hf hn hp) cd_X5_jumps bw_434 ⟨Nat.le_of_ble_eq_true rfl, Nat.le_of_ble_eq_true rfl⟩ ⟨Nat.zero_le _, Nat.zero_le _⟩ hP (hDa.to rfl) hE hA hS [0, 1] rfl rfl [r, rc] rfl rfl (Nat.le_of_ble_eq_true rfl) hl.1 dX5_holds_46 (fun H locs hP _ hS => ?_)
  have hP : va_P E.1 vwCl [(r, .inr (2, [.ref rc])), (rc, .inl (E.2.1, 293, .inl f))] H := hP
  exact hret _ _ _ _ _ _ rfl rfl (by first | (with_reducible exact cJu_z _ _ _) | assumption) hP hS dX5_holds_49

set_option maxHeartbeats 4000000 in
set_option maxRecDepth 100000 in
theorem c_X5_holds_3 (l : Launch) (E : EV) (r : Nat) (rc : Nat) (f : Nat → Int32) (n : Nat) (p : Nat) (hf : f 12 = nI n) (hn : n ≤ 20) (hp : p < 20) : rcI l E yX5_holds cX5_holds 3 .boolean 4 [.ref r, .int (nI p), .int (nI 3)] [(r, .inr (2, [.ref rc])), (rc, .inl (E.2.1, 293, .inl f))] (cOo f p) [(r, .inr (2, [.ref rc])), (rc, .inl (E.2.1, 293, .inl f))] := by
  refine rcI_of (by decide) (Nat.le_of_ble_eq_true rfl) ?_
  intro pg e s m below meth c Q A ls S hP hD0 hE hA hl hret
  have hx := S.1
  have hb := S.2.1
  have hown := S.2.2.2.1
  have hts := S.2.2.2.2
  have hK := hE.1
  have hS : va_S A s.heap s.heap [] := va_S.rf
  have hDa : va_Da A [r, rc] := ⟨_, hD0, rfl⟩
  have hl : lv_has ls 3 [(0, .ref r), (1, .int (nI p)), (2, .int (nI 3))] := hl
  refine lv_iload_n hx hb dX5_holds_0 rfl (lv_at hl 2 rfl) ?_
  refine lv_tableIn (tgt := 50) hx hb dX5_holds_1 (by decide) (by decide) rfl (by decide) ?_
  refine lv_aload_n hx hb dX5_holds_50 rfl (lv_at hl 0 rfl) ?_
  refine lv_iload_n hx hb dX5_holds_51 rfl (lv_at hl 1 rfl) ?_
  refine rwS2 (rest := []) S (c_X5_isOff l E r rc f p hp) cd_X5_isOff bw_441 ⟨Nat.le_of_ble_eq_true rfl, Nat.le_of_ble_eq_true rfl⟩ ⟨Nat.zero_le _, Nat.zero_le _⟩ hP (hDa.to rfl) hE hA hS [0, 1] rfl rfl [r, rc] rfl rfl (Nat.le_of_ble_eq_true rfl) hl.1 dX5_holds_52 (fun H locs hP _ hS => ?_)
  have hP : va_P E.1 vwCl [(r, .inr (2, [.ref rc])), (rc, .inl (E.2.1, 293, .inl f))] H := hP
  exact hret _ _ _ _ _ _ rfl rfl (by first | (with_reducible exact cOo_z _ _) | assumption) hP hS dX5_holds_55

def cSt (P : Nat → Int32) : Nat → Int32
  | 0 => nI 0
  | k + 1 => if P k = 0 then cSt P k else cSt P k ||| (nI 1 <<< (nI k &&& 31))
theorem cSt_p {P : Nat → Int32} {k : Nat} (h : P k = 0) : cSt P (k + 1) = cSt P k := by rw [cSt, if_pos h]
theorem cSt_n {P : Nat → Int32} {k : Nat} (h : ¬ P k = 0) : cSt P (k + 1) = cSt P k ||| (nI 1 <<< (nI k &&& 31)) := by rw [cSt, if_neg h]
theorem cd_X5_setOf : cdS yX5_setOf cX5_setOf 4 (some .int) 2 := ⟨⟨bw_428, bw_9, by decide, by decide, by decide +kernel⟩, bw_427⟩
set_option maxHeartbeats 4000000 in
set_option maxRecDepth 100000 in
theorem c_X5_setOf_0 (l : Launch) (E : EV) (r : Nat) (rc : Nat) (f : Nat → Int32) (n : Nat) (hf : f 12 = nI n) (hn : n ≤ 20) : rcI l E yX5_setOf cX5_setOf 4 .int 5 [.ref r, .int (nI 0)] [(r, .inr (2, [.ref rc])), (rc, .inl (E.2.1, 293, .inl f))] (cSt (fun p => cAn f p) n) [(r, .inr (2, [.ref rc])), (rc, .inl (E.2.1, 293, .inl f))] := by
  refine rcI_of (by decide) (Nat.le_of_ble_eq_true rfl) ?_
  intro pg e s m below meth c Q A ls S hP hD0 hE hA hl hret
  have hx := S.1
  have hb := S.2.1
  have hown := S.2.2.2.1
  have hts := S.2.2.2.2
  have hK := hE.1
  have hS : va_S A s.heap s.heap [] := va_S.rf
  have hDa : va_Da A [r, rc] := ⟨_, hD0, rfl⟩
  have hl : lv_has ls 4 [(0, .ref r), (1, .int (nI 0))] := hl
  refine lv_iconst (v := nI 0) hx hb dX5_setOf_0 (by decide) ?_
  refine lv_istore_n (lv' := [(2, .int (nI 0)), (0, .ref r), (1, .int (nI 0))]) hx hb dX5_setOf_1 rfl hl (by decide) rfl (fun ls hl => ?_)
  refine lv_iconst (v := nI 0) hx hb dX5_setOf_2 (by decide) ?_
  refine lv_istore_n (lv' := [(3, .int (nI 0)), (2, .int (nI 0)), (0, .ref r), (1, .int (nI 0))]) hx hb dX5_setOf_3 rfl hl (by decide) rfl (fun ls hl => ?_)
  have loop4 : ∀ (fuel : Nat) (k : Nat), n - k < fuel → (k ≤ n) → ∀ (H : Heap) (locs : List Loc), va_P E.1 vwCl [(r, .inr (2, [.ref rc])), (rc, .inl (E.2.1, 293, .inl f))] H → va_S A s.heap H locs → ∀ ls : Array Slot, lv_has ls 4 [(3, .int (nI k)), (2, .int (cSt (fun p => cAn f p) k)), (0, .ref r), (1, .int (nI 0))] → W pg l e (rq 5) s m ([.ref r, .int (nI 0)] : List Value).toArray below meth c H locs 0 0 Q (F0 m 4 ls []) := by
    intro fuel
    induction fuel with
    | zero => intro k h9; exact absurd h9 (Nat.not_lt_zero _)
    | succ fuel ih4 =>
      intro k hfu4 hk H locs hP hS ls hl
      refine lv_iload_n hx hb dX5_setOf_4 rfl (lv_at hl 0 rfl) ?_
      refine lv_aload_n hx hb dX5_setOf_5 rfl (lv_at hl 2 rfl) ?_
      refine rwV0 (rest := [.int (nI k)]) S (c_X3_shots l E r rc f n hf) cd_X3_shots bw_429 ⟨Nat.le_of_ble_eq_true rfl, Nat.le_of_ble_eq_true rfl⟩ ⟨Nat.zero_le _, Nat.zero_le _⟩ hP (hDa.to rfl) hE hA hS [0, 1] rfl rfl [r, rc] rfl rfl (ci := 2) rfl (q0 := 0) rfl (Nat.le_of_ble_eq_true rfl) hl.1 dX5_setOf_6 (fun H locs hP _ hS => ?_)
      have hP : va_P E.1 vwCl [(r, .inr (2, [.ref rc])), (rc, .inl (E.2.1, 293, .inl f))] H := hP
      refine rn_icmp_ge (a := k) (b := n) (tgt := 39) hx hb (by omega) (by omega) dX5_setOf_9 (by decide) (fun c_1 => ?_) (fun c_1 => ?_)
      · have hex : n = k := by omega
        subst hex
        refine lv_iload_n hx hb dX5_setOf_39 rfl (lv_at hl 1 rfl) ?_
        exact hret _ _ _ _ _ _ rfl rfl rfl hP hS dX5_setOf_40
      · refine lv_iload_n hx hb dX5_setOf_12 rfl (lv_at hl 0 rfl) ?_
        refine lv_bipush (v := nI 20) hx hb dX5_setOf_13 (by decide) ?_
        refine rn_icmp_ge (a := k) (b := 20) (tgt := 39) hx hb (by omega) (by omega) dX5_setOf_15 (by decide) (fun c_2 => absurd c_2 (by omega)) (fun c_2 => ?_)
        refine lv_aload_n hx hb dX5_setOf_18 rfl (lv_at hl 2 rfl) ?_
        refine lv_iload_n hx hb dX5_setOf_19 rfl (lv_at hl 0 rfl) ?_
        refine lv_iload_n hx hb dX5_setOf_20 rfl (lv_at hl 3 rfl) ?_
        refine rwS3 (rest := []) S (c_X5_holds_0 l E r rc f n k hf hn (by omega)) cd_X5_holds bw_430 ⟨Nat.le_of_ble_eq_true rfl, Nat.le_of_ble_eq_true rfl⟩ ⟨Nat.zero_le _, Nat.zero_le _⟩ hP (hDa.to rfl) hE hA hS [0, 1] rfl rfl [r, rc] rfl rfl (Nat.le_of_ble_eq_true rfl) hl.1 dX5_setOf_21 (fun H locs hP _ hS => ?_)
        have hP : va_P E.1 vwCl [(r, .inr (2, [.ref rc])), (rc, .inl (E.2.1, 293, .inl f))] H := hP
        refine lv_if_eq (tgt := 33) hx hb dX5_setOf_24 (by decide) (fun c_3 => ?_) (fun c_3 => ?_)
        · refine rn_inc (a := k) (d := 1) (lv' := [(3, .int (nI (k + 1))), (2, .int (cSt (fun p => cAn f p) k)), (0, .ref r), (1, .int (nI 0))]) hx hb dX5_setOf_33 hl (k := 0) rfl (by decide) (by decide) rfl (fun ls hl => ?_)
          refine lv_goto (tgt := 4) hx hb dX5_setOf_36 (by decide) ?_
          have hl : lv_has ls 4 [(3, .int (nI (k + 1))), (2, .int (cSt (fun p => cAn f p) k)), (0, .ref r), (1, .int (nI 0))] := lv_sub hl [0, 1, 2, 3] rfl
          have hl : lv_has ls 4 [(3, .int (nI (k + 1))), (2, .int (cSt (fun p => cAn f p) (k + 1))), (0, .ref r), (1, .int (nI 0))] := by first | (rw [cSt_p (P := fun p => cAn f p) c_3]; exact hl) | (rw [cSt_n (P := fun p => cAn f p) c_3]; exact hl)
          exact ih4 (k + 1) (by omega) (by omega) _ _ hP hS _ hl
        · refine lv_iload_n hx hb dX5_setOf_27 rfl (lv_at hl 1 rfl) ?_
          refine lv_iconst (v := nI 1) hx hb dX5_setOf_28 (by decide) ?_
          refine lv_iload_n hx hb dX5_setOf_29 rfl (lv_at hl 0 rfl) ?_
          refine lv_ishl hx hb dX5_setOf_30 ?_
          refine lv_ior hx hb dX5_setOf_31 ?_
          refine lv_istore_n (lv' := [(2, .int ((cSt (fun p => cAn f p) k) ||| ((nI 1) <<< (nI k &&& 31)))), (3, .int (nI k)), (0, .ref r), (1, .int (nI 0))]) hx hb dX5_setOf_32 rfl hl (by decide) rfl (fun ls hl => ?_)
          refine rn_inc (a := k) (d := 1) (lv' := [(3, .int (nI (k + 1))), (2, .int ((cSt (fun p => cAn f p) k) ||| ((nI 1) <<< (nI k &&& 31)))), (0, .ref r), (1, .int (nI 0))]) hx hb dX5_setOf_33 hl (k := 1) rfl (by decide) (by decide) rfl (fun ls hl => ?_)
          refine lv_goto (tgt := 4) hx hb dX5_setOf_36 (by decide) ?_
          have hl : lv_has ls 4 [(3, .int (nI (k + 1))), (2, .int ((cSt (fun p => cAn f p) k) ||| ((nI 1) <<< (nI k &&& 31)))), (0, .ref r), (1, .int (nI 0))] := lv_sub hl [0, 1, 2, 3] rfl
          have hl : lv_has ls 4 [(3, .int (nI (k + 1))), (2, .int (cSt (fun p => cAn f p) (k + 1))), (0, .ref r), (1, .int (nI 0))] := by first | (rw [cSt_p (P := fun p => cAn f p) c_3]; exact hl) | (rw [cSt_n (P := fun p => cAn f p) c_3]; exact hl)
          exact ih4 (k + 1) (by omega) (by omega) _ _ hP hS _ hl
  have hl : lv_has ls 4 [(3, .int (nI 0)), (2, .int (cSt (fun p => cAn f p) 0)), (0, .ref r), (1, .int (nI 0))] := lv_sub hl [0, 1, 2, 3] rfl
  exact loop4 _ 0 (Nat.lt_succ_self _) (by omega) _ _ hP hS _ hl

set_option maxHeartbeats 4000000 in
set_option maxRecDepth 100000 in
theorem c_X5_setOf_1 (l : Launch) (E : EV) (r : Nat) (rc : Nat) (f : Nat → Int32) (n : Nat) (hf : f 12 = nI n) (hn : n ≤ 20) : rcI l E yX5_setOf cX5_setOf 4 .int 5 [.ref r, .int (nI 1)] [(r, .inr (2, [.ref rc])), (rc, .inl (E.2.1, 293, .inl f))] (cSt (fun p => cBa f p) n) [(r, .inr (2, [.ref rc])), (rc, .inl (E.2.1, 293, .inl f))] := by
  refine rcI_of (by decide) (Nat.le_of_ble_eq_true rfl) ?_
  intro pg e s m below meth c Q A ls S hP hD0 hE hA hl hret
  have hx := S.1
  have hb := S.2.1
  have hown := S.2.2.2.1
  have hts := S.2.2.2.2
  have hK := hE.1
  have hS : va_S A s.heap s.heap [] := va_S.rf
  have hDa : va_Da A [r, rc] := ⟨_, hD0, rfl⟩
  have hl : lv_has ls 4 [(0, .ref r), (1, .int (nI 1))] := hl
  refine lv_iconst (v := nI 0) hx hb dX5_setOf_0 (by decide) ?_
  refine lv_istore_n (lv' := [(2, .int (nI 0)), (0, .ref r), (1, .int (nI 1))]) hx hb dX5_setOf_1 rfl hl (by decide) rfl (fun ls hl => ?_)
  refine lv_iconst (v := nI 0) hx hb dX5_setOf_2 (by decide) ?_
  refine lv_istore_n (lv' := [(3, .int (nI 0)), (2, .int (nI 0)), (0, .ref r), (1, .int (nI 1))]) hx hb dX5_setOf_3 rfl hl (by decide) rfl (fun ls hl => ?_)
  have loop4 : ∀ (fuel : Nat) (k : Nat), n - k < fuel → (k ≤ n) → ∀ (H : Heap) (locs : List Loc), va_P E.1 vwCl [(r, .inr (2, [.ref rc])), (rc, .inl (E.2.1, 293, .inl f))] H → va_S A s.heap H locs → ∀ ls : Array Slot, lv_has ls 4 [(3, .int (nI k)), (2, .int (cSt (fun p => cBa f p) k)), (0, .ref r), (1, .int (nI 1))] → W pg l e (rq 5) s m ([.ref r, .int (nI 1)] : List Value).toArray below meth c H locs 0 0 Q (F0 m 4 ls []) := by
    intro fuel
    induction fuel with
    | zero => intro k h9; exact absurd h9 (Nat.not_lt_zero _)
    | succ fuel ih4 =>
      intro k hfu4 hk H locs hP hS ls hl
      refine lv_iload_n hx hb dX5_setOf_4 rfl (lv_at hl 0 rfl) ?_
      refine lv_aload_n hx hb dX5_setOf_5 rfl (lv_at hl 2 rfl) ?_
      refine rwV0 (rest := [.int (nI k)]) S (c_X3_shots l E r rc f n hf) cd_X3_shots bw_429 ⟨Nat.le_of_ble_eq_true rfl, Nat.le_of_ble_eq_true rfl⟩ ⟨Nat.zero_le _, Nat.zero_le _⟩ hP (hDa.to rfl) hE hA hS [0, 1] rfl rfl [r, rc] rfl rfl (ci := 2) rfl (q0 := 0) rfl (Nat.le_of_ble_eq_true rfl) hl.1 dX5_setOf_6 (fun H locs hP _ hS => ?_)
      have hP : va_P E.1 vwCl [(r, .inr (2, [.ref rc])), (rc, .inl (E.2.1, 293, .inl f))] H := hP
      refine rn_icmp_ge (a := k) (b := n) (tgt := 39) hx hb (by omega) (by omega) dX5_setOf_9 (by decide) (fun c_1 => ?_) (fun c_1 => ?_)
      · have hex : n = k := by omega
        subst hex
        refine lv_iload_n hx hb dX5_setOf_39 rfl (lv_at hl 1 rfl) ?_
        exact hret _ _ _ _ _ _ rfl rfl rfl hP hS dX5_setOf_40
      · refine lv_iload_n hx hb dX5_setOf_12 rfl (lv_at hl 0 rfl) ?_
        refine lv_bipush (v := nI 20) hx hb dX5_setOf_13 (by decide) ?_
        refine rn_icmp_ge (a := k) (b := 20) (tgt := 39) hx hb (by omega) (by omega) dX5_setOf_15 (by decide) (fun c_2 => absurd c_2 (by omega)) (fun c_2 => ?_)
        refine lv_aload_n hx hb dX5_setOf_18 rfl (lv_at hl 2 rfl) ?_
        refine lv_iload_n hx hb dX5_setOf_19 rfl (lv_at hl 0 rfl) ?_
        refine lv_iload_n hx hb dX5_setOf_20 rfl (lv_at hl 3 rfl) ?_
        refine rwS3 (rest := []) S (c_X5_holds_1 l E r rc f n k hf hn (by omega)) cd_X5_holds bw_430 ⟨Nat.le_of_ble_eq_true rfl, Nat.le_of_ble_eq_true rfl⟩ ⟨Nat.zero_le _, Nat.zero_le _⟩ hP (hDa.to rfl) hE hA hS [0, 1] rfl rfl [r, rc] rfl rfl (Nat.le_of_ble_eq_true rfl) hl.1 dX5_setOf_21 (fun H locs hP _ hS => ?_)
        have hP : va_P E.1 vwCl [(r, .inr (2, [.ref rc])), (rc, .inl (E.2.1, 293, .inl f))] H := hP
        refine lv_if_eq (tgt := 33) hx hb dX5_setOf_24 (by decide) (fun c_3 => ?_) (fun c_3 => ?_)
        · refine rn_inc (a := k) (d := 1) (lv' := [(3, .int (nI (k + 1))), (2, .int (cSt (fun p => cBa f p) k)), (0, .ref r), (1, .int (nI 1))]) hx hb dX5_setOf_33 hl (k := 0) rfl (by decide) (by decide) rfl (fun ls hl => ?_)
          refine lv_goto (tgt := 4) hx hb dX5_setOf_36 (by decide) ?_
          have hl : lv_has ls 4 [(3, .int (nI (k + 1))), (2, .int (cSt (fun p => cBa f p) k)), (0, .ref r), (1, .int (nI 1))] := lv_sub hl [0, 1, 2, 3] rfl
          have hl : lv_has ls 4 [(3, .int (nI (k + 1))), (2, .int (cSt (fun p => cBa f p) (k + 1))), (0, .ref r), (1, .int (nI 1))] := by first | (rw [cSt_p (P := fun p => cBa f p) c_3]; exact hl) | (rw [cSt_n (P := fun p => cBa f p) c_3]; exact hl)
          exact ih4 (k + 1) (by omega) (by omega) _ _ hP hS _ hl
        · refine lv_iload_n hx hb dX5_setOf_27 rfl (lv_at hl 1 rfl) ?_
          refine lv_iconst (v := nI 1) hx hb dX5_setOf_28 (by decide) ?_
          refine lv_iload_n hx hb dX5_setOf_29 rfl (lv_at hl 0 rfl) ?_
          refine lv_ishl hx hb dX5_setOf_30 ?_
          refine lv_ior hx hb dX5_setOf_31 ?_
          refine lv_istore_n (lv' := [(2, .int ((cSt (fun p => cBa f p) k) ||| ((nI 1) <<< (nI k &&& 31)))), (3, .int (nI k)), (0, .ref r), (1, .int (nI 1))]) hx hb dX5_setOf_32 rfl hl (by decide) rfl (fun ls hl => ?_)
          refine rn_inc (a := k) (d := 1) (lv' := [(3, .int (nI (k + 1))), (2, .int ((cSt (fun p => cBa f p) k) ||| ((nI 1) <<< (nI k &&& 31)))), (0, .ref r), (1, .int (nI 1))]) hx hb dX5_setOf_33 hl (k := 1) rfl (by decide) (by decide) rfl (fun ls hl => ?_)
          refine lv_goto (tgt := 4) hx hb dX5_setOf_36 (by decide) ?_
          have hl : lv_has ls 4 [(3, .int (nI (k + 1))), (2, .int ((cSt (fun p => cBa f p) k) ||| ((nI 1) <<< (nI k &&& 31)))), (0, .ref r), (1, .int (nI 1))] := lv_sub hl [0, 1, 2, 3] rfl
          have hl : lv_has ls 4 [(3, .int (nI (k + 1))), (2, .int (cSt (fun p => cBa f p) (k + 1))), (0, .ref r), (1, .int (nI 1))] := by first | (rw [cSt_p (P := fun p => cBa f p) c_3]; exact hl) | (rw [cSt_n (P := fun p => cBa f p) c_3]; exact hl)
          exact ih4 (k + 1) (by omega) (by omega) _ _ hP hS _ hl
  have hl : lv_has ls 4 [(3, .int (nI 0)), (2, .int (cSt (fun p => cBa f p) 0)), (0, .ref r), (1, .int (nI 1))] := lv_sub hl [0, 1, 2, 3] rfl
  exact loop4 _ 0 (Nat.lt_succ_self _) (by omega) _ _ hP hS _ hl

set_option maxHeartbeats 4000000 in
set_option maxRecDepth 100000 in
theorem c_X5_setOf_2 (l : Launch) (E : EV) (r : Nat) (rc : Nat) (f : Nat → Int32) (n : Nat) (hf : f 12 = nI n) (hn : n ≤ 20) : rcI l E yX5_setOf cX5_setOf 4 .int 5 [.ref r, .int (nI 2)] [(r, .inr (2, [.ref rc])), (rc, .inl (E.2.1, 293, .inl f))] (cSt (fun p => cJu f n p) n) [(r, .inr (2, [.ref rc])), (rc, .inl (E.2.1, 293, .inl f))] := by
  refine rcI_of (by decide) (Nat.le_of_ble_eq_true rfl) ?_
  intro pg e s m below meth c Q A ls S hP hD0 hE hA hl hret
  have hx := S.1
  have hb := S.2.1
  have hown := S.2.2.2.1
  have hts := S.2.2.2.2
  have hK := hE.1
  have hS : va_S A s.heap s.heap [] := va_S.rf
  have hDa : va_Da A [r, rc] := ⟨_, hD0, rfl⟩
  have hl : lv_has ls 4 [(0, .ref r), (1, .int (nI 2))] := hl
  refine lv_iconst (v := nI 0) hx hb dX5_setOf_0 (by decide) ?_
  refine lv_istore_n (lv' := [(2, .int (nI 0)), (0, .ref r), (1, .int (nI 2))]) hx hb dX5_setOf_1 rfl hl (by decide) rfl (fun ls hl => ?_)
  refine lv_iconst (v := nI 0) hx hb dX5_setOf_2 (by decide) ?_
  refine lv_istore_n (lv' := [(3, .int (nI 0)), (2, .int (nI 0)), (0, .ref r), (1, .int (nI 2))]) hx hb dX5_setOf_3 rfl hl (by decide) rfl (fun ls hl => ?_)
  have loop4 : ∀ (fuel : Nat) (k : Nat), n - k < fuel → (k ≤ n) → ∀ (H : Heap) (locs : List Loc), va_P E.1 vwCl [(r, .inr (2, [.ref rc])), (rc, .inl (E.2.1, 293, .inl f))] H → va_S A s.heap H locs → ∀ ls : Array Slot, lv_has ls 4 [(3, .int (nI k)), (2, .int (cSt (fun p => cJu f n p) k)), (0, .ref r), (1, .int (nI 2))] → W pg l e (rq 5) s m ([.ref r, .int (nI 2)] : List Value).toArray below meth c H locs 0 0 Q (F0 m 4 ls []) := by
    intro fuel
    induction fuel with
    | zero => intro k h9; exact absurd h9 (Nat.not_lt_zero _)
    | succ fuel ih4 =>
      intro k hfu4 hk H locs hP hS ls hl
      refine lv_iload_n hx hb dX5_setOf_4 rfl (lv_at hl 0 rfl) ?_
      refine lv_aload_n hx hb dX5_setOf_5 rfl (lv_at hl 2 rfl) ?_
      refine rwV0 (rest := [.int (nI k)]) S (c_X3_shots l E r rc f n hf) cd_X3_shots bw_429 ⟨Nat.le_of_ble_eq_true rfl, Nat.le_of_ble_eq_true rfl⟩ ⟨Nat.zero_le _, Nat.zero_le _⟩ hP (hDa.to rfl) hE hA hS [0, 1] rfl rfl [r, rc] rfl rfl (ci := 2) rfl (q0 := 0) rfl (Nat.le_of_ble_eq_true rfl) hl.1 dX5_setOf_6 (fun H locs hP _ hS => ?_)
      have hP : va_P E.1 vwCl [(r, .inr (2, [.ref rc])), (rc, .inl (E.2.1, 293, .inl f))] H := hP
      refine rn_icmp_ge (a := k) (b := n) (tgt := 39) hx hb (by omega) (by omega) dX5_setOf_9 (by decide) (fun c_1 => ?_) (fun c_1 => ?_)
      · have hex : n = k := by omega
        subst hex
        refine lv_iload_n hx hb dX5_setOf_39 rfl (lv_at hl 1 rfl) ?_
        exact hret _ _ _ _ _ _ rfl rfl rfl hP hS dX5_setOf_40
      · refine lv_iload_n hx hb dX5_setOf_12 rfl (lv_at hl 0 rfl) ?_
        refine lv_bipush (v := nI 20) hx hb dX5_setOf_13 (by decide) ?_
        refine rn_icmp_ge (a := k) (b := 20) (tgt := 39) hx hb (by omega) (by omega) dX5_setOf_15 (by decide) (fun c_2 => absurd c_2 (by omega)) (fun c_2 => ?_)
        refine lv_aload_n hx hb dX5_setOf_18 rfl (lv_at hl 2 rfl) ?_
        refine lv_iload_n hx hb dX5_setOf_19 rfl (lv_at hl 0 rfl) ?_
        refine lv_iload_n hx hb dX5_setOf_20 rfl (lv_at hl 3 rfl) ?_
        refine rwS3 (rest := []) S (c_X5_holds_2 l E r rc f n k hf hn (by omega)) cd_X5_holds bw_430 ⟨Nat.le_of_ble_eq_true rfl, Nat.le_of_ble_eq_true rfl⟩ ⟨Nat.zero_le _, Nat.zero_le _⟩ hP (hDa.to rfl) hE hA hS [0, 1] rfl rfl [r, rc] rfl rfl (Nat.le_of_ble_eq_true rfl) hl.1 dX5_setOf_21 (fun H locs hP _ hS => ?_)
        have hP : va_P E.1 vwCl [(r, .inr (2, [.ref rc])), (rc, .inl (E.2.1, 293, .inl f))] H := hP
        refine lv_if_eq (tgt := 33) hx hb dX5_setOf_24 (by decide) (fun c_3 => ?_) (fun c_3 => ?_)
        · refine rn_inc (a := k) (d := 1) (lv' := [(3, .int (nI (k + 1))), (2, .int (cSt (fun p => cJu f n p) k)), (0, .ref r), (1, .int (nI 2))]) hx hb dX5_setOf_33 hl (k := 0) rfl (by decide) (by decide) rfl (fun ls hl => ?_)
          refine lv_goto (tgt := 4) hx hb dX5_setOf_36 (by decide) ?_
          have hl : lv_has ls 4 [(3, .int (nI (k + 1))), (2, .int (cSt (fun p => cJu f n p) k)), (0, .ref r), (1, .int (nI 2))] := lv_sub hl [0, 1, 2, 3] rfl
          have hl : lv_has ls 4 [(3, .int (nI (k + 1))), (2, .int (cSt (fun p => cJu f n p) (k + 1))), (0, .ref r), (1, .int (nI 2))] := by first | (rw [cSt_p (P := fun p => cJu f n p) c_3]; exact hl) | (rw [cSt_n (P := fun p => cJu f n p) c_3]; exact hl)
          exact ih4 (k + 1) (by omega) (by omega) _ _ hP hS _ hl
        · refine lv_iload_n hx hb dX5_setOf_27 rfl (lv_at hl 1 rfl) ?_
          refine lv_iconst (v := nI 1) hx hb dX5_setOf_28 (by decide) ?_
          refine lv_iload_n hx hb dX5_setOf_29 rfl (lv_at hl 0 rfl) ?_
          refine lv_ishl hx hb dX5_setOf_30 ?_
          refine lv_ior hx hb dX5_setOf_31 ?_
          refine lv_istore_n (lv' := [(2, .int ((cSt (fun p => cJu f n p) k) ||| ((nI 1) <<< (nI k &&& 31)))), (3, .int (nI k)), (0, .ref r), (1, .int (nI 2))]) hx hb dX5_setOf_32 rfl hl (by decide) rfl (fun ls hl => ?_)
          refine rn_inc (a := k) (d := 1) (lv' := [(3, .int (nI (k + 1))), (2, .int ((cSt (fun p => cJu f n p) k) ||| ((nI 1) <<< (nI k &&& 31)))), (0, .ref r), (1, .int (nI 2))]) hx hb dX5_setOf_33 hl (k := 1) rfl (by decide) (by decide) rfl (fun ls hl => ?_)
          refine lv_goto (tgt := 4) hx hb dX5_setOf_36 (by decide) ?_
          have hl : lv_has ls 4 [(3, .int (nI (k + 1))), (2, .int ((cSt (fun p => cJu f n p) k) ||| ((nI 1) <<< (nI k &&& 31)))), (0, .ref r), (1, .int (nI 2))] := lv_sub hl [0, 1, 2, 3] rfl
          have hl : lv_has ls 4 [(3, .int (nI (k + 1))), (2, .int (cSt (fun p => cJu f n p) (k + 1))), (0, .ref r), (1, .int (nI 2))] := by first | (rw [cSt_p (P := fun p => cJu f n p) c_3]; exact hl) | (rw [cSt_n (P := fun p => cJu f n p) c_3]; exact hl)
          exact ih4 (k + 1) (by omega) (by omega) _ _ hP hS _ hl
  have hl : lv_has ls 4 [(3, .int (nI 0)), (2, .int (cSt (fun p => cJu f n p) 0)), (0, .ref r), (1, .int (nI 2))] := lv_sub hl [0, 1, 2, 3] rfl
  exact loop4 _ 0 (Nat.lt_succ_self _) (by omega) _ _ hP hS _ hl

set_option maxHeartbeats 4000000 in
set_option maxRecDepth 100000 in
theorem c_X5_setOf_3 (l : Launch) (E : EV) (r : Nat) (rc : Nat) (f : Nat → Int32) (n : Nat) (hf : f 12 = nI n) (hn : n ≤ 20) : rcI l E yX5_setOf cX5_setOf 4 .int 5 [.ref r, .int (nI 3)] [(r, .inr (2, [.ref rc])), (rc, .inl (E.2.1, 293, .inl f))] (cSt (fun p => cOo f p) n) [(r, .inr (2, [.ref rc])), (rc, .inl (E.2.1, 293, .inl f))] := by
  refine rcI_of (by decide) (Nat.le_of_ble_eq_true rfl) ?_
  intro pg e s m below meth c Q A ls S hP hD0 hE hA hl hret
  have hx := S.1
  have hb := S.2.1
  have hown := S.2.2.2.1
  have hts := S.2.2.2.2
  have hK := hE.1
  have hS : va_S A s.heap s.heap [] := va_S.rf
  have hDa : va_Da A [r, rc] := ⟨_, hD0, rfl⟩
  have hl : lv_has ls 4 [(0, .ref r), (1, .int (nI 3))] := hl
  refine lv_iconst (v := nI 0) hx hb dX5_setOf_0 (by decide) ?_
  refine lv_istore_n (lv' := [(2, .int (nI 0)), (0, .ref r), (1, .int (nI 3))]) hx hb dX5_setOf_1 rfl hl (by decide) rfl (fun ls hl => ?_)
  refine lv_iconst (v := nI 0) hx hb dX5_setOf_2 (by decide) ?_
  refine lv_istore_n (lv' := [(3, .int (nI 0)), (2, .int (nI 0)), (0, .ref r), (1, .int (nI 3))]) hx hb dX5_setOf_3 rfl hl (by decide) rfl (fun ls hl => ?_)
  have loop4 : ∀ (fuel : Nat) (k : Nat), n - k < fuel → (k ≤ n) → ∀ (H : Heap) (locs : List Loc), va_P E.1 vwCl [(r, .inr (2, [.ref rc])), (rc, .inl (E.2.1, 293, .inl f))] H → va_S A s.heap H locs → ∀ ls : Array Slot, lv_has ls 4 [(3, .int (nI k)), (2, .int (cSt (fun p => cOo f p) k)), (0, .ref r), (1, .int (nI 3))] → W pg l e (rq 5) s m ([.ref r, .int (nI 3)] : List Value).toArray below meth c H locs 0 0 Q (F0 m 4 ls []) := by
    intro fuel
    induction fuel with
    | zero => intro k h9; exact absurd h9 (Nat.not_lt_zero _)
    | succ fuel ih4 =>
      intro k hfu4 hk H locs hP hS ls hl
      refine lv_iload_n hx hb dX5_setOf_4 rfl (lv_at hl 0 rfl) ?_
      refine lv_aload_n hx hb dX5_setOf_5 rfl (lv_at hl 2 rfl) ?_
      refine rwV0 (rest := [.int (nI k)]) S (c_X3_shots l E r rc f n hf) cd_X3_shots bw_429 ⟨Nat.le_of_ble_eq_true rfl, Nat.le_of_ble_eq_true rfl⟩ ⟨Nat.zero_le _, Nat.zero_le _⟩ hP (hDa.to rfl) hE hA hS [0, 1] rfl rfl [r, rc] rfl rfl (ci := 2) rfl (q0 := 0) rfl (Nat.le_of_ble_eq_true rfl) hl.1 dX5_setOf_6 (fun H locs hP _ hS => ?_)
      have hP : va_P E.1 vwCl [(r, .inr (2, [.ref rc])), (rc, .inl (E.2.1, 293, .inl f))] H := hP
      refine rn_icmp_ge (a := k) (b := n) (tgt := 39) hx hb (by omega) (by omega) dX5_setOf_9 (by decide) (fun c_1 => ?_) (fun c_1 => ?_)
      · have hex : n = k := by omega
        subst hex
        refine lv_iload_n hx hb dX5_setOf_39 rfl (lv_at hl 1 rfl) ?_
        exact hret _ _ _ _ _ _ rfl rfl rfl hP hS dX5_setOf_40
      · refine lv_iload_n hx hb dX5_setOf_12 rfl (lv_at hl 0 rfl) ?_
        refine lv_bipush (v := nI 20) hx hb dX5_setOf_13 (by decide) ?_
        refine rn_icmp_ge (a := k) (b := 20) (tgt := 39) hx hb (by omega) (by omega) dX5_setOf_15 (by decide) (fun c_2 => absurd c_2 (by omega)) (fun c_2 => ?_)
        refine lv_aload_n hx hb dX5_setOf_18 rfl (lv_at hl 2 rfl) ?_
        refine lv_iload_n hx hb dX5_setOf_19 rfl (lv_at hl 0 rfl) ?_
        refine lv_iload_n hx hb dX5_setOf_20 rfl (lv_at hl 3 rfl) ?_
        refine rwS3 (rest := []) S (c_X5_holds_3 l E r rc f n k hf hn (by omega)) cd_X5_holds bw_430 ⟨Nat.le_of_ble_eq_true rfl, Nat.le_of_ble_eq_true rfl⟩ ⟨Nat.zero_le _, Nat.zero_le _⟩ hP (hDa.to rfl) hE hA hS [0, 1] rfl rfl [r, rc] rfl rfl (Nat.le_of_ble_eq_true rfl) hl.1 dX5_setOf_21 (fun H locs hP _ hS => ?_)
        have hP : va_P E.1 vwCl [(r, .inr (2, [.ref rc])), (rc, .inl (E.2.1, 293, .inl f))] H := hP
        refine lv_if_eq (tgt := 33) hx hb dX5_setOf_24 (by decide) (fun c_3 => ?_) (fun c_3 => ?_)
        · refine rn_inc (a := k) (d := 1) (lv' := [(3, .int (nI (k + 1))), (2, .int (cSt (fun p => cOo f p) k)), (0, .ref r), (1, .int (nI 3))]) hx hb dX5_setOf_33 hl (k := 0) rfl (by decide) (by decide) rfl (fun ls hl => ?_)
          refine lv_goto (tgt := 4) hx hb dX5_setOf_36 (by decide) ?_
          have hl : lv_has ls 4 [(3, .int (nI (k + 1))), (2, .int (cSt (fun p => cOo f p) k)), (0, .ref r), (1, .int (nI 3))] := lv_sub hl [0, 1, 2, 3] rfl
          have hl : lv_has ls 4 [(3, .int (nI (k + 1))), (2, .int (cSt (fun p => cOo f p) (k + 1))), (0, .ref r), (1, .int (nI 3))] := by first | (rw [cSt_p (P := fun p => cOo f p) c_3]; exact hl) | (rw [cSt_n (P := fun p => cOo f p) c_3]; exact hl)
          exact ih4 (k + 1) (by omega) (by omega) _ _ hP hS _ hl
        · refine lv_iload_n hx hb dX5_setOf_27 rfl (lv_at hl 1 rfl) ?_
          refine lv_iconst (v := nI 1) hx hb dX5_setOf_28 (by decide) ?_
          refine lv_iload_n hx hb dX5_setOf_29 rfl (lv_at hl 0 rfl) ?_
          refine lv_ishl hx hb dX5_setOf_30 ?_
          refine lv_ior hx hb dX5_setOf_31 ?_
          refine lv_istore_n (lv' := [(2, .int ((cSt (fun p => cOo f p) k) ||| ((nI 1) <<< (nI k &&& 31)))), (3, .int (nI k)), (0, .ref r), (1, .int (nI 3))]) hx hb dX5_setOf_32 rfl hl (by decide) rfl (fun ls hl => ?_)
          refine rn_inc (a := k) (d := 1) (lv' := [(3, .int (nI (k + 1))), (2, .int ((cSt (fun p => cOo f p) k) ||| ((nI 1) <<< (nI k &&& 31)))), (0, .ref r), (1, .int (nI 3))]) hx hb dX5_setOf_33 hl (k := 1) rfl (by decide) (by decide) rfl (fun ls hl => ?_)
          refine lv_goto (tgt := 4) hx hb dX5_setOf_36 (by decide) ?_
          have hl : lv_has ls 4 [(3, .int (nI (k + 1))), (2, .int ((cSt (fun p => cOo f p) k) ||| ((nI 1) <<< (nI k &&& 31)))), (0, .ref r), (1, .int (nI 3))] := lv_sub hl [0, 1, 2, 3] rfl
          have hl : lv_has ls 4 [(3, .int (nI (k + 1))), (2, .int (cSt (fun p => cOo f p) (k + 1))), (0, .ref r), (1, .int (nI 3))] := by first | (rw [cSt_p (P := fun p => cOo f p) c_3]; exact hl) | (rw [cSt_n (P := fun p => cOo f p) c_3]; exact hl)
          exact ih4 (k + 1) (by omega) (by omega) _ _ hP hS _ hl
  have hl : lv_has ls 4 [(3, .int (nI 0)), (2, .int (cSt (fun p => cOo f p) 0)), (0, .ref r), (1, .int (nI 3))] := lv_sub hl [0, 1, 2, 3] rfl
  exact loop4 _ 0 (Nat.lt_succ_self _) (by omega) _ _ hP hS _ hl

