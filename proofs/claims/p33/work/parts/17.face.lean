/-! the face: what there is, what would be, texts, undo, slots -/
theorem cd_X7_of : cdV RX7 yX7_of cX7_of 3 (some .int) 2 := ⟨⟨bw_458, bw_2, by decide, by decide, by decide +kernel⟩, bw_456, bw_457⟩
def fOf (f : Nat → Int32) (n : Nat) (a1 : Int32) (a2 : Int32) : Int32 := if hasS n a1 = 0 then (-1) else if a2 = nI 0 then f (13 + 14 * (ix a1) + 0) else if a2 = nI 1 then cFt f (ix a1) else if a2 = nI 2 then if cAn f (ix a1) = 0 then nI 0 else nI 1 else if a2 = nI 3 then if cBa f (ix a1) = 0 then nI 0 else nI 1 else if a2 = nI 4 then if cJu f n (ix a1) = 0 then nI 0 else nI 1 else (-2)
set_option maxHeartbeats 4000000 in
set_option maxRecDepth 100000 in
theorem c_X7_of (l : Launch) (E : EV) (xo : Nat) (r : Nat) (r2 : Nat) (r3 : Nat) (d : Nat) (y : Nat) (q2 : Nat) (sf : Int32) (rc : Nat) (f : Nat → Int32) (n : Nat) (a1 : Int32) (a2 : Int32) (hf : f 12 = nI n) (hn : n ≤ 20) : rcI l E yX7_of cX7_of 3 .int 6 [.ref xo, .int a1, .int a2] [(xo, .inr (4, [.ref r, .ref r2, .ref r3, .ref d, .ref y, .ref q2, .int sf])), (r, .inr (2, [.ref rc])), (rc, .inl (E.2.1, 293, .inl f))] (fOf f n a1 a2) [(xo, .inr (4, [.ref r, .ref r2, .ref r3, .ref d, .ref y, .ref q2, .int sf])), (r, .inr (2, [.ref rc])), (rc, .inl (E.2.1, 293, .inl f))] := by
  refine rcI_of (by decide) (Nat.le_of_ble_eq_true rfl) ?_
  intro pg e s m below meth c Q A ls S hP hD0 hE hA hl hret
  have hx := S.1
  have hb := S.2.1
  have hown := S.2.2.2.1
  have hts := S.2.2.2.2
  have hK := hE.1
  have hS : va_S A s.heap s.heap [] := va_S.rf
  have hDa : va_Da A [xo, r, rc] := ⟨_, hD0, rfl⟩
  have hl : lv_has ls 3 [(0, .ref xo), (1, .int a1), (2, .int a2)] := hl
  refine lv_aload_n hx hb dX7_of_0 rfl (lv_at hl 0 rfl) ?_
  refine va_get (D := E.1) (ci := 4) (v := .ref r) (C := RX7) (T := TX7) (N := 7) hx hb hts inb_X7 hown hK hP 0 rfl rfl 0 (by decide) (hts _ bw_94) (fun _ h9 => h9) rfl dX7_of_1 ?_
  refine lv_iload_n hx hb dX7_of_4 rfl (lv_at hl 1 rfl) ?_
  refine rwV1 (rest := []) S (c_X3_hasShot l E r rc f n a1 hf) cd_X3_hasShot bw_459 ⟨Nat.le_of_ble_eq_true rfl, Nat.le_of_ble_eq_true rfl⟩ ⟨Nat.zero_le _, Nat.zero_le _⟩ hP (hDa.to rfl) hE hA hS [1, 2] rfl rfl [r, rc] rfl rfl (ci := 2) rfl (q0 := 0) rfl (Nat.le_of_ble_eq_true rfl) hl.1 dX7_of_5 (fun H locs hP _ hS => ?_)
  have hP : va_P E.1 vwCl [(xo, .inr (4, [.ref r, .ref r2, .ref r3, .ref d, .ref y, .ref q2, .int sf])), (r, .inr (2, [.ref rc])), (rc, .inl (E.2.1, 293, .inl f))] H := hP
  refine lv_if_ne (tgt := 13) hx hb dX7_of_8 (by decide) (fun c_1 => ?_) (fun c_1 => ?_)
  · obtain ⟨p, h9_p, rfl⟩ : ∃ p : Nat, p < n ∧ a1 = nI p := (hasS_of (by omega) c_1)
    refine lv_iload_n hx hb dX7_of_13 rfl (lv_at hl 2 rfl) ?_
    by_cases c_2 : a2 = nI 0
    · refine lv_tableIn (tgt := 48) hx hb dX7_of_14 (by rw [c_2]; decide) (by rw [c_2]; decide) (by rw [c_2]; rfl) (by decide) ?_
      refine lv_aload_n hx hb dX7_of_48 rfl (lv_at hl 0 rfl) ?_
      refine va_get (D := E.1) (ci := 4) (v := .ref r) (C := RX7) (T := TX7) (N := 7) hx hb hts inb_X7 hown hK hP 0 rfl rfl 0 (by decide) (hts _ bw_94) (fun _ h9 => h9) rfl dX7_of_49 ?_
      refine lv_iload_n hx hb dX7_of_52 rfl (lv_at hl 1 rfl) ?_
      refine lv_iconst (v := nI 0) hx hb dX7_of_53 (by decide) ?_
      refine rwV2 (rest := []) S (c_X3_readShot l E r rc f p 0 (by omega) (by omega)) cd_X3_readShot bw_460 ⟨Nat.le_of_ble_eq_true rfl, Nat.le_of_ble_eq_true rfl⟩ ⟨Nat.zero_le _, Nat.zero_le _⟩ hP (hDa.to rfl) hE hA hS [1, 2] rfl rfl [r, rc] rfl rfl (ci := 2) rfl (q0 := 0) rfl (Nat.le_of_ble_eq_true rfl) hl.1 dX7_of_54 (fun H locs hP _ hS => ?_)
      have hP : va_P E.1 vwCl [(xo, .inr (4, [.ref r, .ref r2, .ref r3, .ref d, .ref y, .ref q2, .int sf])), (r, .inr (2, [.ref rc])), (rc, .inl (E.2.1, 293, .inl f))] H := hP
      exact hret _ _ _ _ _ _ (by first | rw [fOf, ix_nI (show p < 2 ^ 31 by omega), if_neg c_1, if_pos c_2] | rw [fOf, if_neg c_1, if_pos c_2] | simp only [fOf, ix_nI (show p < 2 ^ 31 by omega), if_neg c_1, if_pos c_2]) rfl rfl hP hS dX7_of_57
    by_cases c_3 : a2 = nI 1
    · refine lv_tableIn (tgt := 58) hx hb dX7_of_14 (by rw [c_3]; decide) (by rw [c_3]; decide) (by rw [c_3]; rfl) (by decide) ?_
      refine lv_aload_n hx hb dX7_of_58 rfl (lv_at hl 0 rfl) ?_
      refine va_get (D := E.1) (ci := 4) (v := .ref r) (C := RX7) (T := TX7) (N := 7) hx hb hts inb_X7 hown hK hP 0 rfl rfl 0 (by decide) (hts _ bw_94) (fun _ h9 => h9) rfl dX7_of_59 ?_
      refine lv_iload_n hx hb dX7_of_62 rfl (lv_at hl 1 rfl) ?_
      refine rwS2 (rest := []) S (c_X5_feetBefore l E r rc f p (by omega)) cd_X5_feetBefore bw_424 ⟨Nat.le_of_ble_eq_true rfl, Nat.le_of_ble_eq_true rfl⟩ ⟨Nat.zero_le _, Nat.zero_le _⟩ hP (hDa.to rfl) hE hA hS [1, 2] rfl rfl [r, rc] rfl rfl (Nat.le_of_ble_eq_true rfl) hl.1 dX7_of_63 (fun H locs hP _ hS => ?_)
      have hP : va_P E.1 vwCl [(xo, .inr (4, [.ref r, .ref r2, .ref r3, .ref d, .ref y, .ref q2, .int sf])), (r, .inr (2, [.ref rc])), (rc, .inl (E.2.1, 293, .inl f))] H := hP
      exact hret _ _ _ _ _ _ (by first | rw [fOf, ix_nI (show p < 2 ^ 31 by omega), if_neg c_1, if_neg c_2, if_pos c_3] | rw [fOf, if_neg c_1, if_neg c_2, if_pos c_3] | simp only [fOf, ix_nI (show p < 2 ^ 31 by omega), if_neg c_1, if_neg c_2, if_pos c_3]) rfl rfl hP hS dX7_of_66
    by_cases c_4 : a2 = nI 2
    · refine lv_tableIn (tgt := 67) hx hb dX7_of_14 (by rw [c_4]; decide) (by rw [c_4]; decide) (by rw [c_4]; rfl) (by decide) ?_
      refine lv_aload_n hx hb dX7_of_67 rfl (lv_at hl 0 rfl) ?_
      refine va_get (D := E.1) (ci := 4) (v := .ref r) (C := RX7) (T := TX7) (N := 7) hx hb hts inb_X7 hown hK hP 0 rfl rfl 0 (by decide) (hts _ bw_94) (fun _ h9 => h9) rfl dX7_of_68 ?_
      refine lv_iload_n hx hb dX7_of_71 rfl (lv_at hl 1 rfl) ?_
      refine rwS2 (rest := []) S (c_X5_isAnswered l E r rc f p (by omega)) cd_X5_isAnswered bw_461 ⟨Nat.le_of_ble_eq_true rfl, Nat.le_of_ble_eq_true rfl⟩ ⟨Nat.zero_le _, Nat.zero_le _⟩ hP (hDa.to rfl) hE hA hS [1, 2] rfl rfl [r, rc] rfl rfl (Nat.le_of_ble_eq_true rfl) hl.1 dX7_of_72 (fun H locs hP _ hS => ?_)
      have hP : va_P E.1 vwCl [(xo, .inr (4, [.ref r, .ref r2, .ref r3, .ref d, .ref y, .ref q2, .int sf])), (r, .inr (2, [.ref rc])), (rc, .inl (E.2.1, 293, .inl f))] H := hP
      refine lv_if_eq (tgt := 82) hx hb dX7_of_75 (by decide) (fun c_5 => ?_) (fun c_5 => ?_)
      · refine lv_iconst (v := nI 0) hx hb dX7_of_82 (by decide) ?_
        exact hret _ _ _ _ _ _ (by first | rw [fOf, ix_nI (show p < 2 ^ 31 by omega), if_neg c_1, if_neg c_2, if_neg c_3, if_pos c_4, if_pos c_5] | rw [fOf, if_neg c_1, if_neg c_2, if_neg c_3, if_pos c_4, if_pos c_5] | simp only [fOf, ix_nI (show p < 2 ^ 31 by omega), if_neg c_1, if_neg c_2, if_neg c_3, if_pos c_4, if_pos c_5]) rfl rfl hP hS dX7_of_83
      · refine lv_iconst (v := nI 1) hx hb dX7_of_78 (by decide) ?_
        refine lv_goto (tgt := 83) hx hb dX7_of_79 (by decide) ?_
        exact hret _ _ _ _ _ _ (by first | rw [fOf, ix_nI (show p < 2 ^ 31 by omega), if_neg c_1, if_neg c_2, if_neg c_3, if_pos c_4, if_neg c_5] | rw [fOf, if_neg c_1, if_neg c_2, if_neg c_3, if_pos c_4, if_neg c_5] | simp only [fOf, ix_nI (show p < 2 ^ 31 by omega), if_neg c_1, if_neg c_2, if_neg c_3, if_pos c_4, if_neg c_5]) rfl rfl hP hS dX7_of_83
    by_cases c_6 : a2 = nI 3
    · refine lv_tableIn (tgt := 84) hx hb dX7_of_14 (by rw [c_6]; decide) (by rw [c_6]; decide) (by rw [c_6]; rfl) (by decide) ?_
      refine lv_aload_n hx hb dX7_of_84 rfl (lv_at hl 0 rfl) ?_
      refine va_get (D := E.1) (ci := 4) (v := .ref r) (C := RX7) (T := TX7) (N := 7) hx hb hts inb_X7 hown hK hP 0 rfl rfl 0 (by decide) (hts _ bw_94) (fun _ h9 => h9) rfl dX7_of_85 ?_
      refine lv_iload_n hx hb dX7_of_88 rfl (lv_at hl 1 rfl) ?_
      refine rwS2 (rest := []) S (c_X5_isBad l E r rc f p (by omega)) cd_X5_isBad bw_462 ⟨Nat.le_of_ble_eq_true rfl, Nat.le_of_ble_eq_true rfl⟩ ⟨Nat.zero_le _, Nat.zero_le _⟩ hP (hDa.to rfl) hE hA hS [1, 2] rfl rfl [r, rc] rfl rfl (Nat.le_of_ble_eq_true rfl) hl.1 dX7_of_89 (fun H locs hP _ hS => ?_)
      have hP : va_P E.1 vwCl [(xo, .inr (4, [.ref r, .ref r2, .ref r3, .ref d, .ref y, .ref q2, .int sf])), (r, .inr (2, [.ref rc])), (rc, .inl (E.2.1, 293, .inl f))] H := hP
      refine lv_if_eq (tgt := 99) hx hb dX7_of_92 (by decide) (fun c_7 => ?_) (fun c_7 => ?_)
      · refine lv_iconst (v := nI 0) hx hb dX7_of_99 (by decide) ?_
        exact hret _ _ _ _ _ _ (by first | rw [fOf, ix_nI (show p < 2 ^ 31 by omega), if_neg c_1, if_neg c_2, if_neg c_3, if_neg c_4, if_pos c_6, if_pos c_7] | rw [fOf, if_neg c_1, if_neg c_2, if_neg c_3, if_neg c_4, if_pos c_6, if_pos c_7] | simp only [fOf, ix_nI (show p < 2 ^ 31 by omega), if_neg c_1, if_neg c_2, if_neg c_3, if_neg c_4, if_pos c_6, if_pos c_7]) rfl rfl hP hS dX7_of_100
      · refine lv_iconst (v := nI 1) hx hb dX7_of_95 (by decide) ?_
        refine lv_goto (tgt := 100) hx hb dX7_of_96 (by decide) ?_
        exact hret _ _ _ _ _ _ (by first | rw [fOf, ix_nI (show p < 2 ^ 31 by omega), if_neg c_1, if_neg c_2, if_neg c_3, if_neg c_4, if_pos c_6, if_neg c_7] | rw [fOf, if_neg c_1, if_neg c_2, if_neg c_3, if_neg c_4, if_pos c_6, if_neg c_7] | simp only [fOf, ix_nI (show p < 2 ^ 31 by omega), if_neg c_1, if_neg c_2, if_neg c_3, if_neg c_4, if_pos c_6, if_neg c_7]) rfl rfl hP hS dX7_of_100
    by_cases c_8 : a2 = nI 4
    · refine lv_tableIn (tgt := 101) hx hb dX7_of_14 (by rw [c_8]; decide) (by rw [c_8]; decide) (by rw [c_8]; rfl) (by decide) ?_
      refine lv_aload_n hx hb dX7_of_101 rfl (lv_at hl 0 rfl) ?_
      refine va_get (D := E.1) (ci := 4) (v := .ref r) (C := RX7) (T := TX7) (N := 7) hx hb hts inb_X7 hown hK hP 0 rfl rfl 0 (by decide) (hts _ bw_94) (fun _ h9 => h9) rfl dX7_of_102 ?_
      refine lv_iload_n hx hb dX7_of_105 rfl (lv_at hl 1 rfl) ?_
      refine rwS2 (rest := []) S (c_X5_jumps l E r rc f n p hf hn (by omega)) cd_X5_jumps bw_463 ⟨Nat.le_of_ble_eq_true rfl, Nat.le_of_ble_eq_true rfl⟩ ⟨Nat.zero_le _, Nat.zero_le _⟩ hP (hDa.to rfl) hE hA hS [1, 2] rfl rfl [r, rc] rfl rfl (Nat.le_of_ble_eq_true rfl) hl.1 dX7_of_106 (fun H locs hP _ hS => ?_)
      have hP : va_P E.1 vwCl [(xo, .inr (4, [.ref r, .ref r2, .ref r3, .ref d, .ref y, .ref q2, .int sf])), (r, .inr (2, [.ref rc])), (rc, .inl (E.2.1, 293, .inl f))] H := hP
      refine lv_if_eq (tgt := 116) hx hb dX7_of_109 (by decide) (fun c_9 => ?_) (fun c_9 => ?_)
      · refine lv_iconst (v := nI 0) hx hb dX7_of_116 (by decide) ?_
        exact hret _ _ _ _ _ _ (by first | rw [fOf, ix_nI (show p < 2 ^ 31 by omega), if_neg c_1, if_neg c_2, if_neg c_3, if_neg c_4, if_neg c_6, if_pos c_8, if_pos c_9] | rw [fOf, if_neg c_1, if_neg c_2, if_neg c_3, if_neg c_4, if_neg c_6, if_pos c_8, if_pos c_9] | simp only [fOf, ix_nI (show p < 2 ^ 31 by omega), if_neg c_1, if_neg c_2, if_neg c_3, if_neg c_4, if_neg c_6, if_pos c_8, if_pos c_9]) rfl rfl hP hS dX7_of_117
      · refine lv_iconst (v := nI 1) hx hb dX7_of_112 (by decide) ?_
        refine lv_goto (tgt := 117) hx hb dX7_of_113 (by decide) ?_
        exact hret _ _ _ _ _ _ (by first | rw [fOf, ix_nI (show p < 2 ^ 31 by omega), if_neg c_1, if_neg c_2, if_neg c_3, if_neg c_4, if_neg c_6, if_pos c_8, if_neg c_9] | rw [fOf, if_neg c_1, if_neg c_2, if_neg c_3, if_neg c_4, if_neg c_6, if_pos c_8, if_neg c_9] | simp only [fOf, ix_nI (show p < 2 ^ 31 by omega), if_neg c_1, if_neg c_2, if_neg c_3, if_neg c_4, if_neg c_6, if_pos c_8, if_neg c_9]) rfl rfl hP hS dX7_of_117
    refine lv_tableOut (tgt := 118) hx hb dX7_of_14 (sw_out (lo := 0) (n := 5) ((lt_s (lt_s (lt_s (lt_s (lt_s lt_0 c_2) c_3) c_4) c_6) c_8 : ∀ a, a < 5 → (fun a => ¬ a2 = nI (0 + a)) a))) (by decide) ?_
    refine lv_bipush (v := (-2)) hx hb dX7_of_118 (by decide) ?_
    exact hret _ _ _ _ _ _ (by first | rw [fOf, ix_nI (show p < 2 ^ 31 by omega), if_neg c_1, if_neg c_2, if_neg c_3, if_neg c_4, if_neg c_6, if_neg c_8] | rw [fOf, if_neg c_1, if_neg c_2, if_neg c_3, if_neg c_4, if_neg c_6, if_neg c_8] | simp only [fOf, ix_nI (show p < 2 ^ 31 by omega), if_neg c_1, if_neg c_2, if_neg c_3, if_neg c_4, if_neg c_6, if_neg c_8]) rfl rfl hP hS dX7_of_120
  · refine lv_iconst (v := (-1)) hx hb dX7_of_11 (by decide) ?_
    exact hret _ _ _ _ _ _ (by rw [fOf, if_pos c_1]) rfl rfl hP hS dX7_of_12

theorem cd_X7_inColour : cdV RX7 yX7_inColour cX7_inColour 4 (some .int) 3 := ⟨⟨bw_487, bw_2, by decide, by decide, by decide +kernel⟩, bw_485, bw_486⟩
def fIn (f : Nat → Int32) (n : Nat) (a1 : Int32) (a2 : Int32) (a3 : Int32) : Int32 := if hasS n a1 = 0 then (-1) else if isC a2 = 0 then (-2) else if a3 = nI 0 then f (13 + 14 * (ix a1) + (2 + (ix a2))) else if a3 = nI 1 then f (13 + 14 * (ix a1) + (5 + (ix a2))) + (nI 10) else if a3 = nI 2 then f (13 + 14 * (ix a1) + (8 + (ix a2))) else if a3 = nI 3 then cPn f (ix a1) (ix a2) else if a3 = nI 4 then cOn f (ix a1) (ix a2) + (nI 100) else if a3 = nI 5 then if cAn f (ix a1) = 0 then (-6) else f (13 + 14 * (ix a1) + (11 + (ix a2))) + (nI 100) else (-2)
set_option maxHeartbeats 4000000 in
set_option maxRecDepth 100000 in
theorem c_X7_inColour (l : Launch) (E : EV) (xo : Nat) (r : Nat) (r2 : Nat) (r3 : Nat) (d : Nat) (y : Nat) (q2 : Nat) (sf : Int32) (rc : Nat) (f : Nat → Int32) (n : Nat) (a1 : Int32) (a2 : Int32) (a3 : Int32) (hf : f 12 = nI n) (hn : n ≤ 20) : rcI l E yX7_inColour cX7_inColour 4 .int 6 [.ref xo, .int a1, .int a2, .int a3] [(xo, .inr (4, [.ref r, .ref r2, .ref r3, .ref d, .ref y, .ref q2, .int sf])), (r, .inr (2, [.ref rc])), (rc, .inl (E.2.1, 293, .inl f))] (fIn f n a1 a2 a3) [(xo, .inr (4, [.ref r, .ref r2, .ref r3, .ref d, .ref y, .ref q2, .int sf])), (r, .inr (2, [.ref rc])), (rc, .inl (E.2.1, 293, .inl f))] := by
  refine rcI_of (by decide) (Nat.le_of_ble_eq_true rfl) ?_
  intro pg e s m below meth c Q A ls S hP hD0 hE hA hl hret
  have hx := S.1
  have hb := S.2.1
  have hown := S.2.2.2.1
  have hts := S.2.2.2.2
  have hK := hE.1
  have hS : va_S A s.heap s.heap [] := va_S.rf
  have hDa : va_Da A [xo, r, rc] := ⟨_, hD0, rfl⟩
  have hl : lv_has ls 4 [(0, .ref xo), (1, .int a1), (2, .int a2), (3, .int a3)] := hl
  refine lv_aload_n hx hb dX7_inColour_0 rfl (lv_at hl 0 rfl) ?_
  refine va_get (D := E.1) (ci := 4) (v := .ref r) (C := RX7) (T := TX7) (N := 7) hx hb hts inb_X7 hown hK hP 0 rfl rfl 0 (by decide) (hts _ bw_94) (fun _ h9 => h9) rfl dX7_inColour_1 ?_
  refine lv_iload_n hx hb dX7_inColour_4 rfl (lv_at hl 1 rfl) ?_
  refine rwV1 (rest := []) S (c_X3_hasShot l E r rc f n a1 hf) cd_X3_hasShot bw_459 ⟨Nat.le_of_ble_eq_true rfl, Nat.le_of_ble_eq_true rfl⟩ ⟨Nat.zero_le _, Nat.zero_le _⟩ hP (hDa.to rfl) hE hA hS [1, 2] rfl rfl [r, rc] rfl rfl (ci := 2) rfl (q0 := 0) rfl (Nat.le_of_ble_eq_true rfl) hl.1 dX7_inColour_5 (fun H locs hP _ hS => ?_)
  have hP : va_P E.1 vwCl [(xo, .inr (4, [.ref r, .ref r2, .ref r3, .ref d, .ref y, .ref q2, .int sf])), (r, .inr (2, [.ref rc])), (rc, .inl (E.2.1, 293, .inl f))] H := hP
  refine lv_if_ne (tgt := 13) hx hb dX7_inColour_8 (by decide) (fun c_1 => ?_) (fun c_1 => ?_)
  · obtain ⟨p, h9_p, rfl⟩ : ∃ p : Nat, p < n ∧ a1 = nI p := (hasS_of (by omega) c_1)
    refine lv_iload_n hx hb dX7_inColour_13 rfl (lv_at hl 2 rfl) ?_
    refine rwS1 (rest := []) S (c_X7_isColour l E a2) cd_X7_isColour bw_453 ⟨Nat.le_of_ble_eq_true rfl, Nat.le_of_ble_eq_true rfl⟩ ⟨Nat.zero_le _, Nat.zero_le _⟩ hP (hDa.to rfl) hE hA hS [] rfl rfl [] rfl rfl (Nat.le_of_ble_eq_true rfl) hl.1 dX7_inColour_14 (fun H locs hP _ hS => ?_)
    have hP : va_P E.1 vwCl [(xo, .inr (4, [.ref r, .ref r2, .ref r3, .ref d, .ref y, .ref q2, .int sf])), (r, .inr (2, [.ref rc])), (rc, .inl (E.2.1, 293, .inl f))] H := hP
    refine lv_if_ne (tgt := 23) hx hb dX7_inColour_17 (by decide) (fun c_2 => ?_) (fun c_2 => ?_)
    · obtain ⟨co, h9_co, rfl⟩ : ∃ co : Nat, co < 3 ∧ a2 = nI co := (isC_of c_2)
      refine lv_iload_n hx hb dX7_inColour_23 rfl (lv_at hl 3 rfl) ?_
      by_cases c_3 : a3 = nI 0
      · refine lv_tableIn (tgt := 64) hx hb dX7_inColour_24 (by rw [c_3]; decide) (by rw [c_3]; decide) (by rw [c_3]; rfl) (by decide) ?_
        refine lv_aload_n hx hb dX7_inColour_64 rfl (lv_at hl 0 rfl) ?_
        refine va_get (D := E.1) (ci := 4) (v := .ref r) (C := RX7) (T := TX7) (N := 7) hx hb hts inb_X7 hown hK hP 0 rfl rfl 0 (by decide) (hts _ bw_94) (fun _ h9 => h9) rfl dX7_inColour_65 ?_
        refine lv_iload_n hx hb dX7_inColour_68 rfl (lv_at hl 1 rfl) ?_
        refine lv_iconst (v := nI 2) hx hb dX7_inColour_69 (by decide) ?_
        refine lv_iload_n hx hb dX7_inColour_70 rfl (lv_at hl 2 rfl) ?_
        refine rn_add (a := 2) (b := co) hx hb dX7_inColour_71 ?_
        refine rwV2 (rest := []) S (c_X3_readShot l E r rc f p (2 + co) (by omega) (by omega)) cd_X3_readShot bw_460 ⟨Nat.le_of_ble_eq_true rfl, Nat.le_of_ble_eq_true rfl⟩ ⟨Nat.zero_le _, Nat.zero_le _⟩ hP (hDa.to rfl) hE hA hS [1, 2] rfl rfl [r, rc] rfl rfl (ci := 2) rfl (q0 := 0) rfl (Nat.le_of_ble_eq_true rfl) hl.1 dX7_inColour_72 (fun H locs hP _ hS => ?_)
        have hP : va_P E.1 vwCl [(xo, .inr (4, [.ref r, .ref r2, .ref r3, .ref d, .ref y, .ref q2, .int sf])), (r, .inr (2, [.ref rc])), (rc, .inl (E.2.1, 293, .inl f))] H := hP
        exact hret _ _ _ _ _ _ (by first | rw [fIn, ix_nI (show p < 2 ^ 31 by omega), ix_nI (show co < 2 ^ 31 by omega), if_neg c_1, if_neg c_2, if_pos c_3] | rw [fIn, if_neg c_1, if_neg c_2, if_pos c_3] | simp only [fIn, ix_nI (show p < 2 ^ 31 by omega), ix_nI (show co < 2 ^ 31 by omega), if_neg c_1, if_neg c_2, if_pos c_3]) rfl rfl hP hS dX7_inColour_75
      by_cases c_4 : a3 = nI 1
      · refine lv_tableIn (tgt := 76) hx hb dX7_inColour_24 (by rw [c_4]; decide) (by rw [c_4]; decide) (by rw [c_4]; rfl) (by decide) ?_
        refine lv_aload_n hx hb dX7_inColour_76 rfl (lv_at hl 0 rfl) ?_
        refine va_get (D := E.1) (ci := 4) (v := .ref r) (C := RX7) (T := TX7) (N := 7) hx hb hts inb_X7 hown hK hP 0 rfl rfl 0 (by decide) (hts _ bw_94) (fun _ h9 => h9) rfl dX7_inColour_77 ?_
        refine lv_iload_n hx hb dX7_inColour_80 rfl (lv_at hl 1 rfl) ?_
        refine lv_iconst (v := nI 5) hx hb dX7_inColour_81 (by decide) ?_
        refine lv_iload_n hx hb dX7_inColour_82 rfl (lv_at hl 2 rfl) ?_
        refine rn_add (a := 5) (b := co) hx hb dX7_inColour_83 ?_
        refine rwV2 (rest := []) S (c_X3_readShot l E r rc f p (5 + co) (by omega) (by omega)) cd_X3_readShot bw_460 ⟨Nat.le_of_ble_eq_true rfl, Nat.le_of_ble_eq_true rfl⟩ ⟨Nat.zero_le _, Nat.zero_le _⟩ hP (hDa.to rfl) hE hA hS [1, 2] rfl rfl [r, rc] rfl rfl (ci := 2) rfl (q0 := 0) rfl (Nat.le_of_ble_eq_true rfl) hl.1 dX7_inColour_84 (fun H locs hP _ hS => ?_)
        have hP : va_P E.1 vwCl [(xo, .inr (4, [.ref r, .ref r2, .ref r3, .ref d, .ref y, .ref q2, .int sf])), (r, .inr (2, [.ref rc])), (rc, .inl (E.2.1, 293, .inl f))] H := hP
        refine lv_bipush (v := nI 10) hx hb dX7_inColour_87 (by decide) ?_
        refine lv_iadd hx hb dX7_inColour_89 ?_
        exact hret _ _ _ _ _ _ (by first | rw [fIn, ix_nI (show p < 2 ^ 31 by omega), ix_nI (show co < 2 ^ 31 by omega), if_neg c_1, if_neg c_2, if_neg c_3, if_pos c_4] | rw [fIn, if_neg c_1, if_neg c_2, if_neg c_3, if_pos c_4] | simp only [fIn, ix_nI (show p < 2 ^ 31 by omega), ix_nI (show co < 2 ^ 31 by omega), if_neg c_1, if_neg c_2, if_neg c_3, if_pos c_4]) rfl rfl hP hS dX7_inColour_90
      by_cases c_5 : a3 = nI 2
      · refine lv_tableIn (tgt := 91) hx hb dX7_inColour_24 (by rw [c_5]; decide) (by rw [c_5]; decide) (by rw [c_5]; rfl) (by decide) ?_
        refine lv_aload_n hx hb dX7_inColour_91 rfl (lv_at hl 0 rfl) ?_
        refine va_get (D := E.1) (ci := 4) (v := .ref r) (C := RX7) (T := TX7) (N := 7) hx hb hts inb_X7 hown hK hP 0 rfl rfl 0 (by decide) (hts _ bw_94) (fun _ h9 => h9) rfl dX7_inColour_92 ?_
        refine lv_iload_n hx hb dX7_inColour_95 rfl (lv_at hl 1 rfl) ?_
        refine lv_bipush (v := nI 8) hx hb dX7_inColour_96 (by decide) ?_
        refine lv_iload_n hx hb dX7_inColour_98 rfl (lv_at hl 2 rfl) ?_
        refine rn_add (a := 8) (b := co) hx hb dX7_inColour_99 ?_
        refine rwV2 (rest := []) S (c_X3_readShot l E r rc f p (8 + co) (by omega) (by omega)) cd_X3_readShot bw_460 ⟨Nat.le_of_ble_eq_true rfl, Nat.le_of_ble_eq_true rfl⟩ ⟨Nat.zero_le _, Nat.zero_le _⟩ hP (hDa.to rfl) hE hA hS [1, 2] rfl rfl [r, rc] rfl rfl (ci := 2) rfl (q0 := 0) rfl (Nat.le_of_ble_eq_true rfl) hl.1 dX7_inColour_100 (fun H locs hP _ hS => ?_)
        have hP : va_P E.1 vwCl [(xo, .inr (4, [.ref r, .ref r2, .ref r3, .ref d, .ref y, .ref q2, .int sf])), (r, .inr (2, [.ref rc])), (rc, .inl (E.2.1, 293, .inl f))] H := hP
        exact hret _ _ _ _ _ _ (by first | rw [fIn, ix_nI (show p < 2 ^ 31 by omega), ix_nI (show co < 2 ^ 31 by omega), if_neg c_1, if_neg c_2, if_neg c_3, if_neg c_4, if_pos c_5] | rw [fIn, if_neg c_1, if_neg c_2, if_neg c_3, if_neg c_4, if_pos c_5] | simp only [fIn, ix_nI (show p < 2 ^ 31 by omega), ix_nI (show co < 2 ^ 31 by omega), if_neg c_1, if_neg c_2, if_neg c_3, if_neg c_4, if_pos c_5]) rfl rfl hP hS dX7_inColour_103
      by_cases c_6 : a3 = nI 3
      · refine lv_tableIn (tgt := 104) hx hb dX7_inColour_24 (by rw [c_6]; decide) (by rw [c_6]; decide) (by rw [c_6]; rfl) (by decide) ?_
        refine lv_aload_n hx hb dX7_inColour_104 rfl (lv_at hl 0 rfl) ?_
        refine va_get (D := E.1) (ci := 4) (v := .ref r) (C := RX7) (T := TX7) (N := 7) hx hb hts inb_X7 hown hK hP 0 rfl rfl 0 (by decide) (hts _ bw_94) (fun _ h9 => h9) rfl dX7_inColour_105 ?_
        refine lv_iload_n hx hb dX7_inColour_108 rfl (lv_at hl 1 rfl) ?_
        refine lv_iload_n hx hb dX7_inColour_109 rfl (lv_at hl 2 rfl) ?_
        refine rwS3 (rest := []) S (c_X5_printsNow l E r rc f p co (by omega) (by omega)) cd_X5_printsNow bw_488 ⟨Nat.le_of_ble_eq_true rfl, Nat.le_of_ble_eq_true rfl⟩ ⟨Nat.zero_le _, Nat.zero_le _⟩ hP (hDa.to rfl) hE hA hS [1, 2] rfl rfl [r, rc] rfl rfl (Nat.le_of_ble_eq_true rfl) hl.1 dX7_inColour_110 (fun H locs hP _ hS => ?_)
        have hP : va_P E.1 vwCl [(xo, .inr (4, [.ref r, .ref r2, .ref r3, .ref d, .ref y, .ref q2, .int sf])), (r, .inr (2, [.ref rc])), (rc, .inl (E.2.1, 293, .inl f))] H := hP
        exact hret _ _ _ _ _ _ (by first | rw [fIn, ix_nI (show p < 2 ^ 31 by omega), ix_nI (show co < 2 ^ 31 by omega), if_neg c_1, if_neg c_2, if_neg c_3, if_neg c_4, if_neg c_5, if_pos c_6] | rw [fIn, if_neg c_1, if_neg c_2, if_neg c_3, if_neg c_4, if_neg c_5, if_pos c_6] | simp only [fIn, ix_nI (show p < 2 ^ 31 by omega), ix_nI (show co < 2 ^ 31 by omega), if_neg c_1, if_neg c_2, if_neg c_3, if_neg c_4, if_neg c_5, if_pos c_6]) rfl rfl hP hS dX7_inColour_113
      by_cases c_7 : a3 = nI 4
      · refine lv_tableIn (tgt := 114) hx hb dX7_inColour_24 (by rw [c_7]; decide) (by rw [c_7]; decide) (by rw [c_7]; rfl) (by decide) ?_
        refine lv_aload_n hx hb dX7_inColour_114 rfl (lv_at hl 0 rfl) ?_
        refine va_get (D := E.1) (ci := 4) (v := .ref r) (C := RX7) (T := TX7) (N := 7) hx hb hts inb_X7 hown hK hP 0 rfl rfl 0 (by decide) (hts _ bw_94) (fun _ h9 => h9) rfl dX7_inColour_115 ?_
        refine lv_iload_n hx hb dX7_inColour_118 rfl (lv_at hl 1 rfl) ?_
        refine lv_iload_n hx hb dX7_inColour_119 rfl (lv_at hl 2 rfl) ?_
        refine rwS3 (rest := []) S (c_X5_offNow l E r rc f p co (by omega) (by omega)) cd_X5_offNow bw_489 ⟨Nat.le_of_ble_eq_true rfl, Nat.le_of_ble_eq_true rfl⟩ ⟨Nat.zero_le _, Nat.zero_le _⟩ hP (hDa.to rfl) hE hA hS [1, 2] rfl rfl [r, rc] rfl rfl (Nat.le_of_ble_eq_true rfl) hl.1 dX7_inColour_120 (fun H locs hP _ hS => ?_)
        have hP : va_P E.1 vwCl [(xo, .inr (4, [.ref r, .ref r2, .ref r3, .ref d, .ref y, .ref q2, .int sf])), (r, .inr (2, [.ref rc])), (rc, .inl (E.2.1, 293, .inl f))] H := hP
        refine lv_bipush (v := nI 100) hx hb dX7_inColour_123 (by decide) ?_
        refine lv_iadd hx hb dX7_inColour_125 ?_
        exact hret _ _ _ _ _ _ (by first | rw [fIn, ix_nI (show p < 2 ^ 31 by omega), ix_nI (show co < 2 ^ 31 by omega), if_neg c_1, if_neg c_2, if_neg c_3, if_neg c_4, if_neg c_5, if_neg c_6, if_pos c_7] | rw [fIn, if_neg c_1, if_neg c_2, if_neg c_3, if_neg c_4, if_neg c_5, if_neg c_6, if_pos c_7] | simp only [fIn, ix_nI (show p < 2 ^ 31 by omega), ix_nI (show co < 2 ^ 31 by omega), if_neg c_1, if_neg c_2, if_neg c_3, if_neg c_4, if_neg c_5, if_neg c_6, if_pos c_7]) rfl rfl hP hS dX7_inColour_126
      by_cases c_8 : a3 = nI 5
      · refine lv_tableIn (tgt := 127) hx hb dX7_inColour_24 (by rw [c_8]; decide) (by rw [c_8]; decide) (by rw [c_8]; rfl) (by decide) ?_
        refine lv_aload_n hx hb dX7_inColour_127 rfl (lv_at hl 0 rfl) ?_
        refine va_get (D := E.1) (ci := 4) (v := .ref r) (C := RX7) (T := TX7) (N := 7) hx hb hts inb_X7 hown hK hP 0 rfl rfl 0 (by decide) (hts _ bw_94) (fun _ h9 => h9) rfl dX7_inColour_128 ?_
        refine lv_iload_n hx hb dX7_inColour_131 rfl (lv_at hl 1 rfl) ?_
        refine rwS2 (rest := []) S (c_X5_isAnswered l E r rc f p (by omega)) cd_X5_isAnswered bw_461 ⟨Nat.le_of_ble_eq_true rfl, Nat.le_of_ble_eq_true rfl⟩ ⟨Nat.zero_le _, Nat.zero_le _⟩ hP (hDa.to rfl) hE hA hS [1, 2] rfl rfl [r, rc] rfl rfl (Nat.le_of_ble_eq_true rfl) hl.1 dX7_inColour_132 (fun H locs hP _ hS => ?_)
        have hP : va_P E.1 vwCl [(xo, .inr (4, [.ref r, .ref r2, .ref r3, .ref d, .ref y, .ref q2, .int sf])), (r, .inr (2, [.ref rc])), (rc, .inl (E.2.1, 293, .inl f))] H := hP
        refine lv_if_eq (tgt := 156) hx hb dX7_inColour_135 (by decide) (fun c_9 => ?_) (fun c_9 => ?_)
        · refine lv_bipush (v := (-6)) hx hb dX7_inColour_156 (by decide) ?_
          exact hret _ _ _ _ _ _ (by first | rw [fIn, ix_nI (show p < 2 ^ 31 by omega), ix_nI (show co < 2 ^ 31 by omega), if_neg c_1, if_neg c_2, if_neg c_3, if_neg c_4, if_neg c_5, if_neg c_6, if_neg c_7, if_pos c_8, if_pos c_9] | rw [fIn, if_neg c_1, if_neg c_2, if_neg c_3, if_neg c_4, if_neg c_5, if_neg c_6, if_neg c_7, if_pos c_8, if_pos c_9] | simp only [fIn, ix_nI (show p < 2 ^ 31 by omega), ix_nI (show co < 2 ^ 31 by omega), if_neg c_1, if_neg c_2, if_neg c_3, if_neg c_4, if_neg c_5, if_neg c_6, if_neg c_7, if_pos c_8, if_pos c_9]) rfl rfl hP hS dX7_inColour_158
        · refine lv_aload_n hx hb dX7_inColour_138 rfl (lv_at hl 0 rfl) ?_
          refine va_get (D := E.1) (ci := 4) (v := .ref r) (C := RX7) (T := TX7) (N := 7) hx hb hts inb_X7 hown hK hP 0 rfl rfl 0 (by decide) (hts _ bw_94) (fun _ h9 => h9) rfl dX7_inColour_139 ?_
          refine lv_iload_n hx hb dX7_inColour_142 rfl (lv_at hl 1 rfl) ?_
          refine lv_bipush (v := nI 11) hx hb dX7_inColour_143 (by decide) ?_
          refine lv_iload_n hx hb dX7_inColour_145 rfl (lv_at hl 2 rfl) ?_
          refine rn_add (a := 11) (b := co) hx hb dX7_inColour_146 ?_
          refine rwV2 (rest := []) S (c_X3_readShot l E r rc f p (11 + co) (by omega) (by omega)) cd_X3_readShot bw_460 ⟨Nat.le_of_ble_eq_true rfl, Nat.le_of_ble_eq_true rfl⟩ ⟨Nat.zero_le _, Nat.zero_le _⟩ hP (hDa.to rfl) hE hA hS [1, 2] rfl rfl [r, rc] rfl rfl (ci := 2) rfl (q0 := 0) rfl (Nat.le_of_ble_eq_true rfl) hl.1 dX7_inColour_147 (fun H locs hP _ hS => ?_)
          have hP : va_P E.1 vwCl [(xo, .inr (4, [.ref r, .ref r2, .ref r3, .ref d, .ref y, .ref q2, .int sf])), (r, .inr (2, [.ref rc])), (rc, .inl (E.2.1, 293, .inl f))] H := hP
          refine lv_bipush (v := nI 100) hx hb dX7_inColour_150 (by decide) ?_
          refine lv_iadd hx hb dX7_inColour_152 ?_
          refine lv_goto (tgt := 158) hx hb dX7_inColour_153 (by decide) ?_
          exact hret _ _ _ _ _ _ (by first | rw [fIn, ix_nI (show p < 2 ^ 31 by omega), ix_nI (show co < 2 ^ 31 by omega), if_neg c_1, if_neg c_2, if_neg c_3, if_neg c_4, if_neg c_5, if_neg c_6, if_neg c_7, if_pos c_8, if_neg c_9] | rw [fIn, if_neg c_1, if_neg c_2, if_neg c_3, if_neg c_4, if_neg c_5, if_neg c_6, if_neg c_7, if_pos c_8, if_neg c_9] | simp only [fIn, ix_nI (show p < 2 ^ 31 by omega), ix_nI (show co < 2 ^ 31 by omega), if_neg c_1, if_neg c_2, if_neg c_3, if_neg c_4, if_neg c_5, if_neg c_6, if_neg c_7, if_pos c_8, if_neg c_9]) rfl rfl hP hS dX7_inColour_158
      refine lv_tableOut (tgt := 159) hx hb dX7_inColour_24 (sw_out (lo := 0) (n := 6) ((lt_s (lt_s (lt_s (lt_s (lt_s (lt_s lt_0 c_3) c_4) c_5) c_6) c_7) c_8 : ∀ a, a < 6 → (fun a => ¬ a3 = nI (0 + a)) a))) (by decide) ?_
      refine lv_bipush (v := (-2)) hx hb dX7_inColour_159 (by decide) ?_
      exact hret _ _ _ _ _ _ (by first | rw [fIn, ix_nI (show p < 2 ^ 31 by omega), ix_nI (show co < 2 ^ 31 by omega), if_neg c_1, if_neg c_2, if_neg c_3, if_neg c_4, if_neg c_5, if_neg c_6, if_neg c_7, if_neg c_8] | rw [fIn, if_neg c_1, if_neg c_2, if_neg c_3, if_neg c_4, if_neg c_5, if_neg c_6, if_neg c_7, if_neg c_8] | simp only [fIn, ix_nI (show p < 2 ^ 31 by omega), ix_nI (show co < 2 ^ 31 by omega), if_neg c_1, if_neg c_2, if_neg c_3, if_neg c_4, if_neg c_5, if_neg c_6, if_neg c_7, if_neg c_8]) rfl rfl hP hS dX7_inColour_161
    · refine lv_bipush (v := (-2)) hx hb dX7_inColour_20 (by decide) ?_
      exact hret _ _ _ _ _ _ (by first | rw [fIn, ix_nI (show p < 2 ^ 31 by omega), if_neg c_1, if_pos c_2] | rw [fIn, if_neg c_1, if_pos c_2] | simp only [fIn, ix_nI (show p < 2 ^ 31 by omega), if_neg c_1, if_pos c_2]) rfl rfl hP hS dX7_inColour_22
  · refine lv_iconst (v := (-1)) hx hb dX7_inColour_11 (by decide) ?_
    exact hret _ _ _ _ _ _ (by rw [fIn, if_pos c_1]) rfl rfl hP hS dX7_inColour_12

theorem cd_X7_ofLamp : cdV RX7 yX7_ofLamp cX7_ofLamp 3 (some .int) 2 := ⟨⟨bw_452, bw_2, by decide, by decide, by decide +kernel⟩, bw_450, bw_451⟩
def fLa (f : Nat → Int32) (a1 : Int32) (a2 : Int32) : Int32 := if isC a1 = 0 then (-2) else if a2 = nI 0 then f (4 + (ix a1)) else if a2 = nI 1 then f (4 + (ix a1)) * f 3 / nI 100 else if a2 = nI 2 then f (7 + (ix a1)) + (nI 20) else (-2)
set_option maxHeartbeats 4000000 in
set_option maxRecDepth 100000 in
theorem c_X7_ofLamp (l : Launch) (E : EV) (xo : Nat) (r : Nat) (r2 : Nat) (r3 : Nat) (d : Nat) (y : Nat) (q2 : Nat) (sf : Int32) (rc : Nat) (f : Nat → Int32) (a1 : Int32) (a2 : Int32)  : rcI l E yX7_ofLamp cX7_ofLamp 3 .int 6 [.ref xo, .int a1, .int a2] [(xo, .inr (4, [.ref r, .ref r2, .ref r3, .ref d, .ref y, .ref q2, .int sf])), (r, .inr (2, [.ref rc])), (rc, .inl (E.2.1, 293, .inl f))] (fLa f a1 a2) [(xo, .inr (4, [.ref r, .ref r2, .ref r3, .ref d, .ref y, .ref q2, .int sf])), (r, .inr (2, [.ref rc])), (rc, .inl (E.2.1, 293, .inl f))] := by
  refine rcI_of (by decide) (Nat.le_of_ble_eq_true rfl) ?_
  intro pg e s m below meth c Q A ls S hP hD0 hE hA hl hret
  have hx := S.1
  have hb := S.2.1
  have hown := S.2.2.2.1
  have hts := S.2.2.2.2
  have hK := hE.1
  have hS : va_S A s.heap s.heap [] := va_S.rf
  have hDa : va_Da A [xo, r, rc] := ⟨_, hD0, rfl⟩
  have hl : lv_has ls 3 [(0, .ref xo), (1, .int a1), (2, .int a2)] := hl
  refine lv_iload_n hx hb dX7_ofLamp_0 rfl (lv_at hl 1 rfl) ?_
  refine rwS1 (rest := []) S (c_X7_isColour l E a1) cd_X7_isColour bw_453 ⟨Nat.le_of_ble_eq_true rfl, Nat.le_of_ble_eq_true rfl⟩ ⟨Nat.zero_le _, Nat.zero_le _⟩ hP (hDa.to rfl) hE hA hS [] rfl rfl [] rfl rfl (Nat.le_of_ble_eq_true rfl) hl.1 dX7_ofLamp_1 (fun H locs hP _ hS => ?_)
  have hP : va_P E.1 vwCl [(xo, .inr (4, [.ref r, .ref r2, .ref r3, .ref d, .ref y, .ref q2, .int sf])), (r, .inr (2, [.ref rc])), (rc, .inl (E.2.1, 293, .inl f))] H := hP
  refine lv_if_ne (tgt := 10) hx hb dX7_ofLamp_4 (by decide) (fun c_1 => ?_) (fun c_1 => ?_)
  · obtain ⟨co, h9_co, rfl⟩ : ∃ co : Nat, co < 3 ∧ a1 = nI co := (isC_of c_1)
    refine lv_iload_n hx hb dX7_ofLamp_10 rfl (lv_at hl 2 rfl) ?_
    by_cases c_2 : a2 = nI 0
    · refine lv_tableIn (tgt := 36) hx hb dX7_ofLamp_11 (by rw [c_2]; decide) (by rw [c_2]; decide) (by rw [c_2]; rfl) (by decide) ?_
      refine lv_aload_n hx hb dX7_ofLamp_36 rfl (lv_at hl 0 rfl) ?_
      refine va_get (D := E.1) (ci := 4) (v := .ref r) (C := RX7) (T := TX7) (N := 7) hx hb hts inb_X7 hown hK hP 0 rfl rfl 0 (by decide) (hts _ bw_94) (fun _ h9 => h9) rfl dX7_ofLamp_37 ?_
      refine lv_iconst (v := nI 4) hx hb dX7_ofLamp_40 (by decide) ?_
      refine lv_iload_n hx hb dX7_ofLamp_41 rfl (lv_at hl 1 rfl) ?_
      refine rn_add (a := 4) (b := co) hx hb dX7_ofLamp_42 ?_
      refine rwV1 (rest := []) S (c_X3_read l E r rc f (4 + co) (by omega)) cd_X3_read bw_425 ⟨Nat.le_of_ble_eq_true rfl, Nat.le_of_ble_eq_true rfl⟩ ⟨Nat.zero_le _, Nat.zero_le _⟩ hP (hDa.to rfl) hE hA hS [1, 2] rfl rfl [r, rc] rfl rfl (ci := 2) rfl (q0 := 0) rfl (Nat.le_of_ble_eq_true rfl) hl.1 dX7_ofLamp_43 (fun H locs hP _ hS => ?_)
      have hP : va_P E.1 vwCl [(xo, .inr (4, [.ref r, .ref r2, .ref r3, .ref d, .ref y, .ref q2, .int sf])), (r, .inr (2, [.ref rc])), (rc, .inl (E.2.1, 293, .inl f))] H := hP
      exact hret _ _ _ _ _ _ (by first | rw [fLa, ix_nI (show co < 2 ^ 31 by omega), if_neg c_1, if_pos c_2] | rw [fLa, if_neg c_1, if_pos c_2] | simp only [fLa, ix_nI (show co < 2 ^ 31 by omega), if_neg c_1, if_pos c_2]) rfl rfl hP hS dX7_ofLamp_46
    by_cases c_3 : a2 = nI 1
    · refine lv_tableIn (tgt := 47) hx hb dX7_ofLamp_11 (by rw [c_3]; decide) (by rw [c_3]; decide) (by rw [c_3]; rfl) (by decide) ?_
      refine lv_aload_n hx hb dX7_ofLamp_47 rfl (lv_at hl 0 rfl) ?_
      refine va_get (D := E.1) (ci := 4) (v := .ref r) (C := RX7) (T := TX7) (N := 7) hx hb hts inb_X7 hown hK hP 0 rfl rfl 0 (by decide) (hts _ bw_94) (fun _ h9 => h9) rfl dX7_ofLamp_48 ?_
      refine lv_iload_n hx hb dX7_ofLamp_51 rfl (lv_at hl 1 rfl) ?_
      refine rwV1 (rest := []) S (c_X3_lampLoss l E r rc f co (by omega)) cd_X3_lampLoss bw_454 ⟨Nat.le_of_ble_eq_true rfl, Nat.le_of_ble_eq_true rfl⟩ ⟨Nat.zero_le _, Nat.zero_le _⟩ hP (hDa.to rfl) hE hA hS [1, 2] rfl rfl [r, rc] rfl rfl (ci := 2) rfl (q0 := 0) rfl (Nat.le_of_ble_eq_true rfl) hl.1 dX7_ofLamp_52 (fun H locs hP _ hS => ?_)
      have hP : va_P E.1 vwCl [(xo, .inr (4, [.ref r, .ref r2, .ref r3, .ref d, .ref y, .ref q2, .int sf])), (r, .inr (2, [.ref rc])), (rc, .inl (E.2.1, 293, .inl f))] H := hP
      exact hret _ _ _ _ _ _ (by first | rw [fLa, ix_nI (show co < 2 ^ 31 by omega), if_neg c_1, if_neg c_2, if_pos c_3] | rw [fLa, if_neg c_1, if_neg c_2, if_pos c_3] | simp only [fLa, ix_nI (show co < 2 ^ 31 by omega), if_neg c_1, if_neg c_2, if_pos c_3]) rfl rfl hP hS dX7_ofLamp_55
    by_cases c_4 : a2 = nI 2
    · refine lv_tableIn (tgt := 56) hx hb dX7_ofLamp_11 (by rw [c_4]; decide) (by rw [c_4]; decide) (by rw [c_4]; rfl) (by decide) ?_
      refine lv_aload_n hx hb dX7_ofLamp_56 rfl (lv_at hl 0 rfl) ?_
      refine va_get (D := E.1) (ci := 4) (v := .ref r) (C := RX7) (T := TX7) (N := 7) hx hb hts inb_X7 hown hK hP 0 rfl rfl 0 (by decide) (hts _ bw_94) (fun _ h9 => h9) rfl dX7_ofLamp_57 ?_
      refine lv_bipush (v := nI 7) hx hb dX7_ofLamp_60 (by decide) ?_
      refine lv_iload_n hx hb dX7_ofLamp_62 rfl (lv_at hl 1 rfl) ?_
      refine rn_add (a := 7) (b := co) hx hb dX7_ofLamp_63 ?_
      refine rwV1 (rest := []) S (c_X3_read l E r rc f (7 + co) (by omega)) cd_X3_read bw_425 ⟨Nat.le_of_ble_eq_true rfl, Nat.le_of_ble_eq_true rfl⟩ ⟨Nat.zero_le _, Nat.zero_le _⟩ hP (hDa.to rfl) hE hA hS [1, 2] rfl rfl [r, rc] rfl rfl (ci := 2) rfl (q0 := 0) rfl (Nat.le_of_ble_eq_true rfl) hl.1 dX7_ofLamp_64 (fun H locs hP _ hS => ?_)
      have hP : va_P E.1 vwCl [(xo, .inr (4, [.ref r, .ref r2, .ref r3, .ref d, .ref y, .ref q2, .int sf])), (r, .inr (2, [.ref rc])), (rc, .inl (E.2.1, 293, .inl f))] H := hP
      refine lv_bipush (v := nI 20) hx hb dX7_ofLamp_67 (by decide) ?_
      refine lv_iadd hx hb dX7_ofLamp_69 ?_
      exact hret _ _ _ _ _ _ (by first | rw [fLa, ix_nI (show co < 2 ^ 31 by omega), if_neg c_1, if_neg c_2, if_neg c_3, if_pos c_4] | rw [fLa, if_neg c_1, if_neg c_2, if_neg c_3, if_pos c_4] | simp only [fLa, ix_nI (show co < 2 ^ 31 by omega), if_neg c_1, if_neg c_2, if_neg c_3, if_pos c_4]) rfl rfl hP hS dX7_ofLamp_70
    refine lv_tableOut (tgt := 71) hx hb dX7_ofLamp_11 (sw_out (lo := 0) (n := 3) ((lt_s (lt_s (lt_s lt_0 c_2) c_3) c_4 : ∀ a, a < 3 → (fun a => ¬ a2 = nI (0 + a)) a))) (by decide) ?_
    refine lv_bipush (v := (-2)) hx hb dX7_ofLamp_71 (by decide) ?_
    exact hret _ _ _ _ _ _ (by first | rw [fLa, ix_nI (show co < 2 ^ 31 by omega), if_neg c_1, if_neg c_2, if_neg c_3, if_neg c_4] | rw [fLa, if_neg c_1, if_neg c_2, if_neg c_3, if_neg c_4] | simp only [fLa, ix_nI (show co < 2 ^ 31 by omega), if_neg c_1, if_neg c_2, if_neg c_3, if_neg c_4]) rfl rfl hP hS dX7_ofLamp_73
  · refine lv_bipush (v := (-2)) hx hb dX7_ofLamp_7 (by decide) ?_
    exact hret _ _ _ _ _ _ (by rw [fLa, if_pos c_1]) rfl rfl hP hS dX7_ofLamp_9

theorem cd_X7_count : cdV RX7 yX7_count cX7_count 2 (some .int) 1 := ⟨⟨bw_422, bw_2, by decide, by decide, by decide +kernel⟩, bw_420, bw_421⟩
def fCo (f : Nat → Int32) (n : Nat) (L : Nat) (z : Nat) (a1 : Int32) : Int32 := if a1 = nI 0 then nI n else if a1 = nI 1 then cFt f n else if a1 = nI 2 then f 10 else if a1 = nI 3 then cSt (fun p => cBa f p) n else if a1 = nI 4 then cSt (fun p => cAn f p) n else if a1 = nI 5 then cSt (fun p => cJu f n p) n else if a1 = nI 6 then f 11 else if a1 = nI 7 then cSt (fun p => cOo f p) n else if a1 = nI 8 then f 0 else if a1 = nI 9 then f 1 else if a1 = nI 10 then f 2 else if a1 = nI 11 then f 3 else if a1 = nI 12 then nI L else if a1 = nI 13 then nI z else (-2)
set_option maxHeartbeats 4000000 in
set_option maxRecDepth 100000 in
theorem c_X7_count (l : Launch) (E : EV) (xo : Nat) (r : Nat) (r2 : Nat) (r3 : Nat) (d : Nat) (y : Nat) (q2 : Nat) (sf : Int32) (rc : Nat) (f : Nat → Int32) (ch : Nat) (nu : Nat) (L : Nat) (a : Int32) (b : Int32) (le : Int32) (co : Int32) (mi : Int32) (t : Nat → Int32) (u : Nat → Int32) (q : Nat) (w : Nat) (o : Nat) (z : Nat) (h : Nat → Int32) (n : Nat) (a1 : Int32) (hf : f 12 = nI n) (hn : n ≤ 20) : rcI l E yX7_count cX7_count 2 .int 6 [.ref xo, .int a1] [(xo, .inr (4, [.ref r, .ref r2, .ref r3, .ref d, .ref y, .ref q2, .int sf])), (r, .inr (2, [.ref rc])), (rc, .inl (E.2.1, 293, .inl f)), (d, .inr (1, [.ref ch, .ref nu, .int (nI L), .int a, .int b, .int le, .int co, .int mi])), (ch, .inl (E.2.2.1, 80, .inl t)), (nu, .inl (E.2.1, 4, .inl u)), (y, .inr (0, [.ref q, .int (nI o), .int (nI z)])), (q, .inr (3, [.ref w])), (w, .inl (E.2.1, 1758, .inl h))] (fCo f n L z a1) [(xo, .inr (4, [.ref r, .ref r2, .ref r3, .ref d, .ref y, .ref q2, .int sf])), (r, .inr (2, [.ref rc])), (rc, .inl (E.2.1, 293, .inl f)), (d, .inr (1, [.ref ch, .ref nu, .int (nI L), .int a, .int b, .int le, .int co, .int mi])), (ch, .inl (E.2.2.1, 80, .inl t)), (nu, .inl (E.2.1, 4, .inl u)), (y, .inr (0, [.ref q, .int (nI o), .int (nI z)])), (q, .inr (3, [.ref w])), (w, .inl (E.2.1, 1758, .inl h))] := by
  refine rcI_of (by decide) (Nat.le_of_ble_eq_true rfl) ?_
  intro pg e s m below meth c Q A ls S hP hD0 hE hA hl hret
  have hx := S.1
  have hb := S.2.1
  have hown := S.2.2.2.1
  have hts := S.2.2.2.2
  have hK := hE.1
  have hS : va_S A s.heap s.heap [] := va_S.rf
  have hDa : va_Da A [xo, r, rc, d, ch, nu, y, q, w] := ⟨_, hD0, rfl⟩
  have hl : lv_has ls 2 [(0, .ref xo), (1, .int a1)] := hl
  refine lv_iload_n hx hb dX7_count_0 rfl (lv_at hl 1 rfl) ?_
  by_cases c_1 : a1 = nI 0
  · refine lv_tableIn (tgt := 72) hx hb dX7_count_1 (by rw [c_1]; decide) (by rw [c_1]; decide) (by rw [c_1]; rfl) (by decide) ?_
    refine lv_aload_n hx hb dX7_count_72 rfl (lv_at hl 0 rfl) ?_
    refine va_get (D := E.1) (ci := 4) (v := .ref r) (C := RX7) (T := TX7) (N := 7) hx hb hts inb_X7 hown hK hP 0 rfl rfl 0 (by decide) (hts _ bw_94) (fun _ h9 => h9) rfl dX7_count_73 ?_
    refine rwV0 (rest := []) S (c_X3_shots l E r rc f n hf) cd_X3_shots bw_423 ⟨Nat.le_of_ble_eq_true rfl, Nat.le_of_ble_eq_true rfl⟩ ⟨Nat.zero_le _, Nat.zero_le _⟩ hP (hDa.to rfl) hE hA hS [1, 2] rfl rfl [r, rc] rfl rfl (ci := 2) rfl (q0 := 0) rfl (Nat.le_of_ble_eq_true rfl) hl.1 dX7_count_76 (fun H locs hP _ hS => ?_)
    have hP : va_P E.1 vwCl [(xo, .inr (4, [.ref r, .ref r2, .ref r3, .ref d, .ref y, .ref q2, .int sf])), (r, .inr (2, [.ref rc])), (rc, .inl (E.2.1, 293, .inl f)), (d, .inr (1, [.ref ch, .ref nu, .int (nI L), .int a, .int b, .int le, .int co, .int mi])), (ch, .inl (E.2.2.1, 80, .inl t)), (nu, .inl (E.2.1, 4, .inl u)), (y, .inr (0, [.ref q, .int (nI o), .int (nI z)])), (q, .inr (3, [.ref w])), (w, .inl (E.2.1, 1758, .inl h))] H := hP
    exact hret _ _ _ _ _ _ (by rw [fCo, if_pos c_1]) rfl rfl hP hS dX7_count_79
  by_cases c_2 : a1 = nI 1
  · refine lv_tableIn (tgt := 80) hx hb dX7_count_1 (by rw [c_2]; decide) (by rw [c_2]; decide) (by rw [c_2]; rfl) (by decide) ?_
    refine lv_aload_n hx hb dX7_count_80 rfl (lv_at hl 0 rfl) ?_
    refine va_get (D := E.1) (ci := 4) (v := .ref r) (C := RX7) (T := TX7) (N := 7) hx hb hts inb_X7 hown hK hP 0 rfl rfl 0 (by decide) (hts _ bw_94) (fun _ h9 => h9) rfl dX7_count_81 ?_
    refine lv_aload_n hx hb dX7_count_84 rfl (lv_at hl 0 rfl) ?_
    refine va_get (D := E.1) (ci := 4) (v := .ref r) (C := RX7) (T := TX7) (N := 7) hx hb hts inb_X7 hown hK hP 0 rfl rfl 0 (by decide) (hts _ bw_94) (fun _ h9 => h9) rfl dX7_count_85 ?_
    refine rwV0 (rest := [.ref r]) S (c_X3_shots l E r rc f n hf) cd_X3_shots bw_423 ⟨Nat.le_of_ble_eq_true rfl, Nat.le_of_ble_eq_true rfl⟩ ⟨Nat.zero_le _, Nat.zero_le _⟩ hP (hDa.to rfl) hE hA hS [1, 2] rfl rfl [r, rc] rfl rfl (ci := 2) rfl (q0 := 0) rfl (Nat.le_of_ble_eq_true rfl) hl.1 dX7_count_88 (fun H locs hP _ hS => ?_)
    have hP : va_P E.1 vwCl [(xo, .inr (4, [.ref r, .ref r2, .ref r3, .ref d, .ref y, .ref q2, .int sf])), (r, .inr (2, [.ref rc])), (rc, .inl (E.2.1, 293, .inl f)), (d, .inr (1, [.ref ch, .ref nu, .int (nI L), .int a, .int b, .int le, .int co, .int mi])), (ch, .inl (E.2.2.1, 80, .inl t)), (nu, .inl (E.2.1, 4, .inl u)), (y, .inr (0, [.ref q, .int (nI o), .int (nI z)])), (q, .inr (3, [.ref w])), (w, .inl (E.2.1, 1758, .inl h))] H := hP
    refine rwS2 (rest := []) S (c_X5_feetBefore l E r rc f n hn) cd_X5_feetBefore bw_424 ⟨Nat.le_of_ble_eq_true rfl, Nat.le_of_ble_eq_true rfl⟩ ⟨Nat.zero_le _, Nat.zero_le _⟩ hP (hDa.to rfl) hE hA hS [1, 2] rfl rfl [r, rc] rfl rfl (Nat.le_of_ble_eq_true rfl) hl.1 dX7_count_91 (fun H locs hP _ hS => ?_)
    have hP : va_P E.1 vwCl [(xo, .inr (4, [.ref r, .ref r2, .ref r3, .ref d, .ref y, .ref q2, .int sf])), (r, .inr (2, [.ref rc])), (rc, .inl (E.2.1, 293, .inl f)), (d, .inr (1, [.ref ch, .ref nu, .int (nI L), .int a, .int b, .int le, .int co, .int mi])), (ch, .inl (E.2.2.1, 80, .inl t)), (nu, .inl (E.2.1, 4, .inl u)), (y, .inr (0, [.ref q, .int (nI o), .int (nI z)])), (q, .inr (3, [.ref w])), (w, .inl (E.2.1, 1758, .inl h))] H := hP
    exact hret _ _ _ _ _ _ (by rw [fCo, if_neg c_1, if_pos c_2]) rfl rfl hP hS dX7_count_94
  by_cases c_3 : a1 = nI 2
  · refine lv_tableIn (tgt := 95) hx hb dX7_count_1 (by rw [c_3]; decide) (by rw [c_3]; decide) (by rw [c_3]; rfl) (by decide) ?_
    refine lv_aload_n hx hb dX7_count_95 rfl (lv_at hl 0 rfl) ?_
    refine va_get (D := E.1) (ci := 4) (v := .ref r) (C := RX7) (T := TX7) (N := 7) hx hb hts inb_X7 hown hK hP 0 rfl rfl 0 (by decide) (hts _ bw_94) (fun _ h9 => h9) rfl dX7_count_96 ?_
    refine lv_bipush (v := nI 10) hx hb dX7_count_99 (by decide) ?_
    refine rwV1 (rest := []) S (c_X3_read l E r rc f 10 (by omega)) cd_X3_read bw_425 ⟨Nat.le_of_ble_eq_true rfl, Nat.le_of_ble_eq_true rfl⟩ ⟨Nat.zero_le _, Nat.zero_le _⟩ hP (hDa.to rfl) hE hA hS [1, 2] rfl rfl [r, rc] rfl rfl (ci := 2) rfl (q0 := 0) rfl (Nat.le_of_ble_eq_true rfl) hl.1 dX7_count_101 (fun H locs hP _ hS => ?_)
    have hP : va_P E.1 vwCl [(xo, .inr (4, [.ref r, .ref r2, .ref r3, .ref d, .ref y, .ref q2, .int sf])), (r, .inr (2, [.ref rc])), (rc, .inl (E.2.1, 293, .inl f)), (d, .inr (1, [.ref ch, .ref nu, .int (nI L), .int a, .int b, .int le, .int co, .int mi])), (ch, .inl (E.2.2.1, 80, .inl t)), (nu, .inl (E.2.1, 4, .inl u)), (y, .inr (0, [.ref q, .int (nI o), .int (nI z)])), (q, .inr (3, [.ref w])), (w, .inl (E.2.1, 1758, .inl h))] H := hP
    exact hret _ _ _ _ _ _ (by rw [fCo, if_neg c_1, if_neg c_2, if_pos c_3]) rfl rfl hP hS dX7_count_104
  by_cases c_4 : a1 = nI 3
  · refine lv_tableIn (tgt := 105) hx hb dX7_count_1 (by rw [c_4]; decide) (by rw [c_4]; decide) (by rw [c_4]; rfl) (by decide) ?_
    refine lv_aload_n hx hb dX7_count_105 rfl (lv_at hl 0 rfl) ?_
    refine va_get (D := E.1) (ci := 4) (v := .ref r) (C := RX7) (T := TX7) (N := 7) hx hb hts inb_X7 hown hK hP 0 rfl rfl 0 (by decide) (hts _ bw_94) (fun _ h9 => h9) rfl dX7_count_106 ?_
    refine lv_iconst (v := nI 1) hx hb dX7_count_109 (by decide) ?_
    refine rwS2 (rest := []) S (c_X5_setOf_1 l E r rc f n hf hn) cd_X5_setOf bw_426 ⟨Nat.le_of_ble_eq_true rfl, Nat.le_of_ble_eq_true rfl⟩ ⟨Nat.zero_le _, Nat.zero_le _⟩ hP (hDa.to rfl) hE hA hS [1, 2] rfl rfl [r, rc] rfl rfl (Nat.le_of_ble_eq_true rfl) hl.1 dX7_count_110 (fun H locs hP _ hS => ?_)
    have hP : va_P E.1 vwCl [(xo, .inr (4, [.ref r, .ref r2, .ref r3, .ref d, .ref y, .ref q2, .int sf])), (r, .inr (2, [.ref rc])), (rc, .inl (E.2.1, 293, .inl f)), (d, .inr (1, [.ref ch, .ref nu, .int (nI L), .int a, .int b, .int le, .int co, .int mi])), (ch, .inl (E.2.2.1, 80, .inl t)), (nu, .inl (E.2.1, 4, .inl u)), (y, .inr (0, [.ref q, .int (nI o), .int (nI z)])), (q, .inr (3, [.ref w])), (w, .inl (E.2.1, 1758, .inl h))] H := hP
    exact hret _ _ _ _ _ _ (by rw [fCo, if_neg c_1, if_neg c_2, if_neg c_3, if_pos c_4]) rfl rfl hP hS dX7_count_113
  by_cases c_5 : a1 = nI 4
  · refine lv_tableIn (tgt := 114) hx hb dX7_count_1 (by rw [c_5]; decide) (by rw [c_5]; decide) (by rw [c_5]; rfl) (by decide) ?_
    refine lv_aload_n hx hb dX7_count_114 rfl (lv_at hl 0 rfl) ?_
    refine va_get (D := E.1) (ci := 4) (v := .ref r) (C := RX7) (T := TX7) (N := 7) hx hb hts inb_X7 hown hK hP 0 rfl rfl 0 (by decide) (hts _ bw_94) (fun _ h9 => h9) rfl dX7_count_115 ?_
    refine lv_iconst (v := nI 0) hx hb dX7_count_118 (by decide) ?_
    refine rwS2 (rest := []) S (c_X5_setOf_0 l E r rc f n hf hn) cd_X5_setOf bw_426 ⟨Nat.le_of_ble_eq_true rfl, Nat.le_of_ble_eq_true rfl⟩ ⟨Nat.zero_le _, Nat.zero_le _⟩ hP (hDa.to rfl) hE hA hS [1, 2] rfl rfl [r, rc] rfl rfl (Nat.le_of_ble_eq_true rfl) hl.1 dX7_count_119 (fun H locs hP _ hS => ?_)
    have hP : va_P E.1 vwCl [(xo, .inr (4, [.ref r, .ref r2, .ref r3, .ref d, .ref y, .ref q2, .int sf])), (r, .inr (2, [.ref rc])), (rc, .inl (E.2.1, 293, .inl f)), (d, .inr (1, [.ref ch, .ref nu, .int (nI L), .int a, .int b, .int le, .int co, .int mi])), (ch, .inl (E.2.2.1, 80, .inl t)), (nu, .inl (E.2.1, 4, .inl u)), (y, .inr (0, [.ref q, .int (nI o), .int (nI z)])), (q, .inr (3, [.ref w])), (w, .inl (E.2.1, 1758, .inl h))] H := hP
    exact hret _ _ _ _ _ _ (by rw [fCo, if_neg c_1, if_neg c_2, if_neg c_3, if_neg c_4, if_pos c_5]) rfl rfl hP hS dX7_count_122
  by_cases c_6 : a1 = nI 5
  · refine lv_tableIn (tgt := 123) hx hb dX7_count_1 (by rw [c_6]; decide) (by rw [c_6]; decide) (by rw [c_6]; rfl) (by decide) ?_
    refine lv_aload_n hx hb dX7_count_123 rfl (lv_at hl 0 rfl) ?_
    refine va_get (D := E.1) (ci := 4) (v := .ref r) (C := RX7) (T := TX7) (N := 7) hx hb hts inb_X7 hown hK hP 0 rfl rfl 0 (by decide) (hts _ bw_94) (fun _ h9 => h9) rfl dX7_count_124 ?_
    refine lv_iconst (v := nI 2) hx hb dX7_count_127 (by decide) ?_
    refine rwS2 (rest := []) S (c_X5_setOf_2 l E r rc f n hf hn) cd_X5_setOf bw_426 ⟨Nat.le_of_ble_eq_true rfl, Nat.le_of_ble_eq_true rfl⟩ ⟨Nat.zero_le _, Nat.zero_le _⟩ hP (hDa.to rfl) hE hA hS [1, 2] rfl rfl [r, rc] rfl rfl (Nat.le_of_ble_eq_true rfl) hl.1 dX7_count_128 (fun H locs hP _ hS => ?_)
    have hP : va_P E.1 vwCl [(xo, .inr (4, [.ref r, .ref r2, .ref r3, .ref d, .ref y, .ref q2, .int sf])), (r, .inr (2, [.ref rc])), (rc, .inl (E.2.1, 293, .inl f)), (d, .inr (1, [.ref ch, .ref nu, .int (nI L), .int a, .int b, .int le, .int co, .int mi])), (ch, .inl (E.2.2.1, 80, .inl t)), (nu, .inl (E.2.1, 4, .inl u)), (y, .inr (0, [.ref q, .int (nI o), .int (nI z)])), (q, .inr (3, [.ref w])), (w, .inl (E.2.1, 1758, .inl h))] H := hP
    exact hret _ _ _ _ _ _ (by rw [fCo, if_neg c_1, if_neg c_2, if_neg c_3, if_neg c_4, if_neg c_5, if_pos c_6]) rfl rfl hP hS dX7_count_131
  by_cases c_7 : a1 = nI 6
  · refine lv_tableIn (tgt := 132) hx hb dX7_count_1 (by rw [c_7]; decide) (by rw [c_7]; decide) (by rw [c_7]; rfl) (by decide) ?_
    refine lv_aload_n hx hb dX7_count_132 rfl (lv_at hl 0 rfl) ?_
    refine va_get (D := E.1) (ci := 4) (v := .ref r) (C := RX7) (T := TX7) (N := 7) hx hb hts inb_X7 hown hK hP 0 rfl rfl 0 (by decide) (hts _ bw_94) (fun _ h9 => h9) rfl dX7_count_133 ?_
    refine lv_bipush (v := nI 11) hx hb dX7_count_136 (by decide) ?_
    refine rwV1 (rest := []) S (c_X3_read l E r rc f 11 (by omega)) cd_X3_read bw_425 ⟨Nat.le_of_ble_eq_true rfl, Nat.le_of_ble_eq_true rfl⟩ ⟨Nat.zero_le _, Nat.zero_le _⟩ hP (hDa.to rfl) hE hA hS [1, 2] rfl rfl [r, rc] rfl rfl (ci := 2) rfl (q0 := 0) rfl (Nat.le_of_ble_eq_true rfl) hl.1 dX7_count_138 (fun H locs hP _ hS => ?_)
    have hP : va_P E.1 vwCl [(xo, .inr (4, [.ref r, .ref r2, .ref r3, .ref d, .ref y, .ref q2, .int sf])), (r, .inr (2, [.ref rc])), (rc, .inl (E.2.1, 293, .inl f)), (d, .inr (1, [.ref ch, .ref nu, .int (nI L), .int a, .int b, .int le, .int co, .int mi])), (ch, .inl (E.2.2.1, 80, .inl t)), (nu, .inl (E.2.1, 4, .inl u)), (y, .inr (0, [.ref q, .int (nI o), .int (nI z)])), (q, .inr (3, [.ref w])), (w, .inl (E.2.1, 1758, .inl h))] H := hP
    exact hret _ _ _ _ _ _ (by rw [fCo, if_neg c_1, if_neg c_2, if_neg c_3, if_neg c_4, if_neg c_5, if_neg c_6, if_pos c_7]) rfl rfl hP hS dX7_count_141
  by_cases c_8 : a1 = nI 7
  · refine lv_tableIn (tgt := 142) hx hb dX7_count_1 (by rw [c_8]; decide) (by rw [c_8]; decide) (by rw [c_8]; rfl) (by decide) ?_
    refine lv_aload_n hx hb dX7_count_142 rfl (lv_at hl 0 rfl) ?_
    refine va_get (D := E.1) (ci := 4) (v := .ref r) (C := RX7) (T := TX7) (N := 7) hx hb hts inb_X7 hown hK hP 0 rfl rfl 0 (by decide) (hts _ bw_94) (fun _ h9 => h9) rfl dX7_count_143 ?_
    refine lv_iconst (v := nI 3) hx hb dX7_count_146 (by decide) ?_
    refine rwS2 (rest := []) S (c_X5_setOf_3 l E r rc f n hf hn) cd_X5_setOf bw_426 ⟨Nat.le_of_ble_eq_true rfl, Nat.le_of_ble_eq_true rfl⟩ ⟨Nat.zero_le _, Nat.zero_le _⟩ hP (hDa.to rfl) hE hA hS [1, 2] rfl rfl [r, rc] rfl rfl (Nat.le_of_ble_eq_true rfl) hl.1 dX7_count_147 (fun H locs hP _ hS => ?_)
    have hP : va_P E.1 vwCl [(xo, .inr (4, [.ref r, .ref r2, .ref r3, .ref d, .ref y, .ref q2, .int sf])), (r, .inr (2, [.ref rc])), (rc, .inl (E.2.1, 293, .inl f)), (d, .inr (1, [.ref ch, .ref nu, .int (nI L), .int a, .int b, .int le, .int co, .int mi])), (ch, .inl (E.2.2.1, 80, .inl t)), (nu, .inl (E.2.1, 4, .inl u)), (y, .inr (0, [.ref q, .int (nI o), .int (nI z)])), (q, .inr (3, [.ref w])), (w, .inl (E.2.1, 1758, .inl h))] H := hP
    exact hret _ _ _ _ _ _ (by rw [fCo, if_neg c_1, if_neg c_2, if_neg c_3, if_neg c_4, if_neg c_5, if_neg c_6, if_neg c_7, if_pos c_8]) rfl rfl hP hS dX7_count_150
  by_cases c_9 : a1 = nI 8
  · refine lv_tableIn (tgt := 151) hx hb dX7_count_1 (by rw [c_9]; decide) (by rw [c_9]; decide) (by rw [c_9]; rfl) (by decide) ?_
    have hl : lv_has ls 2 [(0, .ref xo), (1, .int (nI 8))] := by rw [show a1 = nI 8 from c_9] at hl; exact hl
    refine lv_aload_n hx hb dX7_count_151 rfl (lv_at hl 0 rfl) ?_
    refine va_get (D := E.1) (ci := 4) (v := .ref r) (C := RX7) (T := TX7) (N := 7) hx hb hts inb_X7 hown hK hP 0 rfl rfl 0 (by decide) (hts _ bw_94) (fun _ h9 => h9) rfl dX7_count_152 ?_
    refine lv_iconst (v := nI 0) hx hb dX7_count_155 (by decide) ?_
    refine lv_iload_n hx hb dX7_count_156 rfl (lv_at hl 1 rfl) ?_
    refine rn_add (a := 0) (b := 8) hx hb dX7_count_157 ?_
    refine lv_bipush (v := nI 8) hx hb dX7_count_158 (by decide) ?_
    refine rn_sub (a := 8) (b := 8) hx hb dX7_count_160 (by omega) ?_
    refine rwV1 (rest := []) S (c_X3_read l E r rc f 0 (by omega)) cd_X3_read bw_425 ⟨Nat.le_of_ble_eq_true rfl, Nat.le_of_ble_eq_true rfl⟩ ⟨Nat.zero_le _, Nat.zero_le _⟩ hP (hDa.to rfl) hE hA hS [1, 2] rfl rfl [r, rc] rfl rfl (ci := 2) rfl (q0 := 0) rfl (Nat.le_of_ble_eq_true rfl) hl.1 dX7_count_161 (fun H locs hP _ hS => ?_)
    have hP : va_P E.1 vwCl [(xo, .inr (4, [.ref r, .ref r2, .ref r3, .ref d, .ref y, .ref q2, .int sf])), (r, .inr (2, [.ref rc])), (rc, .inl (E.2.1, 293, .inl f)), (d, .inr (1, [.ref ch, .ref nu, .int (nI L), .int a, .int b, .int le, .int co, .int mi])), (ch, .inl (E.2.2.1, 80, .inl t)), (nu, .inl (E.2.1, 4, .inl u)), (y, .inr (0, [.ref q, .int (nI o), .int (nI z)])), (q, .inr (3, [.ref w])), (w, .inl (E.2.1, 1758, .inl h))] H := hP
    exact hret _ _ _ _ _ _ (by rw [fCo, if_neg c_1, if_neg c_2, if_neg c_3, if_neg c_4, if_neg c_5, if_neg c_6, if_neg c_7, if_neg c_8, if_pos c_9]) rfl rfl hP hS dX7_count_164
  by_cases c_10 : a1 = nI 9
  · refine lv_tableIn (tgt := 151) hx hb dX7_count_1 (by rw [c_10]; decide) (by rw [c_10]; decide) (by rw [c_10]; rfl) (by decide) ?_
    have hl : lv_has ls 2 [(0, .ref xo), (1, .int (nI 9))] := by rw [show a1 = nI 9 from c_10] at hl; exact hl
    refine lv_aload_n hx hb dX7_count_151 rfl (lv_at hl 0 rfl) ?_
    refine va_get (D := E.1) (ci := 4) (v := .ref r) (C := RX7) (T := TX7) (N := 7) hx hb hts inb_X7 hown hK hP 0 rfl rfl 0 (by decide) (hts _ bw_94) (fun _ h9 => h9) rfl dX7_count_152 ?_
    refine lv_iconst (v := nI 0) hx hb dX7_count_155 (by decide) ?_
    refine lv_iload_n hx hb dX7_count_156 rfl (lv_at hl 1 rfl) ?_
    refine rn_add (a := 0) (b := 9) hx hb dX7_count_157 ?_
    refine lv_bipush (v := nI 8) hx hb dX7_count_158 (by decide) ?_
    refine rn_sub (a := 9) (b := 8) hx hb dX7_count_160 (by omega) ?_
    refine rwV1 (rest := []) S (c_X3_read l E r rc f 1 (by omega)) cd_X3_read bw_425 ⟨Nat.le_of_ble_eq_true rfl, Nat.le_of_ble_eq_true rfl⟩ ⟨Nat.zero_le _, Nat.zero_le _⟩ hP (hDa.to rfl) hE hA hS [1, 2] rfl rfl [r, rc] rfl rfl (ci := 2) rfl (q0 := 0) rfl (Nat.le_of_ble_eq_true rfl) hl.1 dX7_count_161 (fun H locs hP _ hS => ?_)
    have hP : va_P E.1 vwCl [(xo, .inr (4, [.ref r, .ref r2, .ref r3, .ref d, .ref y, .ref q2, .int sf])), (r, .inr (2, [.ref rc])), (rc, .inl (E.2.1, 293, .inl f)), (d, .inr (1, [.ref ch, .ref nu, .int (nI L), .int a, .int b, .int le, .int co, .int mi])), (ch, .inl (E.2.2.1, 80, .inl t)), (nu, .inl (E.2.1, 4, .inl u)), (y, .inr (0, [.ref q, .int (nI o), .int (nI z)])), (q, .inr (3, [.ref w])), (w, .inl (E.2.1, 1758, .inl h))] H := hP
    exact hret _ _ _ _ _ _ (by rw [fCo, if_neg c_1, if_neg c_2, if_neg c_3, if_neg c_4, if_neg c_5, if_neg c_6, if_neg c_7, if_neg c_8, if_neg c_9, if_pos c_10]) rfl rfl hP hS dX7_count_164
  by_cases c_11 : a1 = nI 10
  · refine lv_tableIn (tgt := 151) hx hb dX7_count_1 (by rw [c_11]; decide) (by rw [c_11]; decide) (by rw [c_11]; rfl) (by decide) ?_
    have hl : lv_has ls 2 [(0, .ref xo), (1, .int (nI 10))] := by rw [show a1 = nI 10 from c_11] at hl; exact hl
    refine lv_aload_n hx hb dX7_count_151 rfl (lv_at hl 0 rfl) ?_
    refine va_get (D := E.1) (ci := 4) (v := .ref r) (C := RX7) (T := TX7) (N := 7) hx hb hts inb_X7 hown hK hP 0 rfl rfl 0 (by decide) (hts _ bw_94) (fun _ h9 => h9) rfl dX7_count_152 ?_
    refine lv_iconst (v := nI 0) hx hb dX7_count_155 (by decide) ?_
    refine lv_iload_n hx hb dX7_count_156 rfl (lv_at hl 1 rfl) ?_
    refine rn_add (a := 0) (b := 10) hx hb dX7_count_157 ?_
    refine lv_bipush (v := nI 8) hx hb dX7_count_158 (by decide) ?_
    refine rn_sub (a := 10) (b := 8) hx hb dX7_count_160 (by omega) ?_
    refine rwV1 (rest := []) S (c_X3_read l E r rc f 2 (by omega)) cd_X3_read bw_425 ⟨Nat.le_of_ble_eq_true rfl, Nat.le_of_ble_eq_true rfl⟩ ⟨Nat.zero_le _, Nat.zero_le _⟩ hP (hDa.to rfl) hE hA hS [1, 2] rfl rfl [r, rc] rfl rfl (ci := 2) rfl (q0 := 0) rfl (Nat.le_of_ble_eq_true rfl) hl.1 dX7_count_161 (fun H locs hP _ hS => ?_)
    have hP : va_P E.1 vwCl [(xo, .inr (4, [.ref r, .ref r2, .ref r3, .ref d, .ref y, .ref q2, .int sf])), (r, .inr (2, [.ref rc])), (rc, .inl (E.2.1, 293, .inl f)), (d, .inr (1, [.ref ch, .ref nu, .int (nI L), .int a, .int b, .int le, .int co, .int mi])), (ch, .inl (E.2.2.1, 80, .inl t)), (nu, .inl (E.2.1, 4, .inl u)), (y, .inr (0, [.ref q, .int (nI o), .int (nI z)])), (q, .inr (3, [.ref w])), (w, .inl (E.2.1, 1758, .inl h))] H := hP
    exact hret _ _ _ _ _ _ (by rw [fCo, if_neg c_1, if_neg c_2, if_neg c_3, if_neg c_4, if_neg c_5, if_neg c_6, if_neg c_7, if_neg c_8, if_neg c_9, if_neg c_10, if_pos c_11]) rfl rfl hP hS dX7_count_164
  by_cases c_12 : a1 = nI 11
  · refine lv_tableIn (tgt := 151) hx hb dX7_count_1 (by rw [c_12]; decide) (by rw [c_12]; decide) (by rw [c_12]; rfl) (by decide) ?_
    have hl : lv_has ls 2 [(0, .ref xo), (1, .int (nI 11))] := by rw [show a1 = nI 11 from c_12] at hl; exact hl
    refine lv_aload_n hx hb dX7_count_151 rfl (lv_at hl 0 rfl) ?_
    refine va_get (D := E.1) (ci := 4) (v := .ref r) (C := RX7) (T := TX7) (N := 7) hx hb hts inb_X7 hown hK hP 0 rfl rfl 0 (by decide) (hts _ bw_94) (fun _ h9 => h9) rfl dX7_count_152 ?_
    refine lv_iconst (v := nI 0) hx hb dX7_count_155 (by decide) ?_
    refine lv_iload_n hx hb dX7_count_156 rfl (lv_at hl 1 rfl) ?_
    refine rn_add (a := 0) (b := 11) hx hb dX7_count_157 ?_
    refine lv_bipush (v := nI 8) hx hb dX7_count_158 (by decide) ?_
    refine rn_sub (a := 11) (b := 8) hx hb dX7_count_160 (by omega) ?_
    refine rwV1 (rest := []) S (c_X3_read l E r rc f 3 (by omega)) cd_X3_read bw_425 ⟨Nat.le_of_ble_eq_true rfl, Nat.le_of_ble_eq_true rfl⟩ ⟨Nat.zero_le _, Nat.zero_le _⟩ hP (hDa.to rfl) hE hA hS [1, 2] rfl rfl [r, rc] rfl rfl (ci := 2) rfl (q0 := 0) rfl (Nat.le_of_ble_eq_true rfl) hl.1 dX7_count_161 (fun H locs hP _ hS => ?_)
    have hP : va_P E.1 vwCl [(xo, .inr (4, [.ref r, .ref r2, .ref r3, .ref d, .ref y, .ref q2, .int sf])), (r, .inr (2, [.ref rc])), (rc, .inl (E.2.1, 293, .inl f)), (d, .inr (1, [.ref ch, .ref nu, .int (nI L), .int a, .int b, .int le, .int co, .int mi])), (ch, .inl (E.2.2.1, 80, .inl t)), (nu, .inl (E.2.1, 4, .inl u)), (y, .inr (0, [.ref q, .int (nI o), .int (nI z)])), (q, .inr (3, [.ref w])), (w, .inl (E.2.1, 1758, .inl h))] H := hP
    exact hret _ _ _ _ _ _ (by rw [fCo, if_neg c_1, if_neg c_2, if_neg c_3, if_neg c_4, if_neg c_5, if_neg c_6, if_neg c_7, if_neg c_8, if_neg c_9, if_neg c_10, if_neg c_11, if_pos c_12]) rfl rfl hP hS dX7_count_164
  by_cases c_13 : a1 = nI 12
  · refine lv_tableIn (tgt := 165) hx hb dX7_count_1 (by rw [c_13]; decide) (by rw [c_13]; decide) (by rw [c_13]; rfl) (by decide) ?_
    refine lv_aload_n hx hb dX7_count_165 rfl (lv_at hl 0 rfl) ?_
    refine va_get (D := E.1) (ci := 4) (v := .ref d) (C := RX7) (T := TX7) (N := 7) hx hb hts inb_X7 hown hK hP 0 rfl rfl 3 (by decide) (hts _ bw_97) (fun _ h9 => h9) rfl dX7_count_166 ?_
    refine rwV0 (rest := []) S (c_X2_length l E d ch nu L a b le co mi t u) cd_X2_length bw_445 ⟨Nat.le_of_ble_eq_true rfl, Nat.le_of_ble_eq_true rfl⟩ ⟨Nat.zero_le _, Nat.zero_le _⟩ hP (hDa.to rfl) hE hA hS [3, 4, 5] rfl rfl [d, ch, nu] rfl rfl (ci := 1) rfl (q0 := 0) rfl (Nat.le_of_ble_eq_true rfl) hl.1 dX7_count_169 (fun H locs hP _ hS => ?_)
    have hP : va_P E.1 vwCl [(xo, .inr (4, [.ref r, .ref r2, .ref r3, .ref d, .ref y, .ref q2, .int sf])), (r, .inr (2, [.ref rc])), (rc, .inl (E.2.1, 293, .inl f)), (d, .inr (1, [.ref ch, .ref nu, .int (nI L), .int a, .int b, .int le, .int co, .int mi])), (ch, .inl (E.2.2.1, 80, .inl t)), (nu, .inl (E.2.1, 4, .inl u)), (y, .inr (0, [.ref q, .int (nI o), .int (nI z)])), (q, .inr (3, [.ref w])), (w, .inl (E.2.1, 1758, .inl h))] H := hP
    exact hret _ _ _ _ _ _ (by rw [fCo, if_neg c_1, if_neg c_2, if_neg c_3, if_neg c_4, if_neg c_5, if_neg c_6, if_neg c_7, if_neg c_8, if_neg c_9, if_neg c_10, if_neg c_11, if_neg c_12, if_pos c_13]) rfl rfl hP hS dX7_count_172
  by_cases c_14 : a1 = nI 13
  · refine lv_tableIn (tgt := 173) hx hb dX7_count_1 (by rw [c_14]; decide) (by rw [c_14]; decide) (by rw [c_14]; rfl) (by decide) ?_
    refine lv_aload_n hx hb dX7_count_173 rfl (lv_at hl 0 rfl) ?_
    refine va_get (D := E.1) (ci := 4) (v := .ref y) (C := RX7) (T := TX7) (N := 7) hx hb hts inb_X7 hown hK hP 0 rfl rfl 4 (by decide) (hts _ bw_98) (fun _ h9 => h9) rfl dX7_count_174 ?_
    refine rwV0 (rest := []) S (c_X1_size l E y q o z) cd_X1_size bw_119 ⟨Nat.le_of_ble_eq_true rfl, Nat.le_of_ble_eq_true rfl⟩ ⟨Nat.zero_le _, Nat.zero_le _⟩ hP (hDa.to rfl) hE hA hS [6] rfl rfl [y] rfl rfl (ci := 0) rfl (q0 := 0) rfl (Nat.le_of_ble_eq_true rfl) hl.1 dX7_count_177 (fun H locs hP _ hS => ?_)
    have hP : va_P E.1 vwCl [(xo, .inr (4, [.ref r, .ref r2, .ref r3, .ref d, .ref y, .ref q2, .int sf])), (r, .inr (2, [.ref rc])), (rc, .inl (E.2.1, 293, .inl f)), (d, .inr (1, [.ref ch, .ref nu, .int (nI L), .int a, .int b, .int le, .int co, .int mi])), (ch, .inl (E.2.2.1, 80, .inl t)), (nu, .inl (E.2.1, 4, .inl u)), (y, .inr (0, [.ref q, .int (nI o), .int (nI z)])), (q, .inr (3, [.ref w])), (w, .inl (E.2.1, 1758, .inl h))] H := hP
    exact hret _ _ _ _ _ _ (by rw [fCo, if_neg c_1, if_neg c_2, if_neg c_3, if_neg c_4, if_neg c_5, if_neg c_6, if_neg c_7, if_neg c_8, if_neg c_9, if_neg c_10, if_neg c_11, if_neg c_12, if_neg c_13, if_pos c_14]) rfl rfl hP hS dX7_count_180
  refine lv_tableOut (tgt := 181) hx hb dX7_count_1 (sw_out (lo := 0) (n := 14) ((lt_s (lt_s (lt_s (lt_s (lt_s (lt_s (lt_s (lt_s (lt_s (lt_s (lt_s (lt_s (lt_s (lt_s lt_0 c_1) c_2) c_3) c_4) c_5) c_6) c_7) c_8) c_9) c_10) c_11) c_12) c_13) c_14 : ∀ a, a < 14 → (fun a => ¬ a1 = nI (0 + a)) a))) (by decide) ?_
  refine lv_bipush (v := (-2)) hx hb dX7_count_181 (by decide) ?_
  exact hret _ _ _ _ _ _ (by rw [fCo, if_neg c_1, if_neg c_2, if_neg c_3, if_neg c_4, if_neg c_5, if_neg c_6, if_neg c_7, if_neg c_8, if_neg c_9, if_neg c_10, if_neg c_11, if_neg c_12, if_neg c_13, if_neg c_14]) rfl rfl hP hS dX7_count_183

theorem cd_X7_needs : cdV RX7 yX7_needs cX7_needs 4 (some .int) 2 := ⟨⟨bw_495, bw_2, by decide, by decide, by decide +kernel⟩, bw_493, bw_494⟩
def fNe (f : Nat → Int32) (n : Nat) (a1 : Int32) (a2 : Int32) : Int32 := if hasS n a1 = 0 then (-1) else if isC a2 = 0 then (-2) else if isP (cNd f (ix a1) (ix a2) (f (4 + (ix a2)) * f 3 / nI 100)) = 0 then (-6) else cNd f (ix a1) (ix a2) (f (4 + (ix a2)) * f 3 / nI 100)
set_option maxHeartbeats 4000000 in
set_option maxRecDepth 100000 in
theorem c_X7_needs (l : Launch) (E : EV) (xo : Nat) (r : Nat) (r2 : Nat) (r3 : Nat) (d : Nat) (y : Nat) (q2 : Nat) (sf : Int32) (rc : Nat) (f : Nat → Int32) (n : Nat) (a1 : Int32) (a2 : Int32) (hf : f 12 = nI n) (hn : n ≤ 20) : rcI l E yX7_needs cX7_needs 4 .int 6 [.ref xo, .int a1, .int a2] [(xo, .inr (4, [.ref r, .ref r2, .ref r3, .ref d, .ref y, .ref q2, .int sf])), (r, .inr (2, [.ref rc])), (rc, .inl (E.2.1, 293, .inl f))] (fNe f n a1 a2) [(xo, .inr (4, [.ref r, .ref r2, .ref r3, .ref d, .ref y, .ref q2, .int sf])), (r, .inr (2, [.ref rc])), (rc, .inl (E.2.1, 293, .inl f))] := by
  refine rcI_of (by decide) (Nat.le_of_ble_eq_true rfl) ?_
  intro pg e s m below meth c Q A ls S hP hD0 hE hA hl hret
  have hx := S.1
  have hb := S.2.1
  have hown := S.2.2.2.1
  have hts := S.2.2.2.2
  have hK := hE.1
  have hS : va_S A s.heap s.heap [] := va_S.rf
  have hDa : va_Da A [xo, r, rc] := ⟨_, hD0, rfl⟩
  have hl : lv_has ls 4 [(0, .ref xo), (1, .int a1), (2, .int a2)] := hl
  refine lv_aload_n hx hb dX7_needs_0 rfl (lv_at hl 0 rfl) ?_
  refine va_get (D := E.1) (ci := 4) (v := .ref r) (C := RX7) (T := TX7) (N := 7) hx hb hts inb_X7 hown hK hP 0 rfl rfl 0 (by decide) (hts _ bw_94) (fun _ h9 => h9) rfl dX7_needs_1 ?_
  refine lv_iload_n hx hb dX7_needs_4 rfl (lv_at hl 1 rfl) ?_
  refine rwV1 (rest := []) S (c_X3_hasShot l E r rc f n a1 hf) cd_X3_hasShot bw_459 ⟨Nat.le_of_ble_eq_true rfl, Nat.le_of_ble_eq_true rfl⟩ ⟨Nat.zero_le _, Nat.zero_le _⟩ hP (hDa.to rfl) hE hA hS [1, 2] rfl rfl [r, rc] rfl rfl (ci := 2) rfl (q0 := 0) rfl (Nat.le_of_ble_eq_true rfl) hl.1 dX7_needs_5 (fun H locs hP _ hS => ?_)
  have hP : va_P E.1 vwCl [(xo, .inr (4, [.ref r, .ref r2, .ref r3, .ref d, .ref y, .ref q2, .int sf])), (r, .inr (2, [.ref rc])), (rc, .inl (E.2.1, 293, .inl f))] H := hP
  refine lv_if_ne (tgt := 13) hx hb dX7_needs_8 (by decide) (fun c_1 => ?_) (fun c_1 => ?_)
  · obtain ⟨p, h9_p, rfl⟩ : ∃ p : Nat, p < n ∧ a1 = nI p := (hasS_of (by omega) c_1)
    refine lv_iload_n hx hb dX7_needs_13 rfl (lv_at hl 2 rfl) ?_
    refine rwS1 (rest := []) S (c_X7_isColour l E a2) cd_X7_isColour bw_453 ⟨Nat.le_of_ble_eq_true rfl, Nat.le_of_ble_eq_true rfl⟩ ⟨Nat.zero_le _, Nat.zero_le _⟩ hP (hDa.to rfl) hE hA hS [] rfl rfl [] rfl rfl (Nat.le_of_ble_eq_true rfl) hl.1 dX7_needs_14 (fun H locs hP _ hS => ?_)
    have hP : va_P E.1 vwCl [(xo, .inr (4, [.ref r, .ref r2, .ref r3, .ref d, .ref y, .ref q2, .int sf])), (r, .inr (2, [.ref rc])), (rc, .inl (E.2.1, 293, .inl f))] H := hP
    refine lv_if_ne (tgt := 23) hx hb dX7_needs_17 (by decide) (fun c_2 => ?_) (fun c_2 => ?_)
    · obtain ⟨co, h9_co, rfl⟩ : ∃ co : Nat, co < 3 ∧ a2 = nI co := (isC_of c_2)
      refine lv_aload_n hx hb dX7_needs_23 rfl (lv_at hl 0 rfl) ?_
      refine va_get (D := E.1) (ci := 4) (v := .ref r) (C := RX7) (T := TX7) (N := 7) hx hb hts inb_X7 hown hK hP 0 rfl rfl 0 (by decide) (hts _ bw_94) (fun _ h9 => h9) rfl dX7_needs_24 ?_
      refine lv_iload_n hx hb dX7_needs_27 rfl (lv_at hl 1 rfl) ?_
      refine lv_iload_n hx hb dX7_needs_28 rfl (lv_at hl 2 rfl) ?_
      refine lv_aload_n hx hb dX7_needs_29 rfl (lv_at hl 0 rfl) ?_
      refine va_get (D := E.1) (ci := 4) (v := .ref r) (C := RX7) (T := TX7) (N := 7) hx hb hts inb_X7 hown hK hP 0 rfl rfl 0 (by decide) (hts _ bw_94) (fun _ h9 => h9) rfl dX7_needs_30 ?_
      refine lv_iload_n hx hb dX7_needs_33 rfl (lv_at hl 2 rfl) ?_
      refine rwV1 (rest := [.int (nI co), .int (nI p), .ref r]) S (c_X3_lampLoss l E r rc f co (by omega)) cd_X3_lampLoss bw_454 ⟨Nat.le_of_ble_eq_true rfl, Nat.le_of_ble_eq_true rfl⟩ ⟨Nat.zero_le _, Nat.zero_le _⟩ hP (hDa.to rfl) hE hA hS [1, 2] rfl rfl [r, rc] rfl rfl (ci := 2) rfl (q0 := 0) rfl (Nat.le_of_ble_eq_true rfl) hl.1 dX7_needs_34 (fun H locs hP _ hS => ?_)
      have hP : va_P E.1 vwCl [(xo, .inr (4, [.ref r, .ref r2, .ref r3, .ref d, .ref y, .ref q2, .int sf])), (r, .inr (2, [.ref rc])), (rc, .inl (E.2.1, 293, .inl f))] H := hP
      refine rwS4 (rest := []) S (c_X6_lightNeeded l E r rc f p co (f (4 + co) * f 3 / nI 100) (by omega) (by omega)) cd_X6_lightNeeded bw_496 ⟨Nat.le_of_ble_eq_true rfl, Nat.le_of_ble_eq_true rfl⟩ ⟨Nat.zero_le _, Nat.zero_le _⟩ hP (hDa.to rfl) hE hA hS [1, 2] rfl rfl [r, rc] rfl rfl (Nat.le_of_ble_eq_true rfl) hl.1 dX7_needs_37 (fun H locs hP _ hS => ?_)
      have hP : va_P E.1 vwCl [(xo, .inr (4, [.ref r, .ref r2, .ref r3, .ref d, .ref y, .ref q2, .int sf])), (r, .inr (2, [.ref rc])), (rc, .inl (E.2.1, 293, .inl f))] H := hP
      refine lv_istore_n (lv' := [(3, .int (cNd f p co (f (4 + co) * f 3 / nI 100))), (0, .ref xo), (1, .int (nI p)), (2, .int (nI co))]) hx hb dX7_needs_40 rfl hl (by decide) rfl (fun ls hl => ?_)
      refine lv_iload_n hx hb dX7_needs_41 rfl (lv_at hl 0 rfl) ?_
      refine rwS1 (rest := []) S (c_X7_isPoints l E (cNd f p co (f (4 + co) * f 3 / nI 100))) cd_X7_isPoints bw_501 ⟨Nat.le_of_ble_eq_true rfl, Nat.le_of_ble_eq_true rfl⟩ ⟨Nat.zero_le _, Nat.zero_le _⟩ hP (hDa.to rfl) hE hA hS [] rfl rfl [] rfl rfl (Nat.le_of_ble_eq_true rfl) hl.1 dX7_needs_42 (fun H locs hP _ hS => ?_)
      have hP : va_P E.1 vwCl [(xo, .inr (4, [.ref r, .ref r2, .ref r3, .ref d, .ref y, .ref q2, .int sf])), (r, .inr (2, [.ref rc])), (rc, .inl (E.2.1, 293, .inl f))] H := hP
      refine lv_if_eq (tgt := 52) hx hb dX7_needs_45 (by decide) (fun c_3 => ?_) (fun c_3 => ?_)
      · refine lv_bipush (v := (-6)) hx hb dX7_needs_52 (by decide) ?_
        exact hret _ _ _ _ _ _ (by first | rw [fNe, ix_nI (show p < 2 ^ 31 by omega), ix_nI (show co < 2 ^ 31 by omega), if_neg c_1, if_neg c_2, if_pos c_3] | rw [fNe, if_neg c_1, if_neg c_2, if_pos c_3] | simp only [fNe, ix_nI (show p < 2 ^ 31 by omega), ix_nI (show co < 2 ^ 31 by omega), if_neg c_1, if_neg c_2, if_pos c_3]) rfl rfl hP hS dX7_needs_54
      · refine lv_iload_n hx hb dX7_needs_48 rfl (lv_at hl 0 rfl) ?_
        refine lv_goto (tgt := 54) hx hb dX7_needs_49 (by decide) ?_
        exact hret _ _ _ _ _ _ (by first | rw [fNe, ix_nI (show p < 2 ^ 31 by omega), ix_nI (show co < 2 ^ 31 by omega), if_neg c_1, if_neg c_2, if_neg c_3] | rw [fNe, if_neg c_1, if_neg c_2, if_neg c_3] | simp only [fNe, ix_nI (show p < 2 ^ 31 by omega), ix_nI (show co < 2 ^ 31 by omega), if_neg c_1, if_neg c_2, if_neg c_3]) rfl rfl hP hS dX7_needs_54
    · refine lv_bipush (v := (-2)) hx hb dX7_needs_20 (by decide) ?_
      exact hret _ _ _ _ _ _ (by first | rw [fNe, ix_nI (show p < 2 ^ 31 by omega), if_neg c_1, if_pos c_2] | rw [fNe, if_neg c_1, if_pos c_2] | simp only [fNe, ix_nI (show p < 2 ^ 31 by omega), if_neg c_1, if_pos c_2]) rfl rfl hP hS dX7_needs_22
  · refine lv_iconst (v := (-1)) hx hb dX7_needs_11 (by decide) ?_
    exact hret _ _ _ _ _ _ (by rw [fNe, if_pos c_1]) rfl rfl hP hS dX7_needs_12

theorem cd_X7_ifLight : cdV RX7 yX7_ifLight cX7_ifLight 4 (some .int) 3 := ⟨⟨bw_505, bw_2, by decide, by decide, by decide +kernel⟩, bw_503, bw_504⟩
def fIf (f : Nat → Int32) (n : Nat) (a1 : Int32) (a2 : Int32) (a3 : Int32) : Int32 := if hasS n a1 = 0 then (-1) else if isC a2 = 0 then (-2) else if isP a3 = 0 then (-2) else cPr f (ix a1) (ix a2) a3 (f (7 + (ix a2)))
set_option maxHeartbeats 4000000 in
set_option maxRecDepth 100000 in
theorem c_X7_ifLight (l : Launch) (E : EV) (xo : Nat) (r : Nat) (r2 : Nat) (r3 : Nat) (d : Nat) (y : Nat) (q2 : Nat) (sf : Int32) (rc : Nat) (f : Nat → Int32) (n : Nat) (a1 : Int32) (a2 : Int32) (a3 : Int32) (hf : f 12 = nI n) (hn : n ≤ 20) : rcI l E yX7_ifLight cX7_ifLight 4 .int 6 [.ref xo, .int a1, .int a2, .int a3] [(xo, .inr (4, [.ref r, .ref r2, .ref r3, .ref d, .ref y, .ref q2, .int sf])), (r, .inr (2, [.ref rc])), (rc, .inl (E.2.1, 293, .inl f))] (fIf f n a1 a2 a3) [(xo, .inr (4, [.ref r, .ref r2, .ref r3, .ref d, .ref y, .ref q2, .int sf])), (r, .inr (2, [.ref rc])), (rc, .inl (E.2.1, 293, .inl f))] := by
  refine rcI_of (by decide) (Nat.le_of_ble_eq_true rfl) ?_
  intro pg e s m below meth c Q A ls S hP hD0 hE hA hl hret
  have hx := S.1
  have hb := S.2.1
  have hown := S.2.2.2.1
  have hts := S.2.2.2.2
  have hK := hE.1
  have hS : va_S A s.heap s.heap [] := va_S.rf
  have hDa : va_Da A [xo, r, rc] := ⟨_, hD0, rfl⟩
  have hl : lv_has ls 4 [(0, .ref xo), (1, .int a1), (2, .int a2), (3, .int a3)] := hl
  refine lv_aload_n hx hb dX7_ifLight_0 rfl (lv_at hl 0 rfl) ?_
  refine va_get (D := E.1) (ci := 4) (v := .ref r) (C := RX7) (T := TX7) (N := 7) hx hb hts inb_X7 hown hK hP 0 rfl rfl 0 (by decide) (hts _ bw_94) (fun _ h9 => h9) rfl dX7_ifLight_1 ?_
  refine lv_iload_n hx hb dX7_ifLight_4 rfl (lv_at hl 1 rfl) ?_
  refine rwV1 (rest := []) S (c_X3_hasShot l E r rc f n a1 hf) cd_X3_hasShot bw_459 ⟨Nat.le_of_ble_eq_true rfl, Nat.le_of_ble_eq_true rfl⟩ ⟨Nat.zero_le _, Nat.zero_le _⟩ hP (hDa.to rfl) hE hA hS [1, 2] rfl rfl [r, rc] rfl rfl (ci := 2) rfl (q0 := 0) rfl (Nat.le_of_ble_eq_true rfl) hl.1 dX7_ifLight_5 (fun H locs hP _ hS => ?_)
  have hP : va_P E.1 vwCl [(xo, .inr (4, [.ref r, .ref r2, .ref r3, .ref d, .ref y, .ref q2, .int sf])), (r, .inr (2, [.ref rc])), (rc, .inl (E.2.1, 293, .inl f))] H := hP
  refine lv_if_ne (tgt := 13) hx hb dX7_ifLight_8 (by decide) (fun c_1 => ?_) (fun c_1 => ?_)
  · obtain ⟨p, h9_p, rfl⟩ : ∃ p : Nat, p < n ∧ a1 = nI p := (hasS_of (by omega) c_1)
    refine lv_iload_n hx hb dX7_ifLight_13 rfl (lv_at hl 2 rfl) ?_
    refine rwS1 (rest := []) S (c_X7_isColour l E a2) cd_X7_isColour bw_453 ⟨Nat.le_of_ble_eq_true rfl, Nat.le_of_ble_eq_true rfl⟩ ⟨Nat.zero_le _, Nat.zero_le _⟩ hP (hDa.to rfl) hE hA hS [] rfl rfl [] rfl rfl (Nat.le_of_ble_eq_true rfl) hl.1 dX7_ifLight_14 (fun H locs hP _ hS => ?_)
    have hP : va_P E.1 vwCl [(xo, .inr (4, [.ref r, .ref r2, .ref r3, .ref d, .ref y, .ref q2, .int sf])), (r, .inr (2, [.ref rc])), (rc, .inl (E.2.1, 293, .inl f))] H := hP
    refine lv_if_eq (tgt := 27) hx hb dX7_ifLight_17 (by decide) (fun c_2 => ?_) (fun c_2 => ?_)
    · refine lv_bipush (v := (-2)) hx hb dX7_ifLight_27 (by decide) ?_
      exact hret _ _ _ _ _ _ (by first | rw [fIf, ix_nI (show p < 2 ^ 31 by omega), if_neg c_1, if_pos c_2] | rw [fIf, if_neg c_1, if_pos c_2] | simp only [fIf, ix_nI (show p < 2 ^ 31 by omega), if_neg c_1, if_pos c_2]) rfl rfl hP hS dX7_ifLight_29
    · obtain ⟨co, h9_co, rfl⟩ : ∃ co : Nat, co < 3 ∧ a2 = nI co := (isC_of c_2)
      refine lv_iload_n hx hb dX7_ifLight_20 rfl (lv_at hl 3 rfl) ?_
      refine rwS1 (rest := []) S (c_X7_isPoints l E a3) cd_X7_isPoints bw_501 ⟨Nat.le_of_ble_eq_true rfl, Nat.le_of_ble_eq_true rfl⟩ ⟨Nat.zero_le _, Nat.zero_le _⟩ hP (hDa.to rfl) hE hA hS [] rfl rfl [] rfl rfl (Nat.le_of_ble_eq_true rfl) hl.1 dX7_ifLight_21 (fun H locs hP _ hS => ?_)
      have hP : va_P E.1 vwCl [(xo, .inr (4, [.ref r, .ref r2, .ref r3, .ref d, .ref y, .ref q2, .int sf])), (r, .inr (2, [.ref rc])), (rc, .inl (E.2.1, 293, .inl f))] H := hP
      refine lv_if_ne (tgt := 30) hx hb dX7_ifLight_24 (by decide) (fun c_3 => ?_) (fun c_3 => ?_)
      · refine lv_aload_n hx hb dX7_ifLight_30 rfl (lv_at hl 0 rfl) ?_
        refine va_get (D := E.1) (ci := 4) (v := .ref r) (C := RX7) (T := TX7) (N := 7) hx hb hts inb_X7 hown hK hP 0 rfl rfl 0 (by decide) (hts _ bw_94) (fun _ h9 => h9) rfl dX7_ifLight_31 ?_
        refine lv_iload_n hx hb dX7_ifLight_34 rfl (lv_at hl 1 rfl) ?_
        refine lv_iload_n hx hb dX7_ifLight_35 rfl (lv_at hl 2 rfl) ?_
        refine lv_iload_n hx hb dX7_ifLight_36 rfl (lv_at hl 3 rfl) ?_
        refine lv_aload_n hx hb dX7_ifLight_37 rfl (lv_at hl 0 rfl) ?_
        refine va_get (D := E.1) (ci := 4) (v := .ref r) (C := RX7) (T := TX7) (N := 7) hx hb hts inb_X7 hown hK hP 0 rfl rfl 0 (by decide) (hts _ bw_94) (fun _ h9 => h9) rfl dX7_ifLight_38 ?_
        refine lv_bipush (v := nI 7) hx hb dX7_ifLight_41 (by decide) ?_
        refine lv_iload_n hx hb dX7_ifLight_43 rfl (lv_at hl 2 rfl) ?_
        refine rn_add (a := 7) (b := co) hx hb dX7_ifLight_44 ?_
        refine rwV1 (rest := [.int a3, .int (nI co), .int (nI p), .ref r]) S (c_X3_read l E r rc f (7 + co) (by omega)) cd_X3_read bw_425 ⟨Nat.le_of_ble_eq_true rfl, Nat.le_of_ble_eq_true rfl⟩ ⟨Nat.zero_le _, Nat.zero_le _⟩ hP (hDa.to rfl) hE hA hS [1, 2] rfl rfl [r, rc] rfl rfl (ci := 2) rfl (q0 := 0) rfl (Nat.le_of_ble_eq_true rfl) hl.1 dX7_ifLight_45 (fun H locs hP _ hS => ?_)
        have hP : va_P E.1 vwCl [(xo, .inr (4, [.ref r, .ref r2, .ref r3, .ref d, .ref y, .ref q2, .int sf])), (r, .inr (2, [.ref rc])), (rc, .inl (E.2.1, 293, .inl f))] H := hP
        refine rwS5 (rest := []) S (c_X5_printsWith l E r rc f p co a3 (f (7 + co)) (by omega) (by omega)) cd_X5_printsWith bw_506 ⟨Nat.le_of_ble_eq_true rfl, Nat.le_of_ble_eq_true rfl⟩ ⟨Nat.zero_le _, Nat.zero_le _⟩ hP (hDa.to rfl) hE hA hS [1, 2] rfl rfl [r, rc] rfl rfl (Nat.le_of_ble_eq_true rfl) hl.1 dX7_ifLight_48 (fun H locs hP _ hS => ?_)
        have hP : va_P E.1 vwCl [(xo, .inr (4, [.ref r, .ref r2, .ref r3, .ref d, .ref y, .ref q2, .int sf])), (r, .inr (2, [.ref rc])), (rc, .inl (E.2.1, 293, .inl f))] H := hP
        exact hret _ _ _ _ _ _ (by first | rw [fIf, ix_nI (show p < 2 ^ 31 by omega), ix_nI (show co < 2 ^ 31 by omega), if_neg c_1, if_neg c_2, if_neg c_3] | rw [fIf, if_neg c_1, if_neg c_2, if_neg c_3] | simp only [fIf, ix_nI (show p < 2 ^ 31 by omega), ix_nI (show co < 2 ^ 31 by omega), if_neg c_1, if_neg c_2, if_neg c_3]) rfl rfl hP hS dX7_ifLight_51
      · refine lv_bipush (v := (-2)) hx hb dX7_ifLight_27 (by decide) ?_
        exact hret _ _ _ _ _ _ (by first | rw [fIf, ix_nI (show p < 2 ^ 31 by omega), ix_nI (show co < 2 ^ 31 by omega), if_neg c_1, if_neg c_2, if_pos c_3] | rw [fIf, if_neg c_1, if_neg c_2, if_pos c_3] | simp only [fIf, ix_nI (show p < 2 ^ 31 by omega), ix_nI (show co < 2 ^ 31 by omega), if_neg c_1, if_neg c_2, if_pos c_3]) rfl rfl hP hS dX7_ifLight_29
  · refine lv_iconst (v := (-1)) hx hb dX7_ifLight_11 (by decide) ?_
    exact hret _ _ _ _ _ _ (by rw [fIf, if_pos c_1]) rfl rfl hP hS dX7_ifLight_12

theorem cd_X7_bestTrim : cdV RX7 yX7_bestTrim cX7_bestTrim 4 (some .int) 2 := ⟨⟨bw_470, bw_2, by decide, by decide, by decide +kernel⟩, bw_468, bw_469⟩
def fBe (f : Nat → Int32) (n : Nat) (a1 : Int32) (a2 : Int32) : Int32 := if isC a1 = 0 then (-2) else if isW a2 (nI 0) (nI 1) = 0 then (-2) else if a2 = 0 then (cLq f n (ix a1) 42).1 + (nI 20) else cSo f (ix a1) ((cLq f n (ix a1) 42).1) n
set_option maxHeartbeats 4000000 in
set_option maxRecDepth 100000 in
theorem c_X7_bestTrim (l : Launch) (E : EV) (xo : Nat) (r : Nat) (r2 : Nat) (r3 : Nat) (d : Nat) (y : Nat) (q2 : Nat) (sf : Int32) (rc : Nat) (f : Nat → Int32) (n : Nat) (a1 : Int32) (a2 : Int32) (hf : f 12 = nI n) (hn : n ≤ 20) : rcI l E yX7_bestTrim cX7_bestTrim 4 .int 6 [.ref xo, .int a1, .int a2] [(xo, .inr (4, [.ref r, .ref r2, .ref r3, .ref d, .ref y, .ref q2, .int sf])), (r, .inr (2, [.ref rc])), (rc, .inl (E.2.1, 293, .inl f))] (fBe f n a1 a2) [(xo, .inr (4, [.ref r, .ref r2, .ref r3, .ref d, .ref y, .ref q2, .int sf])), (r, .inr (2, [.ref rc])), (rc, .inl (E.2.1, 293, .inl f))] := by
  refine rcI_of (by decide) (Nat.le_of_ble_eq_true rfl) ?_
  intro pg e s m below meth c Q A ls S hP hD0 hE hA hl hret
  have hx := S.1
  have hb := S.2.1
  have hown := S.2.2.2.1
  have hts := S.2.2.2.2
  have hK := hE.1
  have hS : va_S A s.heap s.heap [] := va_S.rf
  have hDa : va_Da A [xo, r, rc] := ⟨_, hD0, rfl⟩
  have hl : lv_has ls 4 [(0, .ref xo), (1, .int a1), (2, .int a2)] := hl
  refine lv_iload_n hx hb dX7_bestTrim_0 rfl (lv_at hl 1 rfl) ?_
  refine rwS1 (rest := []) S (c_X7_isColour l E a1) cd_X7_isColour bw_453 ⟨Nat.le_of_ble_eq_true rfl, Nat.le_of_ble_eq_true rfl⟩ ⟨Nat.zero_le _, Nat.zero_le _⟩ hP (hDa.to rfl) hE hA hS [] rfl rfl [] rfl rfl (Nat.le_of_ble_eq_true rfl) hl.1 dX7_bestTrim_1 (fun H locs hP _ hS => ?_)
  have hP : va_P E.1 vwCl [(xo, .inr (4, [.ref r, .ref r2, .ref r3, .ref d, .ref y, .ref q2, .int sf])), (r, .inr (2, [.ref rc])), (rc, .inl (E.2.1, 293, .inl f))] H := hP
  refine lv_if_eq (tgt := 16) hx hb dX7_bestTrim_4 (by decide) (fun c_1 => ?_) (fun c_1 => ?_)
  · refine lv_bipush (v := (-2)) hx hb dX7_bestTrim_16 (by decide) ?_
    exact hret _ _ _ _ _ _ (by rw [fBe, if_pos c_1]) rfl rfl hP hS dX7_bestTrim_18
  · obtain ⟨co, h9_co, rfl⟩ : ∃ co : Nat, co < 3 ∧ a1 = nI co := (isC_of c_1)
    refine lv_iload_n hx hb dX7_bestTrim_7 rfl (lv_at hl 2 rfl) ?_
    refine lv_iconst (v := nI 0) hx hb dX7_bestTrim_8 (by decide) ?_
    refine lv_iconst (v := nI 1) hx hb dX7_bestTrim_9 (by decide) ?_
    refine rwS3 (rest := []) S (c_X7_isWithin l E a2 (nI 0) (nI 1)) cd_X7_isWithin bw_172 ⟨Nat.le_of_ble_eq_true rfl, Nat.le_of_ble_eq_true rfl⟩ ⟨Nat.zero_le _, Nat.zero_le _⟩ hP (hDa.to rfl) hE hA hS [] rfl rfl [] rfl rfl (Nat.le_of_ble_eq_true rfl) hl.1 dX7_bestTrim_10 (fun H locs hP _ hS => ?_)
    have hP : va_P E.1 vwCl [(xo, .inr (4, [.ref r, .ref r2, .ref r3, .ref d, .ref y, .ref q2, .int sf])), (r, .inr (2, [.ref rc])), (rc, .inl (E.2.1, 293, .inl f))] H := hP
    refine lv_if_ne (tgt := 19) hx hb dX7_bestTrim_13 (by decide) (fun c_2 => ?_) (fun c_2 => ?_)
    · refine lv_aload_n hx hb dX7_bestTrim_19 rfl (lv_at hl 0 rfl) ?_
      refine va_get (D := E.1) (ci := 4) (v := .ref r) (C := RX7) (T := TX7) (N := 7) hx hb hts inb_X7 hown hK hP 0 rfl rfl 0 (by decide) (hts _ bw_94) (fun _ h9 => h9) rfl dX7_bestTrim_20 ?_
      refine lv_iload_n hx hb dX7_bestTrim_23 rfl (lv_at hl 1 rfl) ?_
      refine rwS2 (rest := []) S (c_X6_leastOffTrim l E r rc f n co hf hn (by omega)) cd_X6_leastOffTrim bw_471 ⟨Nat.le_of_ble_eq_true rfl, Nat.le_of_ble_eq_true rfl⟩ ⟨Nat.zero_le _, Nat.zero_le _⟩ hP (hDa.to rfl) hE hA hS [1, 2] rfl rfl [r, rc] rfl rfl (Nat.le_of_ble_eq_true rfl) hl.1 dX7_bestTrim_24 (fun H locs hP _ hS => ?_)
      have hP : va_P E.1 vwCl [(xo, .inr (4, [.ref r, .ref r2, .ref r3, .ref d, .ref y, .ref q2, .int sf])), (r, .inr (2, [.ref rc])), (rc, .inl (E.2.1, 293, .inl f))] H := hP
      refine lv_istore_n (lv' := [(3, .int ((cLq f n co 42).1)), (0, .ref xo), (1, .int (nI co)), (2, .int a2)]) hx hb dX7_bestTrim_27 rfl hl (by decide) rfl (fun ls hl => ?_)
      refine lv_iload_n hx hb dX7_bestTrim_28 rfl (lv_at hl 3 rfl) ?_
      refine lv_if_ne (tgt := 39) hx hb dX7_bestTrim_29 (by decide) (fun c_3 => ?_) (fun c_3 => ?_)
      · refine lv_aload_n hx hb dX7_bestTrim_39 rfl (lv_at hl 1 rfl) ?_
        refine va_get (D := E.1) (ci := 4) (v := .ref r) (C := RX7) (T := TX7) (N := 7) hx hb hts inb_X7 hown hK hP 0 rfl rfl 0 (by decide) (hts _ bw_94) (fun _ h9 => h9) rfl dX7_bestTrim_40 ?_
        refine lv_iload_n hx hb dX7_bestTrim_43 rfl (lv_at hl 2 rfl) ?_
        refine lv_iload_n hx hb dX7_bestTrim_44 rfl (lv_at hl 0 rfl) ?_
        refine rwS3 (rest := []) S (c_X6_offTogether l E r rc f n co ((cLq f n co 42).1) hf hn (by omega)) cd_X6_offTogether bw_480 ⟨Nat.le_of_ble_eq_true rfl, Nat.le_of_ble_eq_true rfl⟩ ⟨Nat.zero_le _, Nat.zero_le _⟩ hP (hDa.to rfl) hE hA hS [1, 2] rfl rfl [r, rc] rfl rfl (Nat.le_of_ble_eq_true rfl) hl.1 dX7_bestTrim_45 (fun H locs hP _ hS => ?_)
        have hP : va_P E.1 vwCl [(xo, .inr (4, [.ref r, .ref r2, .ref r3, .ref d, .ref y, .ref q2, .int sf])), (r, .inr (2, [.ref rc])), (rc, .inl (E.2.1, 293, .inl f))] H := hP
        exact hret _ _ _ _ _ _ (by first | rw [fBe, ix_nI (show co < 2 ^ 31 by omega), if_neg c_1, if_neg c_2, if_neg c_3] | rw [fBe, if_neg c_1, if_neg c_2, if_neg c_3] | simp only [fBe, ix_nI (show co < 2 ^ 31 by omega), if_neg c_1, if_neg c_2, if_neg c_3]) rfl rfl hP hS dX7_bestTrim_48
      · refine lv_iload_n hx hb dX7_bestTrim_32 rfl (lv_at hl 0 rfl) ?_
        refine lv_bipush (v := nI 20) hx hb dX7_bestTrim_33 (by decide) ?_
        refine lv_iadd hx hb dX7_bestTrim_35 ?_
        refine lv_goto (tgt := 48) hx hb dX7_bestTrim_36 (by decide) ?_
        exact hret _ _ _ _ _ _ (by first | rw [fBe, ix_nI (show co < 2 ^ 31 by omega), if_neg c_1, if_neg c_2, if_pos c_3] | rw [fBe, if_neg c_1, if_neg c_2, if_pos c_3] | simp only [fBe, ix_nI (show co < 2 ^ 31 by omega), if_neg c_1, if_neg c_2, if_pos c_3]) rfl rfl hP hS dX7_bestTrim_48
    · refine lv_bipush (v := (-2)) hx hb dX7_bestTrim_16 (by decide) ?_
      exact hret _ _ _ _ _ _ (by first | rw [fBe, ix_nI (show co < 2 ^ 31 by omega), if_neg c_1, if_pos c_2] | rw [fBe, if_neg c_1, if_pos c_2] | simp only [fBe, ix_nI (show co < 2 ^ 31 by omega), if_neg c_1, if_pos c_2]) rfl rfl hP hS dX7_bestTrim_18

def unF (f h : Nat → Int32) (o z : Nat) : Nat → Int32 := if z = 0 then f else va_cpy h f ((o + (z - 1)) % 6 * 293) 0 293
def unV (z : Nat) : Int32 := if z = 0 then -5 else nI (z - 1)
theorem cd_X7_undo : cdV RX7 yX7_undo cX7_undo 1 (some .int) 0 := ⟨⟨bw_118, bw_2, by decide, by decide, by decide +kernel⟩, bw_116, bw_117⟩
set_option maxHeartbeats 4000000 in
set_option maxRecDepth 100000 in
theorem c_X7_undo (l : Launch) (E : EV) (xo : Nat) (r : Nat) (r2 : Nat) (r3 : Nat) (d : Nat) (y : Nat) (q2 : Nat) (sf : Int32) (rc : Nat) (f : Nat → Int32) (q : Nat) (w : Nat) (o : Nat) (z : Nat) (h : Nat → Int32) (ho : o < 6) (hz : z ≤ 6) : rcI l E yX7_undo cX7_undo 1 .int 5 [.ref xo] [(xo, .inr (4, [.ref r, .ref r2, .ref r3, .ref d, .ref y, .ref q2, .int sf])), (r, .inr (2, [.ref rc])), (rc, .inl (E.2.1, 293, .inl f)), (y, .inr (0, [.ref q, .int (nI o), .int (nI z)])), (q, .inr (3, [.ref w])), (w, .inl (E.2.1, 1758, .inl h))] (unV z) [(xo, .inr (4, [.ref r, .ref r2, .ref r3, .ref d, .ref y, .ref q2, .int sf])), (r, .inr (2, [.ref rc])), (rc, .inl (E.2.1, 293, .inl (unF f h o z))), (y, .inr (0, [.ref q, .int (nI o), .int (nI (z - 1))])), (q, .inr (3, [.ref w])), (w, .inl (E.2.1, 1758, .inl h))] := by
  refine rcI_of (by decide) (Nat.le_of_ble_eq_true rfl) ?_
  intro pg e s m below meth c Q A ls S hP hD0 hE hA hl hret
  have hx := S.1
  have hb := S.2.1
  have hown := S.2.2.2.1
  have hts := S.2.2.2.2
  have hK := hE.1
  have hS : va_S A s.heap s.heap [] := va_S.rf
  have hDa : va_Da A [xo, r, rc, y, q, w] := ⟨_, hD0, rfl⟩
  have hl : lv_has ls 1 [(0, .ref xo)] := hl
  refine lv_aload_n hx hb dX7_undo_0 rfl (lv_at hl 0 rfl) ?_
  refine va_get (D := E.1) (ci := 4) (v := .ref y) (C := RX7) (T := TX7) (N := 7) hx hb hts inb_X7 hown hK hP 0 rfl rfl 4 (by decide) (hts _ bw_98) (fun _ h9 => h9) rfl dX7_undo_1 ?_
  refine rwV0 (rest := []) S (c_X1_size l E y q o z) cd_X1_size bw_119 ⟨Nat.le_of_ble_eq_true rfl, Nat.le_of_ble_eq_true rfl⟩ ⟨Nat.zero_le _, Nat.zero_le _⟩ hP (hDa.to rfl) hE hA hS [3] rfl rfl [y] rfl rfl (ci := 0) rfl (q0 := 0) rfl (Nat.le_of_ble_eq_true rfl) hl.1 dX7_undo_4 (fun H locs hP _ hS => ?_)
  have hP : va_P E.1 vwCl [(xo, .inr (4, [.ref r, .ref r2, .ref r3, .ref d, .ref y, .ref q2, .int sf])), (r, .inr (2, [.ref rc])), (rc, .inl (E.2.1, 293, .inl f)), (y, .inr (0, [.ref q, .int (nI o), .int (nI z)])), (q, .inr (3, [.ref w])), (w, .inl (E.2.1, 1758, .inl h))] H := hP
  refine rn_if_ne (a := z) (tgt := 13) hx hb (by omega) dX7_undo_7 (by decide) (fun c_1 => ?_) (fun c_1 => ?_)
  · refine lv_aload_n hx hb dX7_undo_13 rfl (lv_at hl 0 rfl) ?_
    refine va_get (D := E.1) (ci := 4) (v := .ref y) (C := RX7) (T := TX7) (N := 7) hx hb hts inb_X7 hown hK hP 0 rfl rfl 4 (by decide) (hts _ bw_98) (fun _ h9 => h9) rfl dX7_undo_14 ?_
    refine lv_aload_n hx hb dX7_undo_17 rfl (lv_at hl 0 rfl) ?_
    refine va_get (D := E.1) (ci := 4) (v := .ref r) (C := RX7) (T := TX7) (N := 7) hx hb hts inb_X7 hown hK hP 0 rfl rfl 0 (by decide) (hts _ bw_94) (fun _ h9 => h9) rfl dX7_undo_18 ?_
    refine rwVv1 (rest := []) S (c_X1_takeBack l E y q w r rc o z f h ho hz (by omega)) cd_X1_takeBack bw_123 ⟨Nat.le_of_ble_eq_true rfl, Nat.le_of_ble_eq_true rfl⟩ ⟨Nat.zero_le _, Nat.zero_le _⟩ hP (hDa.to rfl) hE hA hS [3, 4, 5, 1, 2] rfl rfl [y, q, w, r, rc] rfl rfl (ci := 0) rfl (q0 := 0) rfl (Nat.le_of_ble_eq_true rfl) hl.1 dX7_undo_21 (fun H locs hP _ hS => ?_)
    have hP : va_P E.1 vwCl [(xo, .inr (4, [.ref r, .ref r2, .ref r3, .ref d, .ref y, .ref q2, .int sf])), (r, .inr (2, [.ref rc])), (rc, .inl (E.2.1, 293, .inl (va_cpy h f ((o + (z - 1)) % 6 * 293) 0 293))), (y, .inr (0, [.ref q, .int (nI o), .int (nI (z - 1))])), (q, .inr (3, [.ref w])), (w, .inl (E.2.1, 1758, .inl h))] H := hP
    refine lv_aload_n hx hb dX7_undo_24 rfl (lv_at hl 0 rfl) ?_
    refine va_get (D := E.1) (ci := 4) (v := .ref y) (C := RX7) (T := TX7) (N := 7) hx hb hts inb_X7 hown hK hP 0 rfl rfl 4 (by decide) (hts _ bw_98) (fun _ h9 => h9) rfl dX7_undo_25 ?_
    refine rwV0 (rest := []) S (c_X1_size l E y q o (z - 1)) cd_X1_size bw_119 ⟨Nat.le_of_ble_eq_true rfl, Nat.le_of_ble_eq_true rfl⟩ ⟨Nat.zero_le _, Nat.zero_le _⟩ hP (hDa.to rfl) hE hA hS [3] rfl rfl [y] rfl rfl (ci := 0) rfl (q0 := 0) rfl (Nat.le_of_ble_eq_true rfl) hl.1 dX7_undo_28 (fun H locs hP _ hS => ?_)
    have hP : va_P E.1 vwCl [(xo, .inr (4, [.ref r, .ref r2, .ref r3, .ref d, .ref y, .ref q2, .int sf])), (r, .inr (2, [.ref rc])), (rc, .inl (E.2.1, 293, .inl (va_cpy h f ((o + (z - 1)) % 6 * 293) 0 293))), (y, .inr (0, [.ref q, .int (nI o), .int (nI (z - 1))])), (q, .inr (3, [.ref w])), (w, .inl (E.2.1, 1758, .inl h))] H := hP
    exact hret _ _ _ _ _ _ (by rw [unV, if_neg c_1]) (by rw [unF, if_neg c_1]) rfl hP hS dX7_undo_31
  · refine lv_bipush (v := (-5)) hx hb dX7_undo_10 (by decide) ?_
    exact hret _ _ _ _ _ _ (by rw [unV, if_pos c_1]) (by rw [unF, if_pos c_1, show z - 1 = z by omega]) rfl hP hS dX7_undo_12

