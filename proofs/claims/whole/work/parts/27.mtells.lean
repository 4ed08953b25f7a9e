/-! the reference: what there is, what would be -/
theorem cd_X8_of : cdV RX8 yX8_of cX8_of 3 (some .int) 2 := ⟨⟨bw_967, bw_65, by decide, by decide, by decide +kernel⟩, bw_965, bw_966⟩
def mOf (g : Nat → Int32) (n : Nat) (x : Int32) (a2 : Int32) : Int32 := if mIs g x = 0 then (-1) else if a2 = nI 0 then g (13 + 14 * (ix x) + 0) else if a2 = nI 1 then mFt g (ix x) else if a2 = nI 2 then g (13 + 14 * (ix x) + 10) else if a2 = nI 3 then if mBa g (ix x) = 0 then nI 0 else nI 1 else if a2 = nI 4 then if mJu g n (ix x) = 0 then nI 0 else nI 1 else (-2)
set_option maxHeartbeats 4000000 in
set_option maxRecDepth 100000 in
theorem c_X8_of (l : Launch) (E : EV) (xo : Nat) (st : Nat) (sp : Nat) (th : Nat) (so : Nat) (sv : Nat) (pd : Nat) (nu : Nat) (sn : Nat) (ln : Nat) (ta : Nat) (sg : Int32) (g : Nat → Int32) (n : Nat) (x : Int32) (a2 : Int32) (hf : g 4 = nI n) (hn : n ≤ 20) : rcI l E yX8_of cX8_of 3 .int 4 [.ref xo, .int x, .int a2] [(xo, .inr (5, [.ref st, .ref sp, .ref th, .int (nI sn), .ref so, .ref sv, .ref pd, .int (nI ln), .int (nI ta), .int sg, .ref nu])), (st, .inl (E.2.1, 293, .inl g))] (mOf g n x a2) [(xo, .inr (5, [.ref st, .ref sp, .ref th, .int (nI sn), .ref so, .ref sv, .ref pd, .int (nI ln), .int (nI ta), .int sg, .ref nu])), (st, .inl (E.2.1, 293, .inl g))] := by
  refine rcI_of (by decide) (Nat.le_of_ble_eq_true rfl) ?_
  intro pg e s m below meth c Q A ls S hP hD0 hE hA hl hret
  have hx := S.1
  have hb := S.2.1
  have hown := S.2.2.2.1
  have hts := S.2.2.2.2
  have hK := hE.1
  have hS : va_S A s.heap s.heap [] := va_S.rf
  have hDa : va_Da A [xo, st] := ⟨_, hD0, rfl⟩
  have hl : lv_has ls 3 [(0, .ref xo), (1, .int x), (2, .int a2)] := hl
  refine lv_aload_n hx hb dX8_of_0 rfl (lv_at hl 0 rfl) ?_
  refine lv_iload_n hx hb dX8_of_1 rfl (lv_at hl 1 rfl) ?_
  refine rwV1 (rest := []) S (c_X8_isShot l E xo st sp th so sv pd nu sn ln ta sg g x) cd_X8_isShot bw_808 ⟨Nat.le_of_ble_eq_true rfl, Nat.le_of_ble_eq_true rfl⟩ ⟨Nat.zero_le _, Nat.zero_le _⟩ hP (hDa.to rfl) hE hA hS [0, 1] rfl rfl [xo, st] rfl rfl (ci := 5) rfl (q0 := 0) rfl (Nat.le_of_ble_eq_true rfl) hl.1 dX8_of_2 (fun H locs hP _ hS => ?_)
  have hP : va_P E.1 vwCl [(xo, .inr (5, [.ref st, .ref sp, .ref th, .int (nI sn), .ref so, .ref sv, .ref pd, .int (nI ln), .int (nI ta), .int sg, .ref nu])), (st, .inl (E.2.1, 293, .inl g))] H := hP
  refine lv_if_ne (tgt := 10) hx hb dX8_of_5 (by decide) (fun c_1 => ?_) (fun c_1 => ?_)
  · obtain ⟨p, h9_p, rfl⟩ : ∃ p : Nat, p < n ∧ x = nI p := (mIs_of hf hn c_1)
    refine lv_iload_n hx hb dX8_of_10 rfl (lv_at hl 2 rfl) ?_
    by_cases c_2 : a2 = nI 0
    · refine lv_tableIn (tgt := 44) hx hb dX8_of_11 (by rw [c_2]; decide) (by rw [c_2]; decide) (by rw [c_2]; rfl) (by decide) ?_
      refine lv_aload_n hx hb dX8_of_44 rfl (lv_at hl 0 rfl) ?_
      refine lv_iload_n hx hb dX8_of_45 rfl (lv_at hl 1 rfl) ?_
      refine lv_iconst (v := nI 0) hx hb dX8_of_46 (by decide) ?_
      refine rwV2 (rest := []) S (c_X8_of14 l E xo st sp th so sv pd nu sn ln ta sg g p 0 (by omega) (by omega)) cd_X8_of14 bw_827 ⟨Nat.le_of_ble_eq_true rfl, Nat.le_of_ble_eq_true rfl⟩ ⟨Nat.zero_le _, Nat.zero_le _⟩ hP (hDa.to rfl) hE hA hS [0, 1] rfl rfl [xo, st] rfl rfl (ci := 5) rfl (q0 := 0) rfl (Nat.le_of_ble_eq_true rfl) hl.1 dX8_of_47 (fun H locs hP _ hS => ?_)
      have hP : va_P E.1 vwCl [(xo, .inr (5, [.ref st, .ref sp, .ref th, .int (nI sn), .ref so, .ref sv, .ref pd, .int (nI ln), .int (nI ta), .int sg, .ref nu])), (st, .inl (E.2.1, 293, .inl g))] H := hP
      exact hret _ _ _ _ _ _ (by first | rw [mOf, ix_nI (show p < 2 ^ 31 by omega), if_neg c_1, if_pos c_2] | rw [mOf, if_neg c_1, if_pos c_2] | simp only [mOf, ix_nI (show p < 2 ^ 31 by omega), if_neg c_1, if_pos c_2]) rfl rfl hP hS dX8_of_50
    by_cases c_3 : a2 = nI 1
    · refine lv_tableIn (tgt := 51) hx hb dX8_of_11 (by rw [c_3]; decide) (by rw [c_3]; decide) (by rw [c_3]; rfl) (by decide) ?_
      refine lv_aload_n hx hb dX8_of_51 rfl (lv_at hl 0 rfl) ?_
      refine lv_iload_n hx hb dX8_of_52 rfl (lv_at hl 1 rfl) ?_
      refine rwV1 (rest := []) S (c_X8_feetTo l E xo st sp th so sv pd nu sn ln ta sg g p (by omega)) cd_X8_feetTo bw_890 ⟨Nat.le_of_ble_eq_true rfl, Nat.le_of_ble_eq_true rfl⟩ ⟨Nat.zero_le _, Nat.zero_le _⟩ hP (hDa.to rfl) hE hA hS [0, 1] rfl rfl [xo, st] rfl rfl (ci := 5) rfl (q0 := 0) rfl (Nat.le_of_ble_eq_true rfl) hl.1 dX8_of_53 (fun H locs hP _ hS => ?_)
      have hP : va_P E.1 vwCl [(xo, .inr (5, [.ref st, .ref sp, .ref th, .int (nI sn), .ref so, .ref sv, .ref pd, .int (nI ln), .int (nI ta), .int sg, .ref nu])), (st, .inl (E.2.1, 293, .inl g))] H := hP
      exact hret _ _ _ _ _ _ (by first | rw [mOf, ix_nI (show p < 2 ^ 31 by omega), if_neg c_1, if_neg c_2, if_pos c_3] | rw [mOf, if_neg c_1, if_neg c_2, if_pos c_3] | simp only [mOf, ix_nI (show p < 2 ^ 31 by omega), if_neg c_1, if_neg c_2, if_pos c_3]) rfl rfl hP hS dX8_of_56
    by_cases c_4 : a2 = nI 2
    · refine lv_tableIn (tgt := 57) hx hb dX8_of_11 (by rw [c_4]; decide) (by rw [c_4]; decide) (by rw [c_4]; rfl) (by decide) ?_
      refine lv_aload_n hx hb dX8_of_57 rfl (lv_at hl 0 rfl) ?_
      refine lv_iload_n hx hb dX8_of_58 rfl (lv_at hl 1 rfl) ?_
      refine lv_bipush (v := nI 10) hx hb dX8_of_59 (by decide) ?_
      refine rwV2 (rest := []) S (c_X8_of14 l E xo st sp th so sv pd nu sn ln ta sg g p 10 (by omega) (by omega)) cd_X8_of14 bw_827 ⟨Nat.le_of_ble_eq_true rfl, Nat.le_of_ble_eq_true rfl⟩ ⟨Nat.zero_le _, Nat.zero_le _⟩ hP (hDa.to rfl) hE hA hS [0, 1] rfl rfl [xo, st] rfl rfl (ci := 5) rfl (q0 := 0) rfl (Nat.le_of_ble_eq_true rfl) hl.1 dX8_of_61 (fun H locs hP _ hS => ?_)
      have hP : va_P E.1 vwCl [(xo, .inr (5, [.ref st, .ref sp, .ref th, .int (nI sn), .ref so, .ref sv, .ref pd, .int (nI ln), .int (nI ta), .int sg, .ref nu])), (st, .inl (E.2.1, 293, .inl g))] H := hP
      exact hret _ _ _ _ _ _ (by first | rw [mOf, ix_nI (show p < 2 ^ 31 by omega), if_neg c_1, if_neg c_2, if_neg c_3, if_pos c_4] | rw [mOf, if_neg c_1, if_neg c_2, if_neg c_3, if_pos c_4] | simp only [mOf, ix_nI (show p < 2 ^ 31 by omega), if_neg c_1, if_neg c_2, if_neg c_3, if_pos c_4]) rfl rfl hP hS dX8_of_64
    by_cases c_5 : a2 = nI 3
    · refine lv_tableIn (tgt := 65) hx hb dX8_of_11 (by rw [c_5]; decide) (by rw [c_5]; decide) (by rw [c_5]; rfl) (by decide) ?_
      refine lv_aload_n hx hb dX8_of_65 rfl (lv_at hl 0 rfl) ?_
      refine lv_iload_n hx hb dX8_of_66 rfl (lv_at hl 1 rfl) ?_
      refine rwV1 (rest := []) S (c_X8_isBad l E xo st sp th so sv pd nu sn ln ta sg g p (by omega)) cd_X8_isBad bw_921 ⟨Nat.le_of_ble_eq_true rfl, Nat.le_of_ble_eq_true rfl⟩ ⟨Nat.zero_le _, Nat.zero_le _⟩ hP (hDa.to rfl) hE hA hS [0, 1] rfl rfl [xo, st] rfl rfl (ci := 5) rfl (q0 := 0) rfl (Nat.le_of_ble_eq_true rfl) hl.1 dX8_of_67 (fun H locs hP _ hS => ?_)
      have hP : va_P E.1 vwCl [(xo, .inr (5, [.ref st, .ref sp, .ref th, .int (nI sn), .ref so, .ref sv, .ref pd, .int (nI ln), .int (nI ta), .int sg, .ref nu])), (st, .inl (E.2.1, 293, .inl g))] H := hP
      refine lv_if_eq (tgt := 77) hx hb dX8_of_70 (by decide) (fun c_6 => ?_) (fun c_6 => ?_)
      · refine lv_iconst (v := nI 0) hx hb dX8_of_77 (by decide) ?_
        exact hret _ _ _ _ _ _ (by first | rw [mOf, ix_nI (show p < 2 ^ 31 by omega), if_neg c_1, if_neg c_2, if_neg c_3, if_neg c_4, if_pos c_5, if_pos c_6] | rw [mOf, if_neg c_1, if_neg c_2, if_neg c_3, if_neg c_4, if_pos c_5, if_pos c_6] | simp only [mOf, ix_nI (show p < 2 ^ 31 by omega), if_neg c_1, if_neg c_2, if_neg c_3, if_neg c_4, if_pos c_5, if_pos c_6]) rfl rfl hP hS dX8_of_78
      · refine lv_iconst (v := nI 1) hx hb dX8_of_73 (by decide) ?_
        refine lv_goto (tgt := 78) hx hb dX8_of_74 (by decide) ?_
        exact hret _ _ _ _ _ _ (by first | rw [mOf, ix_nI (show p < 2 ^ 31 by omega), if_neg c_1, if_neg c_2, if_neg c_3, if_neg c_4, if_pos c_5, if_neg c_6] | rw [mOf, if_neg c_1, if_neg c_2, if_neg c_3, if_neg c_4, if_pos c_5, if_neg c_6] | simp only [mOf, ix_nI (show p < 2 ^ 31 by omega), if_neg c_1, if_neg c_2, if_neg c_3, if_neg c_4, if_pos c_5, if_neg c_6]) rfl rfl hP hS dX8_of_78
    by_cases c_7 : a2 = nI 4
    · refine lv_tableIn (tgt := 79) hx hb dX8_of_11 (by rw [c_7]; decide) (by rw [c_7]; decide) (by rw [c_7]; rfl) (by decide) ?_
      refine lv_aload_n hx hb dX8_of_79 rfl (lv_at hl 0 rfl) ?_
      refine lv_iload_n hx hb dX8_of_80 rfl (lv_at hl 1 rfl) ?_
      refine rwV1 (rest := []) S (c_X8_isJump l E xo st sp th so sv pd nu sn ln ta sg g n p hf hn (by omega)) cd_X8_isJump bw_968 ⟨Nat.le_of_ble_eq_true rfl, Nat.le_of_ble_eq_true rfl⟩ ⟨Nat.zero_le _, Nat.zero_le _⟩ hP (hDa.to rfl) hE hA hS [0, 1] rfl rfl [xo, st] rfl rfl (ci := 5) rfl (q0 := 0) rfl (Nat.le_of_ble_eq_true rfl) hl.1 dX8_of_81 (fun H locs hP _ hS => ?_)
      have hP : va_P E.1 vwCl [(xo, .inr (5, [.ref st, .ref sp, .ref th, .int (nI sn), .ref so, .ref sv, .ref pd, .int (nI ln), .int (nI ta), .int sg, .ref nu])), (st, .inl (E.2.1, 293, .inl g))] H := hP
      refine lv_if_eq (tgt := 91) hx hb dX8_of_84 (by decide) (fun c_8 => ?_) (fun c_8 => ?_)
      · refine lv_iconst (v := nI 0) hx hb dX8_of_91 (by decide) ?_
        exact hret _ _ _ _ _ _ (by first | rw [mOf, ix_nI (show p < 2 ^ 31 by omega), if_neg c_1, if_neg c_2, if_neg c_3, if_neg c_4, if_neg c_5, if_pos c_7, if_pos c_8] | rw [mOf, if_neg c_1, if_neg c_2, if_neg c_3, if_neg c_4, if_neg c_5, if_pos c_7, if_pos c_8] | simp only [mOf, ix_nI (show p < 2 ^ 31 by omega), if_neg c_1, if_neg c_2, if_neg c_3, if_neg c_4, if_neg c_5, if_pos c_7, if_pos c_8]) rfl rfl hP hS dX8_of_92
      · refine lv_iconst (v := nI 1) hx hb dX8_of_87 (by decide) ?_
        refine lv_goto (tgt := 92) hx hb dX8_of_88 (by decide) ?_
        exact hret _ _ _ _ _ _ (by first | rw [mOf, ix_nI (show p < 2 ^ 31 by omega), if_neg c_1, if_neg c_2, if_neg c_3, if_neg c_4, if_neg c_5, if_pos c_7, if_neg c_8] | rw [mOf, if_neg c_1, if_neg c_2, if_neg c_3, if_neg c_4, if_neg c_5, if_pos c_7, if_neg c_8] | simp only [mOf, ix_nI (show p < 2 ^ 31 by omega), if_neg c_1, if_neg c_2, if_neg c_3, if_neg c_4, if_neg c_5, if_pos c_7, if_neg c_8]) rfl rfl hP hS dX8_of_92
    refine lv_tableOut (tgt := 93) hx hb dX8_of_11 (sw_out (lo := 0) (n := 5) ((lt_s (lt_s (lt_s (lt_s (lt_s lt_0 c_2) c_3) c_4) c_5) c_7 : ∀ a, a < 5 → (fun a => ¬ a2 = nI (0 + a)) a))) (by decide) ?_
    refine lv_bipush (v := (-2)) hx hb dX8_of_93 (by decide) ?_
    exact hret _ _ _ _ _ _ (by first | rw [mOf, ix_nI (show p < 2 ^ 31 by omega), if_neg c_1, if_neg c_2, if_neg c_3, if_neg c_4, if_neg c_5, if_neg c_7] | rw [mOf, if_neg c_1, if_neg c_2, if_neg c_3, if_neg c_4, if_neg c_5, if_neg c_7] | simp only [mOf, ix_nI (show p < 2 ^ 31 by omega), if_neg c_1, if_neg c_2, if_neg c_3, if_neg c_4, if_neg c_5, if_neg c_7]) rfl rfl hP hS dX8_of_95
  · refine lv_iconst (v := (-1)) hx hb dX8_of_8 (by decide) ?_
    exact hret _ _ _ _ _ _ (by rw [mOf, if_pos c_1]) rfl rfl hP hS dX8_of_9

theorem cd_X8_answer : cdV RX8 yX8_answer cX8_answer 3 (some .int) 2 := ⟨⟨bw_979, bw_65, by decide, by decide, by decide +kernel⟩, bw_978, bw_42⟩
def mAn (g : Nat → Int32) (p : Nat) (co : Nat) : Int32 := if g (13 + 14 * p + 10) = nI 1 then g (13 + 14 * p + (11 + co)) + (nI 100) else (-6)
set_option maxHeartbeats 4000000 in
set_option maxRecDepth 100000 in
theorem c_X8_answer (l : Launch) (E : EV) (xo : Nat) (st : Nat) (sp : Nat) (th : Nat) (so : Nat) (sv : Nat) (pd : Nat) (nu : Nat) (sn : Nat) (ln : Nat) (ta : Nat) (sg : Int32) (g : Nat → Int32) (p : Nat) (co : Nat) (hp : p < 20) (hco : co < 3) : rcI l E yX8_answer cX8_answer 3 .int 1 [.ref xo, .int (nI p), .int (nI co)] [(xo, .inr (5, [.ref st, .ref sp, .ref th, .int (nI sn), .ref so, .ref sv, .ref pd, .int (nI ln), .int (nI ta), .int sg, .ref nu])), (st, .inl (E.2.1, 293, .inl g))] (mAn g p co) [(xo, .inr (5, [.ref st, .ref sp, .ref th, .int (nI sn), .ref so, .ref sv, .ref pd, .int (nI ln), .int (nI ta), .int sg, .ref nu])), (st, .inl (E.2.1, 293, .inl g))] := by
  refine rcI_of (by decide) (Nat.le_of_ble_eq_true rfl) ?_
  intro pg e s m below meth c Q A ls S hP hD0 hE hA hl hret
  have hx := S.1
  have hb := S.2.1
  have hown := S.2.2.2.1
  have hts := S.2.2.2.2
  have hK := hE.1
  have hS : va_S A s.heap s.heap [] := va_S.rf
  have hDa : va_Da A [xo, st] := ⟨_, hD0, rfl⟩
  have hl : lv_has ls 3 [(0, .ref xo), (1, .int (nI p)), (2, .int (nI co))] := hl
  refine lv_aload_n hx hb dX8_answer_0 rfl (lv_at hl 0 rfl) ?_
  refine lv_iload_n hx hb dX8_answer_1 rfl (lv_at hl 1 rfl) ?_
  refine lv_bipush (v := nI 10) hx hb dX8_answer_2 (by decide) ?_
  refine rwV2 (rest := []) S (c_X8_of14 l E xo st sp th so sv pd nu sn ln ta sg g p 10 hp (by omega)) cd_X8_of14 bw_827 ⟨Nat.le_of_ble_eq_true rfl, Nat.le_of_ble_eq_true rfl⟩ ⟨Nat.zero_le _, Nat.zero_le _⟩ hP (hDa.to rfl) hE hA hS [0, 1] rfl rfl [xo, st] rfl rfl (ci := 5) rfl (q0 := 0) rfl (Nat.le_of_ble_eq_true rfl) hl.1 dX8_answer_4 (fun H locs hP _ hS => ?_)
  have hP : va_P E.1 vwCl [(xo, .inr (5, [.ref st, .ref sp, .ref th, .int (nI sn), .ref so, .ref sv, .ref pd, .int (nI ln), .int (nI ta), .int sg, .ref nu])), (st, .inl (E.2.1, 293, .inl g))] H := hP
  refine lv_iconst (v := nI 1) hx hb dX8_answer_7 (by decide) ?_
  refine lv_icmp_ne (tgt := 26) hx hb dX8_answer_8 (by decide) (fun c_1 => ?_) (fun c_1 => ?_)
  · refine lv_bipush (v := (-6)) hx hb dX8_answer_26 (by decide) ?_
    exact hret _ _ _ _ _ _ (by rw [mAn, if_neg c_1]) rfl rfl hP hS dX8_answer_28
  · refine lv_aload_n hx hb dX8_answer_11 rfl (lv_at hl 0 rfl) ?_
    refine lv_iload_n hx hb dX8_answer_12 rfl (lv_at hl 1 rfl) ?_
    refine lv_bipush (v := nI 11) hx hb dX8_answer_13 (by decide) ?_
    refine lv_iload_n hx hb dX8_answer_15 rfl (lv_at hl 2 rfl) ?_
    refine rn_add (a := 11) (b := co) hx hb dX8_answer_16 ?_
    refine rwV2 (rest := []) S (c_X8_of14 l E xo st sp th so sv pd nu sn ln ta sg g p (11 + co) hp (by omega)) cd_X8_of14 bw_827 ⟨Nat.le_of_ble_eq_true rfl, Nat.le_of_ble_eq_true rfl⟩ ⟨Nat.zero_le _, Nat.zero_le _⟩ hP (hDa.to rfl) hE hA hS [0, 1] rfl rfl [xo, st] rfl rfl (ci := 5) rfl (q0 := 0) rfl (Nat.le_of_ble_eq_true rfl) hl.1 dX8_answer_17 (fun H locs hP _ hS => ?_)
    have hP : va_P E.1 vwCl [(xo, .inr (5, [.ref st, .ref sp, .ref th, .int (nI sn), .ref so, .ref sv, .ref pd, .int (nI ln), .int (nI ta), .int sg, .ref nu])), (st, .inl (E.2.1, 293, .inl g))] H := hP
    refine lv_bipush (v := nI 100) hx hb dX8_answer_20 (by decide) ?_
    refine lv_iadd hx hb dX8_answer_22 ?_
    refine lv_goto (tgt := 28) hx hb dX8_answer_23 (by decide) ?_
    exact hret _ _ _ _ _ _ (by rw [mAn, if_pos c_1]) rfl rfl hP hS dX8_answer_28

theorem cd_X8_inColour : cdV RX8 yX8_inColour cX8_inColour 4 (some .int) 3 := ⟨⟨bw_975, bw_65, by decide, by decide, by decide +kernel⟩, bw_973, bw_974⟩
def mIn (g : Nat → Int32) (n : Nat) (x : Int32) (y : Int32) (a3 : Int32) : Int32 := if mIs g x = 0 then (-1) else if mIc y = 0 then (-2) else if a3 = nI 0 then g (13 + 14 * (ix x) + (1 + (ix y))) else if a3 = nI 1 then g (13 + 14 * (ix x) + (4 + (ix y))) + (nI 10) else if a3 = nI 2 then g (13 + 14 * (ix x) + (7 + (ix y))) else if a3 = nI 3 then mPn g (ix x) (ix y) else if a3 = nI 4 then mOn g (ix x) (ix y) + (nI 100) else if a3 = nI 5 then mAn g (ix x) (ix y) else (-2)
set_option maxHeartbeats 4000000 in
set_option maxRecDepth 100000 in
theorem c_X8_inColour (l : Launch) (E : EV) (xo : Nat) (st : Nat) (sp : Nat) (th : Nat) (so : Nat) (sv : Nat) (pd : Nat) (nu : Nat) (sn : Nat) (ln : Nat) (ta : Nat) (sg : Int32) (g : Nat → Int32) (n : Nat) (x : Int32) (y : Int32) (a3 : Int32) (hf : g 4 = nI n) (hn : n ≤ 20) : rcI l E yX8_inColour cX8_inColour 4 .int 4 [.ref xo, .int x, .int y, .int a3] [(xo, .inr (5, [.ref st, .ref sp, .ref th, .int (nI sn), .ref so, .ref sv, .ref pd, .int (nI ln), .int (nI ta), .int sg, .ref nu])), (st, .inl (E.2.1, 293, .inl g))] (mIn g n x y a3) [(xo, .inr (5, [.ref st, .ref sp, .ref th, .int (nI sn), .ref so, .ref sv, .ref pd, .int (nI ln), .int (nI ta), .int sg, .ref nu])), (st, .inl (E.2.1, 293, .inl g))] := by
  refine rcI_of (by decide) (Nat.le_of_ble_eq_true rfl) ?_
  intro pg e s m below meth c Q A ls S hP hD0 hE hA hl hret
  have hx := S.1
  have hb := S.2.1
  have hown := S.2.2.2.1
  have hts := S.2.2.2.2
  have hK := hE.1
  have hS : va_S A s.heap s.heap [] := va_S.rf
  have hDa : va_Da A [xo, st] := ⟨_, hD0, rfl⟩
  have hl : lv_has ls 4 [(0, .ref xo), (1, .int x), (2, .int y), (3, .int a3)] := hl
  refine lv_aload_n hx hb dX8_inColour_0 rfl (lv_at hl 0 rfl) ?_
  refine lv_iload_n hx hb dX8_inColour_1 rfl (lv_at hl 1 rfl) ?_
  refine rwV1 (rest := []) S (c_X8_isShot l E xo st sp th so sv pd nu sn ln ta sg g x) cd_X8_isShot bw_808 ⟨Nat.le_of_ble_eq_true rfl, Nat.le_of_ble_eq_true rfl⟩ ⟨Nat.zero_le _, Nat.zero_le _⟩ hP (hDa.to rfl) hE hA hS [0, 1] rfl rfl [xo, st] rfl rfl (ci := 5) rfl (q0 := 0) rfl (Nat.le_of_ble_eq_true rfl) hl.1 dX8_inColour_2 (fun H locs hP _ hS => ?_)
  have hP : va_P E.1 vwCl [(xo, .inr (5, [.ref st, .ref sp, .ref th, .int (nI sn), .ref so, .ref sv, .ref pd, .int (nI ln), .int (nI ta), .int sg, .ref nu])), (st, .inl (E.2.1, 293, .inl g))] H := hP
  refine lv_if_ne (tgt := 10) hx hb dX8_inColour_5 (by decide) (fun c_1 => ?_) (fun c_1 => ?_)
  · obtain ⟨p, h9_p, rfl⟩ : ∃ p : Nat, p < n ∧ x = nI p := (mIs_of hf hn c_1)
    refine lv_iload_n hx hb dX8_inColour_10 rfl (lv_at hl 2 rfl) ?_
    refine rwS1 (rest := []) S (c_X8_isColour l E y) cd_X8_isColour bw_824 ⟨Nat.le_of_ble_eq_true rfl, Nat.le_of_ble_eq_true rfl⟩ ⟨Nat.zero_le _, Nat.zero_le _⟩ hP (hDa.to rfl) hE hA hS [] rfl rfl [] rfl rfl (Nat.le_of_ble_eq_true rfl) hl.1 dX8_inColour_11 (fun H locs hP _ hS => ?_)
    have hP : va_P E.1 vwCl [(xo, .inr (5, [.ref st, .ref sp, .ref th, .int (nI sn), .ref so, .ref sv, .ref pd, .int (nI ln), .int (nI ta), .int sg, .ref nu])), (st, .inl (E.2.1, 293, .inl g))] H := hP
    refine lv_if_ne (tgt := 20) hx hb dX8_inColour_14 (by decide) (fun c_2 => ?_) (fun c_2 => ?_)
    · obtain ⟨co, h9_co, rfl⟩ : ∃ co : Nat, co < 3 ∧ y = nI co := (mIc_of c_2)
      refine lv_iload_n hx hb dX8_inColour_20 rfl (lv_at hl 3 rfl) ?_
      by_cases c_3 : a3 = nI 0
      · refine lv_tableIn (tgt := 60) hx hb dX8_inColour_21 (by rw [c_3]; decide) (by rw [c_3]; decide) (by rw [c_3]; rfl) (by decide) ?_
        refine lv_aload_n hx hb dX8_inColour_60 rfl (lv_at hl 0 rfl) ?_
        refine lv_iload_n hx hb dX8_inColour_61 rfl (lv_at hl 1 rfl) ?_
        refine lv_iconst (v := nI 1) hx hb dX8_inColour_62 (by decide) ?_
        refine lv_iload_n hx hb dX8_inColour_63 rfl (lv_at hl 2 rfl) ?_
        refine rn_add (a := 1) (b := co) hx hb dX8_inColour_64 ?_
        refine rwV2 (rest := []) S (c_X8_of14 l E xo st sp th so sv pd nu sn ln ta sg g p (1 + co) (by omega) (by omega)) cd_X8_of14 bw_827 ⟨Nat.le_of_ble_eq_true rfl, Nat.le_of_ble_eq_true rfl⟩ ⟨Nat.zero_le _, Nat.zero_le _⟩ hP (hDa.to rfl) hE hA hS [0, 1] rfl rfl [xo, st] rfl rfl (ci := 5) rfl (q0 := 0) rfl (Nat.le_of_ble_eq_true rfl) hl.1 dX8_inColour_65 (fun H locs hP _ hS => ?_)
        have hP : va_P E.1 vwCl [(xo, .inr (5, [.ref st, .ref sp, .ref th, .int (nI sn), .ref so, .ref sv, .ref pd, .int (nI ln), .int (nI ta), .int sg, .ref nu])), (st, .inl (E.2.1, 293, .inl g))] H := hP
        exact hret _ _ _ _ _ _ (by first | rw [mIn, ix_nI (show p < 2 ^ 31 by omega), ix_nI (show co < 2 ^ 31 by omega), if_neg c_1, if_neg c_2, if_pos c_3] | rw [mIn, if_neg c_1, if_neg c_2, if_pos c_3] | simp only [mIn, ix_nI (show p < 2 ^ 31 by omega), ix_nI (show co < 2 ^ 31 by omega), if_neg c_1, if_neg c_2, if_pos c_3]) rfl rfl hP hS dX8_inColour_68
      by_cases c_4 : a3 = nI 1
      · refine lv_tableIn (tgt := 69) hx hb dX8_inColour_21 (by rw [c_4]; decide) (by rw [c_4]; decide) (by rw [c_4]; rfl) (by decide) ?_
        refine lv_aload_n hx hb dX8_inColour_69 rfl (lv_at hl 0 rfl) ?_
        refine lv_iload_n hx hb dX8_inColour_70 rfl (lv_at hl 1 rfl) ?_
        refine lv_iconst (v := nI 4) hx hb dX8_inColour_71 (by decide) ?_
        refine lv_iload_n hx hb dX8_inColour_72 rfl (lv_at hl 2 rfl) ?_
        refine rn_add (a := 4) (b := co) hx hb dX8_inColour_73 ?_
        refine rwV2 (rest := []) S (c_X8_of14 l E xo st sp th so sv pd nu sn ln ta sg g p (4 + co) (by omega) (by omega)) cd_X8_of14 bw_827 ⟨Nat.le_of_ble_eq_true rfl, Nat.le_of_ble_eq_true rfl⟩ ⟨Nat.zero_le _, Nat.zero_le _⟩ hP (hDa.to rfl) hE hA hS [0, 1] rfl rfl [xo, st] rfl rfl (ci := 5) rfl (q0 := 0) rfl (Nat.le_of_ble_eq_true rfl) hl.1 dX8_inColour_74 (fun H locs hP _ hS => ?_)
        have hP : va_P E.1 vwCl [(xo, .inr (5, [.ref st, .ref sp, .ref th, .int (nI sn), .ref so, .ref sv, .ref pd, .int (nI ln), .int (nI ta), .int sg, .ref nu])), (st, .inl (E.2.1, 293, .inl g))] H := hP
        refine lv_bipush (v := nI 10) hx hb dX8_inColour_77 (by decide) ?_
        refine lv_iadd hx hb dX8_inColour_79 ?_
        exact hret _ _ _ _ _ _ (by first | rw [mIn, ix_nI (show p < 2 ^ 31 by omega), ix_nI (show co < 2 ^ 31 by omega), if_neg c_1, if_neg c_2, if_neg c_3, if_pos c_4] | rw [mIn, if_neg c_1, if_neg c_2, if_neg c_3, if_pos c_4] | simp only [mIn, ix_nI (show p < 2 ^ 31 by omega), ix_nI (show co < 2 ^ 31 by omega), if_neg c_1, if_neg c_2, if_neg c_3, if_pos c_4]) rfl rfl hP hS dX8_inColour_80
      by_cases c_5 : a3 = nI 2
      · refine lv_tableIn (tgt := 81) hx hb dX8_inColour_21 (by rw [c_5]; decide) (by rw [c_5]; decide) (by rw [c_5]; rfl) (by decide) ?_
        refine lv_aload_n hx hb dX8_inColour_81 rfl (lv_at hl 0 rfl) ?_
        refine lv_iload_n hx hb dX8_inColour_82 rfl (lv_at hl 1 rfl) ?_
        refine lv_bipush (v := nI 7) hx hb dX8_inColour_83 (by decide) ?_
        refine lv_iload_n hx hb dX8_inColour_85 rfl (lv_at hl 2 rfl) ?_
        refine rn_add (a := 7) (b := co) hx hb dX8_inColour_86 ?_
        refine rwV2 (rest := []) S (c_X8_of14 l E xo st sp th so sv pd nu sn ln ta sg g p (7 + co) (by omega) (by omega)) cd_X8_of14 bw_827 ⟨Nat.le_of_ble_eq_true rfl, Nat.le_of_ble_eq_true rfl⟩ ⟨Nat.zero_le _, Nat.zero_le _⟩ hP (hDa.to rfl) hE hA hS [0, 1] rfl rfl [xo, st] rfl rfl (ci := 5) rfl (q0 := 0) rfl (Nat.le_of_ble_eq_true rfl) hl.1 dX8_inColour_87 (fun H locs hP _ hS => ?_)
        have hP : va_P E.1 vwCl [(xo, .inr (5, [.ref st, .ref sp, .ref th, .int (nI sn), .ref so, .ref sv, .ref pd, .int (nI ln), .int (nI ta), .int sg, .ref nu])), (st, .inl (E.2.1, 293, .inl g))] H := hP
        exact hret _ _ _ _ _ _ (by first | rw [mIn, ix_nI (show p < 2 ^ 31 by omega), ix_nI (show co < 2 ^ 31 by omega), if_neg c_1, if_neg c_2, if_neg c_3, if_neg c_4, if_pos c_5] | rw [mIn, if_neg c_1, if_neg c_2, if_neg c_3, if_neg c_4, if_pos c_5] | simp only [mIn, ix_nI (show p < 2 ^ 31 by omega), ix_nI (show co < 2 ^ 31 by omega), if_neg c_1, if_neg c_2, if_neg c_3, if_neg c_4, if_pos c_5]) rfl rfl hP hS dX8_inColour_90
      by_cases c_6 : a3 = nI 3
      · refine lv_tableIn (tgt := 91) hx hb dX8_inColour_21 (by rw [c_6]; decide) (by rw [c_6]; decide) (by rw [c_6]; rfl) (by decide) ?_
        refine lv_aload_n hx hb dX8_inColour_91 rfl (lv_at hl 0 rfl) ?_
        refine lv_iload_n hx hb dX8_inColour_92 rfl (lv_at hl 1 rfl) ?_
        refine lv_iload_n hx hb dX8_inColour_93 rfl (lv_at hl 2 rfl) ?_
        refine rwV2 (rest := []) S (c_X8_prints l E xo st sp th so sv pd nu sn ln ta sg g p co (by omega) (by omega)) cd_X8_prints bw_902 ⟨Nat.le_of_ble_eq_true rfl, Nat.le_of_ble_eq_true rfl⟩ ⟨Nat.zero_le _, Nat.zero_le _⟩ hP (hDa.to rfl) hE hA hS [0, 1] rfl rfl [xo, st] rfl rfl (ci := 5) rfl (q0 := 0) rfl (Nat.le_of_ble_eq_true rfl) hl.1 dX8_inColour_94 (fun H locs hP _ hS => ?_)
        have hP : va_P E.1 vwCl [(xo, .inr (5, [.ref st, .ref sp, .ref th, .int (nI sn), .ref so, .ref sv, .ref pd, .int (nI ln), .int (nI ta), .int sg, .ref nu])), (st, .inl (E.2.1, 293, .inl g))] H := hP
        exact hret _ _ _ _ _ _ (by first | rw [mIn, ix_nI (show p < 2 ^ 31 by omega), ix_nI (show co < 2 ^ 31 by omega), if_neg c_1, if_neg c_2, if_neg c_3, if_neg c_4, if_neg c_5, if_pos c_6] | rw [mIn, if_neg c_1, if_neg c_2, if_neg c_3, if_neg c_4, if_neg c_5, if_pos c_6] | simp only [mIn, ix_nI (show p < 2 ^ 31 by omega), ix_nI (show co < 2 ^ 31 by omega), if_neg c_1, if_neg c_2, if_neg c_3, if_neg c_4, if_neg c_5, if_pos c_6]) rfl rfl hP hS dX8_inColour_97
      by_cases c_7 : a3 = nI 4
      · refine lv_tableIn (tgt := 98) hx hb dX8_inColour_21 (by rw [c_7]; decide) (by rw [c_7]; decide) (by rw [c_7]; rfl) (by decide) ?_
        refine lv_aload_n hx hb dX8_inColour_98 rfl (lv_at hl 0 rfl) ?_
        refine lv_iload_n hx hb dX8_inColour_99 rfl (lv_at hl 1 rfl) ?_
        refine lv_iload_n hx hb dX8_inColour_100 rfl (lv_at hl 2 rfl) ?_
        refine rwV2 (rest := []) S (c_X8_off l E xo st sp th so sv pd nu sn ln ta sg g p co (by omega) (by omega)) cd_X8_off bw_898 ⟨Nat.le_of_ble_eq_true rfl, Nat.le_of_ble_eq_true rfl⟩ ⟨Nat.zero_le _, Nat.zero_le _⟩ hP (hDa.to rfl) hE hA hS [0, 1] rfl rfl [xo, st] rfl rfl (ci := 5) rfl (q0 := 0) rfl (Nat.le_of_ble_eq_true rfl) hl.1 dX8_inColour_101 (fun H locs hP _ hS => ?_)
        have hP : va_P E.1 vwCl [(xo, .inr (5, [.ref st, .ref sp, .ref th, .int (nI sn), .ref so, .ref sv, .ref pd, .int (nI ln), .int (nI ta), .int sg, .ref nu])), (st, .inl (E.2.1, 293, .inl g))] H := hP
        refine lv_bipush (v := nI 100) hx hb dX8_inColour_104 (by decide) ?_
        refine lv_iadd hx hb dX8_inColour_106 ?_
        exact hret _ _ _ _ _ _ (by first | rw [mIn, ix_nI (show p < 2 ^ 31 by omega), ix_nI (show co < 2 ^ 31 by omega), if_neg c_1, if_neg c_2, if_neg c_3, if_neg c_4, if_neg c_5, if_neg c_6, if_pos c_7] | rw [mIn, if_neg c_1, if_neg c_2, if_neg c_3, if_neg c_4, if_neg c_5, if_neg c_6, if_pos c_7] | simp only [mIn, ix_nI (show p < 2 ^ 31 by omega), ix_nI (show co < 2 ^ 31 by omega), if_neg c_1, if_neg c_2, if_neg c_3, if_neg c_4, if_neg c_5, if_neg c_6, if_pos c_7]) rfl rfl hP hS dX8_inColour_107
      by_cases c_8 : a3 = nI 5
      · refine lv_tableIn (tgt := 108) hx hb dX8_inColour_21 (by rw [c_8]; decide) (by rw [c_8]; decide) (by rw [c_8]; rfl) (by decide) ?_
        refine lv_aload_n hx hb dX8_inColour_108 rfl (lv_at hl 0 rfl) ?_
        refine lv_iload_n hx hb dX8_inColour_109 rfl (lv_at hl 1 rfl) ?_
        refine lv_iload_n hx hb dX8_inColour_110 rfl (lv_at hl 2 rfl) ?_
        refine rwV2 (rest := []) S (c_X8_answer l E xo st sp th so sv pd nu sn ln ta sg g p co (by omega) (by omega)) cd_X8_answer bw_976 ⟨Nat.le_of_ble_eq_true rfl, Nat.le_of_ble_eq_true rfl⟩ ⟨Nat.zero_le _, Nat.zero_le _⟩ hP (hDa.to rfl) hE hA hS [0, 1] rfl rfl [xo, st] rfl rfl (ci := 5) rfl (q0 := 0) rfl (Nat.le_of_ble_eq_true rfl) hl.1 dX8_inColour_111 (fun H locs hP _ hS => ?_)
        have hP : va_P E.1 vwCl [(xo, .inr (5, [.ref st, .ref sp, .ref th, .int (nI sn), .ref so, .ref sv, .ref pd, .int (nI ln), .int (nI ta), .int sg, .ref nu])), (st, .inl (E.2.1, 293, .inl g))] H := hP
        exact hret _ _ _ _ _ _ (by first | rw [mIn, ix_nI (show p < 2 ^ 31 by omega), ix_nI (show co < 2 ^ 31 by omega), if_neg c_1, if_neg c_2, if_neg c_3, if_neg c_4, if_neg c_5, if_neg c_6, if_neg c_7, if_pos c_8] | rw [mIn, if_neg c_1, if_neg c_2, if_neg c_3, if_neg c_4, if_neg c_5, if_neg c_6, if_neg c_7, if_pos c_8] | simp only [mIn, ix_nI (show p < 2 ^ 31 by omega), ix_nI (show co < 2 ^ 31 by omega), if_neg c_1, if_neg c_2, if_neg c_3, if_neg c_4, if_neg c_5, if_neg c_6, if_neg c_7, if_pos c_8]) rfl rfl hP hS dX8_inColour_114
      refine lv_tableOut (tgt := 115) hx hb dX8_inColour_21 (sw_out (lo := 0) (n := 6) ((lt_s (lt_s (lt_s (lt_s (lt_s (lt_s lt_0 c_3) c_4) c_5) c_6) c_7) c_8 : ∀ a, a < 6 → (fun a => ¬ a3 = nI (0 + a)) a))) (by decide) ?_
      refine lv_bipush (v := (-2)) hx hb dX8_inColour_115 (by decide) ?_
      exact hret _ _ _ _ _ _ (by first | rw [mIn, ix_nI (show p < 2 ^ 31 by omega), ix_nI (show co < 2 ^ 31 by omega), if_neg c_1, if_neg c_2, if_neg c_3, if_neg c_4, if_neg c_5, if_neg c_6, if_neg c_7, if_neg c_8] | rw [mIn, if_neg c_1, if_neg c_2, if_neg c_3, if_neg c_4, if_neg c_5, if_neg c_6, if_neg c_7, if_neg c_8] | simp only [mIn, ix_nI (show p < 2 ^ 31 by omega), ix_nI (show co < 2 ^ 31 by omega), if_neg c_1, if_neg c_2, if_neg c_3, if_neg c_4, if_neg c_5, if_neg c_6, if_neg c_7, if_neg c_8]) rfl rfl hP hS dX8_inColour_117
    · refine lv_bipush (v := (-2)) hx hb dX8_inColour_17 (by decide) ?_
      exact hret _ _ _ _ _ _ (by first | rw [mIn, ix_nI (show p < 2 ^ 31 by omega), if_neg c_1, if_pos c_2] | rw [mIn, if_neg c_1, if_pos c_2] | simp only [mIn, ix_nI (show p < 2 ^ 31 by omega), if_neg c_1, if_pos c_2]) rfl rfl hP hS dX8_inColour_19
  · refine lv_iconst (v := (-1)) hx hb dX8_inColour_8 (by decide) ?_
    exact hret _ _ _ _ _ _ (by rw [mIn, if_pos c_1]) rfl rfl hP hS dX8_inColour_9

theorem cd_X8_ofLamp : cdV RX8 yX8_ofLamp cX8_ofLamp 3 (some .int) 2 := ⟨⟨bw_983, bw_65, by decide, by decide, by decide +kernel⟩, bw_981, bw_982⟩
def mLa (g : Nat → Int32) (y : Int32) (a2 : Int32) : Int32 := if mIc y = 0 then (-2) else if mIw a2 (nI 0) (nI 2) = 0 then (-2) else if a2 = 0 then g (7 + (ix y)) else if a2 = nI 1 then mLo g (ix y) else g (10 + (ix y)) + (nI 20)
set_option maxHeartbeats 4000000 in
set_option maxRecDepth 100000 in
theorem c_X8_ofLamp (l : Launch) (E : EV) (xo : Nat) (st : Nat) (sp : Nat) (th : Nat) (so : Nat) (sv : Nat) (pd : Nat) (nu : Nat) (sn : Nat) (ln : Nat) (ta : Nat) (sg : Int32) (g : Nat → Int32) (y : Int32) (a2 : Int32)  : rcI l E yX8_ofLamp cX8_ofLamp 3 .int 4 [.ref xo, .int y, .int a2] [(xo, .inr (5, [.ref st, .ref sp, .ref th, .int (nI sn), .ref so, .ref sv, .ref pd, .int (nI ln), .int (nI ta), .int sg, .ref nu])), (st, .inl (E.2.1, 293, .inl g))] (mLa g y a2) [(xo, .inr (5, [.ref st, .ref sp, .ref th, .int (nI sn), .ref so, .ref sv, .ref pd, .int (nI ln), .int (nI ta), .int sg, .ref nu])), (st, .inl (E.2.1, 293, .inl g))] := by
  refine rcI_of (by decide) (Nat.le_of_ble_eq_true rfl) ?_
  intro pg e s m below meth c Q A ls S hP hD0 hE hA hl hret
  have hx := S.1
  have hb := S.2.1
  have hown := S.2.2.2.1
  have hts := S.2.2.2.2
  have hK := hE.1
  have hS : va_S A s.heap s.heap [] := va_S.rf
  have hDa : va_Da A [xo, st] := ⟨_, hD0, rfl⟩
  have hl : lv_has ls 3 [(0, .ref xo), (1, .int y), (2, .int a2)] := hl
  refine lv_iload_n hx hb dX8_ofLamp_0 rfl (lv_at hl 1 rfl) ?_
  refine rwS1 (rest := []) S (c_X8_isColour l E y) cd_X8_isColour bw_824 ⟨Nat.le_of_ble_eq_true rfl, Nat.le_of_ble_eq_true rfl⟩ ⟨Nat.zero_le _, Nat.zero_le _⟩ hP (hDa.to rfl) hE hA hS [] rfl rfl [] rfl rfl (Nat.le_of_ble_eq_true rfl) hl.1 dX8_ofLamp_1 (fun H locs hP _ hS => ?_)
  have hP : va_P E.1 vwCl [(xo, .inr (5, [.ref st, .ref sp, .ref th, .int (nI sn), .ref so, .ref sv, .ref pd, .int (nI ln), .int (nI ta), .int sg, .ref nu])), (st, .inl (E.2.1, 293, .inl g))] H := hP
  refine lv_if_eq (tgt := 16) hx hb dX8_ofLamp_4 (by decide) (fun c_1 => ?_) (fun c_1 => ?_)
  · refine lv_bipush (v := (-2)) hx hb dX8_ofLamp_16 (by decide) ?_
    exact hret _ _ _ _ _ _ (by rw [mLa, if_pos c_1]) rfl rfl hP hS dX8_ofLamp_18
  · obtain ⟨co, h9_co, rfl⟩ : ∃ co : Nat, co < 3 ∧ y = nI co := (mIc_of c_1)
    refine lv_iload_n hx hb dX8_ofLamp_7 rfl (lv_at hl 2 rfl) ?_
    refine lv_iconst (v := nI 0) hx hb dX8_ofLamp_8 (by decide) ?_
    refine lv_iconst (v := nI 2) hx hb dX8_ofLamp_9 (by decide) ?_
    refine rwS3 (rest := []) S (c_X8_within l E a2 (nI 0) (nI 2)) cd_X8_within bw_755 ⟨Nat.le_of_ble_eq_true rfl, Nat.le_of_ble_eq_true rfl⟩ ⟨Nat.zero_le _, Nat.zero_le _⟩ hP (hDa.to rfl) hE hA hS [] rfl rfl [] rfl rfl (Nat.le_of_ble_eq_true rfl) hl.1 dX8_ofLamp_10 (fun H locs hP _ hS => ?_)
    have hP : va_P E.1 vwCl [(xo, .inr (5, [.ref st, .ref sp, .ref th, .int (nI sn), .ref so, .ref sv, .ref pd, .int (nI ln), .int (nI ta), .int sg, .ref nu])), (st, .inl (E.2.1, 293, .inl g))] H := hP
    refine lv_if_ne (tgt := 19) hx hb dX8_ofLamp_13 (by decide) (fun c_2 => ?_) (fun c_2 => ?_)
    · refine lv_iload_n hx hb dX8_ofLamp_19 rfl (lv_at hl 2 rfl) ?_
      refine lv_if_ne (tgt := 35) hx hb dX8_ofLamp_20 (by decide) (fun c_3 => ?_) (fun c_3 => ?_)
      · refine lv_iload_n hx hb dX8_ofLamp_35 rfl (lv_at hl 2 rfl) ?_
        refine lv_iconst (v := nI 1) hx hb dX8_ofLamp_36 (by decide) ?_
        refine lv_icmp_ne (tgt := 48) hx hb dX8_ofLamp_37 (by decide) (fun c_4 => ?_) (fun c_4 => ?_)
        · refine lv_aload_n hx hb dX8_ofLamp_48 rfl (lv_at hl 0 rfl) ?_
          refine va_get (D := E.1) (ci := 5) (v := .ref st) (C := RX8) (T := TX8) (N := 11) hx hb hts inb_X8 hown hK hP 0 rfl rfl 0 (by decide) (hts _ bw_710) (fun _ h9 => h9) rfl dX8_ofLamp_49 ?_
          refine lv_bipush (v := nI 10) hx hb dX8_ofLamp_52 (by decide) ?_
          refine lv_iload_n hx hb dX8_ofLamp_54 rfl (lv_at hl 1 rfl) ?_
          refine rn_add (a := 10) (b := co) hx hb dX8_ofLamp_55 ?_
          refine rn_iald (i := 10 + co) hx hb hK hP 1 0 rfl rfl (by omega) (by omega) dX8_ofLamp_56 ?_
          refine lv_bipush (v := nI 20) hx hb dX8_ofLamp_57 (by decide) ?_
          refine lv_iadd hx hb dX8_ofLamp_59 ?_
          exact hret _ _ _ _ _ _ (by first | rw [mLa, ix_nI (show co < 2 ^ 31 by omega), if_neg c_1, if_neg c_2, if_neg c_3, if_neg c_4] | rw [mLa, if_neg c_1, if_neg c_2, if_neg c_3, if_neg c_4] | simp only [mLa, ix_nI (show co < 2 ^ 31 by omega), if_neg c_1, if_neg c_2, if_neg c_3, if_neg c_4]) rfl rfl hP hS dX8_ofLamp_60
        · refine lv_aload_n hx hb dX8_ofLamp_40 rfl (lv_at hl 0 rfl) ?_
          refine lv_iload_n hx hb dX8_ofLamp_41 rfl (lv_at hl 1 rfl) ?_
          refine rwV1 (rest := []) S (c_X8_lost l E xo st sp th so sv pd nu sn ln ta sg g co (by omega)) cd_X8_lost bw_910 ⟨Nat.le_of_ble_eq_true rfl, Nat.le_of_ble_eq_true rfl⟩ ⟨Nat.zero_le _, Nat.zero_le _⟩ hP (hDa.to rfl) hE hA hS [0, 1] rfl rfl [xo, st] rfl rfl (ci := 5) rfl (q0 := 0) rfl (Nat.le_of_ble_eq_true rfl) hl.1 dX8_ofLamp_42 (fun H locs hP _ hS => ?_)
          have hP : va_P E.1 vwCl [(xo, .inr (5, [.ref st, .ref sp, .ref th, .int (nI sn), .ref so, .ref sv, .ref pd, .int (nI ln), .int (nI ta), .int sg, .ref nu])), (st, .inl (E.2.1, 293, .inl g))] H := hP
          refine lv_goto (tgt := 60) hx hb dX8_ofLamp_45 (by decide) ?_
          exact hret _ _ _ _ _ _ (by first | rw [mLa, ix_nI (show co < 2 ^ 31 by omega), if_neg c_1, if_neg c_2, if_neg c_3, if_pos c_4] | rw [mLa, if_neg c_1, if_neg c_2, if_neg c_3, if_pos c_4] | simp only [mLa, ix_nI (show co < 2 ^ 31 by omega), if_neg c_1, if_neg c_2, if_neg c_3, if_pos c_4]) rfl rfl hP hS dX8_ofLamp_60
      · refine lv_aload_n hx hb dX8_ofLamp_23 rfl (lv_at hl 0 rfl) ?_
        refine va_get (D := E.1) (ci := 5) (v := .ref st) (C := RX8) (T := TX8) (N := 11) hx hb hts inb_X8 hown hK hP 0 rfl rfl 0 (by decide) (hts _ bw_710) (fun _ h9 => h9) rfl dX8_ofLamp_24 ?_
        refine lv_bipush (v := nI 7) hx hb dX8_ofLamp_27 (by decide) ?_
        refine lv_iload_n hx hb dX8_ofLamp_29 rfl (lv_at hl 1 rfl) ?_
        refine rn_add (a := 7) (b := co) hx hb dX8_ofLamp_30 ?_
        refine rn_iald (i := 7 + co) hx hb hK hP 1 0 rfl rfl (by omega) (by omega) dX8_ofLamp_31 ?_
        refine lv_goto (tgt := 60) hx hb dX8_ofLamp_32 (by decide) ?_
        exact hret _ _ _ _ _ _ (by first | rw [mLa, ix_nI (show co < 2 ^ 31 by omega), if_neg c_1, if_neg c_2, if_pos c_3] | rw [mLa, if_neg c_1, if_neg c_2, if_pos c_3] | simp only [mLa, ix_nI (show co < 2 ^ 31 by omega), if_neg c_1, if_neg c_2, if_pos c_3]) rfl rfl hP hS dX8_ofLamp_60
    · refine lv_bipush (v := (-2)) hx hb dX8_ofLamp_16 (by decide) ?_
      exact hret _ _ _ _ _ _ (by first | rw [mLa, ix_nI (show co < 2 ^ 31 by omega), if_neg c_1, if_pos c_2] | rw [mLa, if_neg c_1, if_pos c_2] | simp only [mLa, ix_nI (show co < 2 ^ 31 by omega), if_neg c_1, if_pos c_2]) rfl rfl hP hS dX8_ofLamp_18

def mSq (P : Nat → Int32) : Nat → Int32
  | 0 => nI 0
  | k + 1 => mSq P k ||| (if P k = 0 then nI 0 else (nI 1 <<< (nI k &&& 31)))
theorem mSq_p {P : Nat → Int32} {k : Nat} (h : P k = 0) : mSq P (k + 1) = mSq P k ||| nI 0 := by rw [mSq, if_pos h]
theorem mSq_n {P : Nat → Int32} {k : Nat} (h : ¬ P k = 0) : mSq P (k + 1) = mSq P k ||| (nI 1 <<< (nI k &&& 31)) := by rw [mSq, if_neg h]
def mHa (g : Nat → Int32) (p : Nat) : Int32 := if g (13 + 14 * p + 10) = nI 1 then nI 1 else nI 0
theorem mHa_p {g : Nat → Int32} {p : Nat} (h : g (13 + 14 * p + 10) = nI 1) : ¬ mHa g p = 0 := by rw [mHa, if_pos h]; decide
theorem mHa_n {g : Nat → Int32} {p : Nat} (h : ¬ g (13 + 14 * p + 10) = nI 1) : mHa g p = 0 := by rw [mHa, if_neg h]; decide
theorem cd_X8_those : cdV RX8 yX8_those cX8_those 5 (some .int) 1 := ⟨⟨bw_991, bw_65, by decide, by decide, by decide +kernel⟩, bw_990, bw_43⟩
set_option maxHeartbeats 4000000 in
set_option maxRecDepth 100000 in
theorem c_X8_those_4 (l : Launch) (E : EV) (xo : Nat) (st : Nat) (sp : Nat) (th : Nat) (so : Nat) (sv : Nat) (pd : Nat) (nu : Nat) (sn : Nat) (ln : Nat) (ta : Nat) (sg : Int32) (g : Nat → Int32) (n : Nat) (hf : g 4 = nI n) (hn : n ≤ 20) : rcI l E yX8_those cX8_those 5 .int 5 [.ref xo, .int (nI 4)] [(xo, .inr (5, [.ref st, .ref sp, .ref th, .int (nI sn), .ref so, .ref sv, .ref pd, .int (nI ln), .int (nI ta), .int sg, .ref nu])), (st, .inl (E.2.1, 293, .inl g))] (mSq (mHa g) n) [(xo, .inr (5, [.ref st, .ref sp, .ref th, .int (nI sn), .ref so, .ref sv, .ref pd, .int (nI ln), .int (nI ta), .int sg, .ref nu])), (st, .inl (E.2.1, 293, .inl g))] := by
  refine rcI_of (by decide) (Nat.le_of_ble_eq_true rfl) ?_
  intro pg e s m below meth c Q A ls S hP hD0 hE hA hl hret
  have hx := S.1
  have hb := S.2.1
  have hown := S.2.2.2.1
  have hts := S.2.2.2.2
  have hK := hE.1
  have hS : va_S A s.heap s.heap [] := va_S.rf
  have hDa : va_Da A [xo, st] := ⟨_, hD0, rfl⟩
  have hl : lv_has ls 5 [(0, .ref xo), (1, .int (nI 4))] := hl
  refine lv_iconst (v := nI 0) hx hb dX8_those_0 (by decide) ?_
  refine lv_istore_n (lv' := [(2, .int (nI 0)), (0, .ref xo), (1, .int (nI 4))]) hx hb dX8_those_1 rfl hl (by decide) rfl (fun ls hl => ?_)
  refine lv_iconst (v := nI 0) hx hb dX8_those_2 (by decide) ?_
  refine lv_istore_n (lv' := [(3, .int (nI 0)), (2, .int (nI 0)), (0, .ref xo), (1, .int (nI 4))]) hx hb dX8_those_3 rfl hl (by decide) rfl (fun ls hl => ?_)
  have loop4 : ∀ (fuel : Nat) (k : Nat), n - k < fuel → (k ≤ n) → ∀ (H : Heap) (locs : List Loc), va_P E.1 vwCl [(xo, .inr (5, [.ref st, .ref sp, .ref th, .int (nI sn), .ref so, .ref sv, .ref pd, .int (nI ln), .int (nI ta), .int sg, .ref nu])), (st, .inl (E.2.1, 293, .inl g))] H → va_S A s.heap H locs → ∀ ls : Array Slot, lv_has ls 5 [(3, .int (nI k)), (2, .int (mSq (mHa g) k)), (0, .ref xo), (1, .int (nI 4))] → W pg l e (rq 5) s m ([.ref xo, .int (nI 4)] : List Value).toArray below meth c H locs 0 0 Q (F0 m 4 ls []) := by
    intro fuel
    induction fuel with
    | zero => intro k h9; exact absurd h9 (Nat.not_lt_zero _)
    | succ fuel ih4 =>
      intro k hfu4 hk H locs hP hS ls hl
      refine lv_iload_n hx hb dX8_those_4 rfl (lv_at hl 0 rfl) ?_
      refine lv_aload_n hx hb dX8_those_5 rfl (lv_at hl 2 rfl) ?_
      refine va_get (D := E.1) (ci := 5) (v := .ref st) (C := RX8) (T := TX8) (N := 11) hx hb hts inb_X8 hown hK hP 0 rfl rfl 0 (by decide) (hts _ bw_710) (fun _ h9 => h9) rfl dX8_those_6 ?_
      refine lv_iconst (v := nI 4) hx hb dX8_those_9 (by decide) ?_
      refine rn_iald (i := 4) hx hb hK hP 1 0 rfl rfl (by omega) (by omega) dX8_those_10 ?_
      refine W.eq (congrArg (fun z => F0 m 11 ls (.int z :: [.int (nI k)])) (show g 4 = nI n from hf)) ?_
      refine rn_icmp_ge (a := k) (b := n) (tgt := 79) hx hb (by omega) (by omega) dX8_those_11 (by decide) (fun c_1 => ?_) (fun c_1 => ?_)
      · have hex : n = k := by omega
        subst hex
        refine lv_iload_n hx hb dX8_those_79 rfl (lv_at hl 1 rfl) ?_
        exact hret _ _ _ _ _ _ rfl rfl rfl hP hS dX8_those_80
      · refine lv_iload_n hx hb dX8_those_14 rfl (lv_at hl 3 rfl) ?_
        refine lv_iconst (v := nI 4) hx hb dX8_those_15 (by decide) ?_
        refine rn_icmp_ne (a := 4) (b := 4) (tgt := 38) hx hb (by omega) (by omega) dX8_those_16 (by decide) (fun c_2 => absurd c_2 (by omega)) (fun c_2 => ?_)
        refine lv_aload_n hx hb dX8_those_19 rfl (lv_at hl 2 rfl) ?_
        refine lv_iload_n hx hb dX8_those_20 rfl (lv_at hl 0 rfl) ?_
        refine lv_bipush (v := nI 10) hx hb dX8_those_21 (by decide) ?_
        refine rwV2 (rest := []) S (c_X8_of14 l E xo st sp th so sv pd nu sn ln ta sg g k 10 (by omega) (by omega)) cd_X8_of14 bw_827 ⟨Nat.le_of_ble_eq_true rfl, Nat.le_of_ble_eq_true rfl⟩ ⟨Nat.zero_le _, Nat.zero_le _⟩ hP (hDa.to rfl) hE hA hS [0, 1] rfl rfl [xo, st] rfl rfl (ci := 5) rfl (q0 := 0) rfl (Nat.le_of_ble_eq_true rfl) hl.1 dX8_those_23 (fun H locs hP _ hS => ?_)
        have hP : va_P E.1 vwCl [(xo, .inr (5, [.ref st, .ref sp, .ref th, .int (nI sn), .ref so, .ref sv, .ref pd, .int (nI ln), .int (nI ta), .int sg, .ref nu])), (st, .inl (E.2.1, 293, .inl g))] H := hP
        refine lv_iconst (v := nI 1) hx hb dX8_those_26 (by decide) ?_
        refine lv_icmp_ne (tgt := 34) hx hb dX8_those_27 (by decide) (fun c_3 => ?_) (fun c_3 => ?_)
        · refine lv_iconst (v := nI 0) hx hb dX8_those_34 (by decide) ?_
          refine lv_goto (tgt := 56) hx hb dX8_those_35 (by decide) ?_
          refine lv_istore (lv' := [(4, .int (nI 0)), (3, .int (nI k)), (2, .int (mSq (mHa g) k)), (0, .ref xo), (1, .int (nI 4))]) hx hb dX8_those_56 hl (by decide) rfl (fun ls hl => ?_)
          refine lv_iload_n hx hb dX8_those_58 rfl (lv_at hl 2 rfl) ?_
          refine lv_iload hx hb dX8_those_59 (lv_at hl 0 rfl) ?_
          refine lv_if_eq (tgt := 70) hx hb dX8_those_61 (by decide) (fun _ => ?_) (fun c9 => by first | exact absurd (by decide) c9 | exact absurd c9 (by decide))
          refine lv_iconst (v := nI 0) hx hb dX8_those_70 (by decide) ?_
          refine lv_ior hx hb dX8_those_71 ?_
          refine lv_istore_n (lv' := [(2, .int ((mSq (mHa g) k) ||| (nI 0))), (4, .int (nI 0)), (3, .int (nI k)), (0, .ref xo), (1, .int (nI 4))]) hx hb dX8_those_72 rfl hl (by decide) rfl (fun ls hl => ?_)
          refine rn_inc (a := k) (d := 1) (lv' := [(3, .int (nI (k + 1))), (2, .int ((mSq (mHa g) k) ||| (nI 0))), (4, .int (nI 0)), (0, .ref xo), (1, .int (nI 4))]) hx hb dX8_those_73 hl (k := 2) rfl (by decide) (by decide) rfl (fun ls hl => ?_)
          refine lv_goto (tgt := 4) hx hb dX8_those_76 (by decide) ?_
          have hl : lv_has ls 5 [(3, .int (nI (k + 1))), (2, .int ((mSq (mHa g) k) ||| (nI 0))), (0, .ref xo), (1, .int (nI 4))] := lv_sub hl [0, 1, 3, 4] rfl
          have hl : lv_has ls 5 [(3, .int (nI (k + 1))), (2, .int (mSq (mHa g) (k + 1))), (0, .ref xo), (1, .int (nI 4))] := by first | (rw [mSq_p (P := mHa g) (mHa_n c_3)]; exact hl) | (rw [mSq_n (P := mHa g) (mHa_p c_3)]; exact hl)
          exact ih4 (k + 1) (by omega) (by omega) _ _ hP hS _ hl
        · refine lv_iconst (v := nI 1) hx hb dX8_those_30 (by decide) ?_
          refine lv_goto (tgt := 56) hx hb dX8_those_31 (by decide) ?_
          refine lv_istore (lv' := [(4, .int (nI 1)), (3, .int (nI k)), (2, .int (mSq (mHa g) k)), (0, .ref xo), (1, .int (nI 4))]) hx hb dX8_those_56 hl (by decide) rfl (fun ls hl => ?_)
          refine lv_iload_n hx hb dX8_those_58 rfl (lv_at hl 2 rfl) ?_
          refine lv_iload hx hb dX8_those_59 (lv_at hl 0 rfl) ?_
          refine lv_if_eq (tgt := 70) hx hb dX8_those_61 (by decide) (fun c9 => by first | exact absurd c9 (by decide) | exact absurd (by decide) c9) (fun _ => ?_)
          refine lv_iconst (v := nI 1) hx hb dX8_those_64 (by decide) ?_
          refine lv_iload_n hx hb dX8_those_65 rfl (lv_at hl 1 rfl) ?_
          refine lv_ishl hx hb dX8_those_66 ?_
          refine lv_goto (tgt := 71) hx hb dX8_those_67 (by decide) ?_
          refine lv_ior hx hb dX8_those_71 ?_
          refine lv_istore_n (lv' := [(2, .int ((mSq (mHa g) k) ||| ((nI 1) <<< (nI k &&& 31)))), (4, .int (nI 1)), (3, .int (nI k)), (0, .ref xo), (1, .int (nI 4))]) hx hb dX8_those_72 rfl hl (by decide) rfl (fun ls hl => ?_)
          refine rn_inc (a := k) (d := 1) (lv' := [(3, .int (nI (k + 1))), (2, .int ((mSq (mHa g) k) ||| ((nI 1) <<< (nI k &&& 31)))), (4, .int (nI 1)), (0, .ref xo), (1, .int (nI 4))]) hx hb dX8_those_73 hl (k := 2) rfl (by decide) (by decide) rfl (fun ls hl => ?_)
          refine lv_goto (tgt := 4) hx hb dX8_those_76 (by decide) ?_
          have hl : lv_has ls 5 [(3, .int (nI (k + 1))), (2, .int ((mSq (mHa g) k) ||| ((nI 1) <<< (nI k &&& 31)))), (0, .ref xo), (1, .int (nI 4))] := lv_sub hl [0, 1, 3, 4] rfl
          have hl : lv_has ls 5 [(3, .int (nI (k + 1))), (2, .int (mSq (mHa g) (k + 1))), (0, .ref xo), (1, .int (nI 4))] := by first | (rw [mSq_p (P := mHa g) (mHa_n c_3)]; exact hl) | (rw [mSq_n (P := mHa g) (mHa_p c_3)]; exact hl)
          exact ih4 (k + 1) (by omega) (by omega) _ _ hP hS _ hl
  have hl : lv_has ls 5 [(3, .int (nI 0)), (2, .int (mSq (mHa g) 0)), (0, .ref xo), (1, .int (nI 4))] := lv_sub hl [0, 1, 2, 3] rfl
  exact loop4 _ 0 (Nat.lt_succ_self _) (by omega) _ _ hP hS _ hl

set_option maxHeartbeats 4000000 in
set_option maxRecDepth 100000 in
theorem c_X8_those_5 (l : Launch) (E : EV) (xo : Nat) (st : Nat) (sp : Nat) (th : Nat) (so : Nat) (sv : Nat) (pd : Nat) (nu : Nat) (sn : Nat) (ln : Nat) (ta : Nat) (sg : Int32) (g : Nat → Int32) (n : Nat) (hf : g 4 = nI n) (hn : n ≤ 20) : rcI l E yX8_those cX8_those 5 .int 5 [.ref xo, .int (nI 5)] [(xo, .inr (5, [.ref st, .ref sp, .ref th, .int (nI sn), .ref so, .ref sv, .ref pd, .int (nI ln), .int (nI ta), .int sg, .ref nu])), (st, .inl (E.2.1, 293, .inl g))] (mSq (mJu g n) n) [(xo, .inr (5, [.ref st, .ref sp, .ref th, .int (nI sn), .ref so, .ref sv, .ref pd, .int (nI ln), .int (nI ta), .int sg, .ref nu])), (st, .inl (E.2.1, 293, .inl g))] := by
  refine rcI_of (by decide) (Nat.le_of_ble_eq_true rfl) ?_
  intro pg e s m below meth c Q A ls S hP hD0 hE hA hl hret
  have hx := S.1
  have hb := S.2.1
  have hown := S.2.2.2.1
  have hts := S.2.2.2.2
  have hK := hE.1
  have hS : va_S A s.heap s.heap [] := va_S.rf
  have hDa : va_Da A [xo, st] := ⟨_, hD0, rfl⟩
  have hl : lv_has ls 5 [(0, .ref xo), (1, .int (nI 5))] := hl
  refine lv_iconst (v := nI 0) hx hb dX8_those_0 (by decide) ?_
  refine lv_istore_n (lv' := [(2, .int (nI 0)), (0, .ref xo), (1, .int (nI 5))]) hx hb dX8_those_1 rfl hl (by decide) rfl (fun ls hl => ?_)
  refine lv_iconst (v := nI 0) hx hb dX8_those_2 (by decide) ?_
  refine lv_istore_n (lv' := [(3, .int (nI 0)), (2, .int (nI 0)), (0, .ref xo), (1, .int (nI 5))]) hx hb dX8_those_3 rfl hl (by decide) rfl (fun ls hl => ?_)
  have loop4 : ∀ (fuel : Nat) (k : Nat), n - k < fuel → (k ≤ n) → ∀ (H : Heap) (locs : List Loc), va_P E.1 vwCl [(xo, .inr (5, [.ref st, .ref sp, .ref th, .int (nI sn), .ref so, .ref sv, .ref pd, .int (nI ln), .int (nI ta), .int sg, .ref nu])), (st, .inl (E.2.1, 293, .inl g))] H → va_S A s.heap H locs → ∀ ls : Array Slot, lv_has ls 5 [(3, .int (nI k)), (2, .int (mSq (mJu g n) k)), (0, .ref xo), (1, .int (nI 5))] → W pg l e (rq 5) s m ([.ref xo, .int (nI 5)] : List Value).toArray below meth c H locs 0 0 Q (F0 m 4 ls []) := by
    intro fuel
    induction fuel with
    | zero => intro k h9; exact absurd h9 (Nat.not_lt_zero _)
    | succ fuel ih4 =>
      intro k hfu4 hk H locs hP hS ls hl
      refine lv_iload_n hx hb dX8_those_4 rfl (lv_at hl 0 rfl) ?_
      refine lv_aload_n hx hb dX8_those_5 rfl (lv_at hl 2 rfl) ?_
      refine va_get (D := E.1) (ci := 5) (v := .ref st) (C := RX8) (T := TX8) (N := 11) hx hb hts inb_X8 hown hK hP 0 rfl rfl 0 (by decide) (hts _ bw_710) (fun _ h9 => h9) rfl dX8_those_6 ?_
      refine lv_iconst (v := nI 4) hx hb dX8_those_9 (by decide) ?_
      refine rn_iald (i := 4) hx hb hK hP 1 0 rfl rfl (by omega) (by omega) dX8_those_10 ?_
      refine W.eq (congrArg (fun z => F0 m 11 ls (.int z :: [.int (nI k)])) (show g 4 = nI n from hf)) ?_
      refine rn_icmp_ge (a := k) (b := n) (tgt := 79) hx hb (by omega) (by omega) dX8_those_11 (by decide) (fun c_1 => ?_) (fun c_1 => ?_)
      · have hex : n = k := by omega
        subst hex
        refine lv_iload_n hx hb dX8_those_79 rfl (lv_at hl 1 rfl) ?_
        exact hret _ _ _ _ _ _ rfl rfl rfl hP hS dX8_those_80
      · refine lv_iload_n hx hb dX8_those_14 rfl (lv_at hl 3 rfl) ?_
        refine lv_iconst (v := nI 4) hx hb dX8_those_15 (by decide) ?_
        refine rn_icmp_ne (a := 5) (b := 4) (tgt := 38) hx hb (by omega) (by omega) dX8_those_16 (by decide) (fun c_2 => ?_) (fun c_2 => absurd c_2 (by omega))
        refine lv_iload_n hx hb dX8_those_38 rfl (lv_at hl 3 rfl) ?_
        refine lv_iconst (v := nI 5) hx hb dX8_those_39 (by decide) ?_
        refine rn_icmp_ne (a := 5) (b := 5) (tgt := 51) hx hb (by omega) (by omega) dX8_those_40 (by decide) (fun c_3 => absurd c_3 (by omega)) (fun c_3 => ?_)
        refine lv_aload_n hx hb dX8_those_43 rfl (lv_at hl 2 rfl) ?_
        refine lv_iload_n hx hb dX8_those_44 rfl (lv_at hl 0 rfl) ?_
        refine rwV1 (rest := []) S (c_X8_isJump l E xo st sp th so sv pd nu sn ln ta sg g n k hf hn (by omega)) cd_X8_isJump bw_968 ⟨Nat.le_of_ble_eq_true rfl, Nat.le_of_ble_eq_true rfl⟩ ⟨Nat.zero_le _, Nat.zero_le _⟩ hP (hDa.to rfl) hE hA hS [0, 1] rfl rfl [xo, st] rfl rfl (ci := 5) rfl (q0 := 0) rfl (Nat.le_of_ble_eq_true rfl) hl.1 dX8_those_45 (fun H locs hP _ hS => ?_)
        have hP : va_P E.1 vwCl [(xo, .inr (5, [.ref st, .ref sp, .ref th, .int (nI sn), .ref so, .ref sv, .ref pd, .int (nI ln), .int (nI ta), .int sg, .ref nu])), (st, .inl (E.2.1, 293, .inl g))] H := hP
        refine lv_goto (tgt := 56) hx hb dX8_those_48 (by decide) ?_
        refine lv_istore (lv' := [(4, .int (mJu g n k)), (3, .int (nI k)), (2, .int (mSq (mJu g n) k)), (0, .ref xo), (1, .int (nI 5))]) hx hb dX8_those_56 hl (by decide) rfl (fun ls hl => ?_)
        refine lv_iload_n hx hb dX8_those_58 rfl (lv_at hl 2 rfl) ?_
        refine lv_iload hx hb dX8_those_59 (lv_at hl 0 rfl) ?_
        refine lv_if_eq (tgt := 70) hx hb dX8_those_61 (by decide) (fun c_4 => ?_) (fun c_4 => ?_)
        · refine lv_iconst (v := nI 0) hx hb dX8_those_70 (by decide) ?_
          refine lv_ior hx hb dX8_those_71 ?_
          refine lv_istore_n (lv' := [(2, .int ((mSq (mJu g n) k) ||| (nI 0))), (4, .int (mJu g n k)), (3, .int (nI k)), (0, .ref xo), (1, .int (nI 5))]) hx hb dX8_those_72 rfl hl (by decide) rfl (fun ls hl => ?_)
          refine rn_inc (a := k) (d := 1) (lv' := [(3, .int (nI (k + 1))), (2, .int ((mSq (mJu g n) k) ||| (nI 0))), (4, .int (mJu g n k)), (0, .ref xo), (1, .int (nI 5))]) hx hb dX8_those_73 hl (k := 2) rfl (by decide) (by decide) rfl (fun ls hl => ?_)
          refine lv_goto (tgt := 4) hx hb dX8_those_76 (by decide) ?_
          have hl : lv_has ls 5 [(3, .int (nI (k + 1))), (2, .int ((mSq (mJu g n) k) ||| (nI 0))), (0, .ref xo), (1, .int (nI 5))] := lv_sub hl [0, 1, 3, 4] rfl
          have hl : lv_has ls 5 [(3, .int (nI (k + 1))), (2, .int (mSq (mJu g n) (k + 1))), (0, .ref xo), (1, .int (nI 5))] := by first | (rw [mSq_p (P := mJu g n) c_4]; exact hl) | (rw [mSq_n (P := mJu g n) c_4]; exact hl)
          exact ih4 (k + 1) (by omega) (by omega) _ _ hP hS _ hl
        · refine lv_iconst (v := nI 1) hx hb dX8_those_64 (by decide) ?_
          refine lv_iload_n hx hb dX8_those_65 rfl (lv_at hl 1 rfl) ?_
          refine lv_ishl hx hb dX8_those_66 ?_
          refine lv_goto (tgt := 71) hx hb dX8_those_67 (by decide) ?_
          refine lv_ior hx hb dX8_those_71 ?_
          refine lv_istore_n (lv' := [(2, .int ((mSq (mJu g n) k) ||| ((nI 1) <<< (nI k &&& 31)))), (4, .int (mJu g n k)), (3, .int (nI k)), (0, .ref xo), (1, .int (nI 5))]) hx hb dX8_those_72 rfl hl (by decide) rfl (fun ls hl => ?_)
          refine rn_inc (a := k) (d := 1) (lv' := [(3, .int (nI (k + 1))), (2, .int ((mSq (mJu g n) k) ||| ((nI 1) <<< (nI k &&& 31)))), (4, .int (mJu g n k)), (0, .ref xo), (1, .int (nI 5))]) hx hb dX8_those_73 hl (k := 2) rfl (by decide) (by decide) rfl (fun ls hl => ?_)
          refine lv_goto (tgt := 4) hx hb dX8_those_76 (by decide) ?_
          have hl : lv_has ls 5 [(3, .int (nI (k + 1))), (2, .int ((mSq (mJu g n) k) ||| ((nI 1) <<< (nI k &&& 31)))), (0, .ref xo), (1, .int (nI 5))] := lv_sub hl [0, 1, 3, 4] rfl
          have hl : lv_has ls 5 [(3, .int (nI (k + 1))), (2, .int (mSq (mJu g n) (k + 1))), (0, .ref xo), (1, .int (nI 5))] := by first | (rw [mSq_p (P := mJu g n) c_4]; exact hl) | (rw [mSq_n (P := mJu g n) c_4]; exact hl)
          exact ih4 (k + 1) (by omega) (by omega) _ _ hP hS _ hl
  have hl : lv_has ls 5 [(3, .int (nI 0)), (2, .int (mSq (mJu g n) 0)), (0, .ref xo), (1, .int (nI 5))] := lv_sub hl [0, 1, 2, 3] rfl
  exact loop4 _ 0 (Nat.lt_succ_self _) (by omega) _ _ hP hS _ hl

set_option maxHeartbeats 4000000 in
set_option maxRecDepth 100000 in
theorem c_X8_those_7 (l : Launch) (E : EV) (xo : Nat) (st : Nat) (sp : Nat) (th : Nat) (so : Nat) (sv : Nat) (pd : Nat) (nu : Nat) (sn : Nat) (ln : Nat) (ta : Nat) (sg : Int32) (g : Nat → Int32) (n : Nat) (hf : g 4 = nI n) (hn : n ≤ 20) : rcI l E yX8_those cX8_those 5 .int 5 [.ref xo, .int (nI 7)] [(xo, .inr (5, [.ref st, .ref sp, .ref th, .int (nI sn), .ref so, .ref sv, .ref pd, .int (nI ln), .int (nI ta), .int sg, .ref nu])), (st, .inl (E.2.1, 293, .inl g))] (mSq (mOo g) n) [(xo, .inr (5, [.ref st, .ref sp, .ref th, .int (nI sn), .ref so, .ref sv, .ref pd, .int (nI ln), .int (nI ta), .int sg, .ref nu])), (st, .inl (E.2.1, 293, .inl g))] := by
  refine rcI_of (by decide) (Nat.le_of_ble_eq_true rfl) ?_
  intro pg e s m below meth c Q A ls S hP hD0 hE hA hl hret
  have hx := S.1
  have hb := S.2.1
  have hown := S.2.2.2.1
  have hts := S.2.2.2.2
  have hK := hE.1
  have hS : va_S A s.heap s.heap [] := va_S.rf
  have hDa : va_Da A [xo, st] := ⟨_, hD0, rfl⟩
  have hl : lv_has ls 5 [(0, .ref xo), (1, .int (nI 7))] := hl
  refine lv_iconst (v := nI 0) hx hb dX8_those_0 (by decide) ?_
  refine lv_istore_n (lv' := [(2, .int (nI 0)), (0, .ref xo), (1, .int (nI 7))]) hx hb dX8_those_1 rfl hl (by decide) rfl (fun ls hl => ?_)
  refine lv_iconst (v := nI 0) hx hb dX8_those_2 (by decide) ?_
  refine lv_istore_n (lv' := [(3, .int (nI 0)), (2, .int (nI 0)), (0, .ref xo), (1, .int (nI 7))]) hx hb dX8_those_3 rfl hl (by decide) rfl (fun ls hl => ?_)
  have loop4 : ∀ (fuel : Nat) (k : Nat), n - k < fuel → (k ≤ n) → ∀ (H : Heap) (locs : List Loc), va_P E.1 vwCl [(xo, .inr (5, [.ref st, .ref sp, .ref th, .int (nI sn), .ref so, .ref sv, .ref pd, .int (nI ln), .int (nI ta), .int sg, .ref nu])), (st, .inl (E.2.1, 293, .inl g))] H → va_S A s.heap H locs → ∀ ls : Array Slot, lv_has ls 5 [(3, .int (nI k)), (2, .int (mSq (mOo g) k)), (0, .ref xo), (1, .int (nI 7))] → W pg l e (rq 5) s m ([.ref xo, .int (nI 7)] : List Value).toArray below meth c H locs 0 0 Q (F0 m 4 ls []) := by
    intro fuel
    induction fuel with
    | zero => intro k h9; exact absurd h9 (Nat.not_lt_zero _)
    | succ fuel ih4 =>
      intro k hfu4 hk H locs hP hS ls hl
      refine lv_iload_n hx hb dX8_those_4 rfl (lv_at hl 0 rfl) ?_
      refine lv_aload_n hx hb dX8_those_5 rfl (lv_at hl 2 rfl) ?_
      refine va_get (D := E.1) (ci := 5) (v := .ref st) (C := RX8) (T := TX8) (N := 11) hx hb hts inb_X8 hown hK hP 0 rfl rfl 0 (by decide) (hts _ bw_710) (fun _ h9 => h9) rfl dX8_those_6 ?_
      refine lv_iconst (v := nI 4) hx hb dX8_those_9 (by decide) ?_
      refine rn_iald (i := 4) hx hb hK hP 1 0 rfl rfl (by omega) (by omega) dX8_those_10 ?_
      refine W.eq (congrArg (fun z => F0 m 11 ls (.int z :: [.int (nI k)])) (show g 4 = nI n from hf)) ?_
      refine rn_icmp_ge (a := k) (b := n) (tgt := 79) hx hb (by omega) (by omega) dX8_those_11 (by decide) (fun c_1 => ?_) (fun c_1 => ?_)
      · have hex : n = k := by omega
        subst hex
        refine lv_iload_n hx hb dX8_those_79 rfl (lv_at hl 1 rfl) ?_
        exact hret _ _ _ _ _ _ rfl rfl rfl hP hS dX8_those_80
      · refine lv_iload_n hx hb dX8_those_14 rfl (lv_at hl 3 rfl) ?_
        refine lv_iconst (v := nI 4) hx hb dX8_those_15 (by decide) ?_
        refine rn_icmp_ne (a := 7) (b := 4) (tgt := 38) hx hb (by omega) (by omega) dX8_those_16 (by decide) (fun c_2 => ?_) (fun c_2 => absurd c_2 (by omega))
        refine lv_iload_n hx hb dX8_those_38 rfl (lv_at hl 3 rfl) ?_
        refine lv_iconst (v := nI 5) hx hb dX8_those_39 (by decide) ?_
        refine rn_icmp_ne (a := 7) (b := 5) (tgt := 51) hx hb (by omega) (by omega) dX8_those_40 (by decide) (fun c_3 => ?_) (fun c_3 => absurd c_3 (by omega))
        refine lv_aload_n hx hb dX8_those_51 rfl (lv_at hl 2 rfl) ?_
        refine lv_iload_n hx hb dX8_those_52 rfl (lv_at hl 0 rfl) ?_
        refine rwV1 (rest := []) S (c_X8_isOff l E xo st sp th so sv pd nu sn ln ta sg g k (by omega)) cd_X8_isOff bw_992 ⟨Nat.le_of_ble_eq_true rfl, Nat.le_of_ble_eq_true rfl⟩ ⟨Nat.zero_le _, Nat.zero_le _⟩ hP (hDa.to rfl) hE hA hS [0, 1] rfl rfl [xo, st] rfl rfl (ci := 5) rfl (q0 := 0) rfl (Nat.le_of_ble_eq_true rfl) hl.1 dX8_those_53 (fun H locs hP _ hS => ?_)
        have hP : va_P E.1 vwCl [(xo, .inr (5, [.ref st, .ref sp, .ref th, .int (nI sn), .ref so, .ref sv, .ref pd, .int (nI ln), .int (nI ta), .int sg, .ref nu])), (st, .inl (E.2.1, 293, .inl g))] H := hP
        refine lv_istore (lv' := [(4, .int (mOo g k)), (3, .int (nI k)), (2, .int (mSq (mOo g) k)), (0, .ref xo), (1, .int (nI 7))]) hx hb dX8_those_56 hl (by decide) rfl (fun ls hl => ?_)
        refine lv_iload_n hx hb dX8_those_58 rfl (lv_at hl 2 rfl) ?_
        refine lv_iload hx hb dX8_those_59 (lv_at hl 0 rfl) ?_
        refine lv_if_eq (tgt := 70) hx hb dX8_those_61 (by decide) (fun c_4 => ?_) (fun c_4 => ?_)
        · refine lv_iconst (v := nI 0) hx hb dX8_those_70 (by decide) ?_
          refine lv_ior hx hb dX8_those_71 ?_
          refine lv_istore_n (lv' := [(2, .int ((mSq (mOo g) k) ||| (nI 0))), (4, .int (mOo g k)), (3, .int (nI k)), (0, .ref xo), (1, .int (nI 7))]) hx hb dX8_those_72 rfl hl (by decide) rfl (fun ls hl => ?_)
          refine rn_inc (a := k) (d := 1) (lv' := [(3, .int (nI (k + 1))), (2, .int ((mSq (mOo g) k) ||| (nI 0))), (4, .int (mOo g k)), (0, .ref xo), (1, .int (nI 7))]) hx hb dX8_those_73 hl (k := 2) rfl (by decide) (by decide) rfl (fun ls hl => ?_)
          refine lv_goto (tgt := 4) hx hb dX8_those_76 (by decide) ?_
          have hl : lv_has ls 5 [(3, .int (nI (k + 1))), (2, .int ((mSq (mOo g) k) ||| (nI 0))), (0, .ref xo), (1, .int (nI 7))] := lv_sub hl [0, 1, 3, 4] rfl
          have hl : lv_has ls 5 [(3, .int (nI (k + 1))), (2, .int (mSq (mOo g) (k + 1))), (0, .ref xo), (1, .int (nI 7))] := by first | (rw [mSq_p (P := mOo g) c_4]; exact hl) | (rw [mSq_n (P := mOo g) c_4]; exact hl)
          exact ih4 (k + 1) (by omega) (by omega) _ _ hP hS _ hl
        · refine lv_iconst (v := nI 1) hx hb dX8_those_64 (by decide) ?_
          refine lv_iload_n hx hb dX8_those_65 rfl (lv_at hl 1 rfl) ?_
          refine lv_ishl hx hb dX8_those_66 ?_
          refine lv_goto (tgt := 71) hx hb dX8_those_67 (by decide) ?_
          refine lv_ior hx hb dX8_those_71 ?_
          refine lv_istore_n (lv' := [(2, .int ((mSq (mOo g) k) ||| ((nI 1) <<< (nI k &&& 31)))), (4, .int (mOo g k)), (3, .int (nI k)), (0, .ref xo), (1, .int (nI 7))]) hx hb dX8_those_72 rfl hl (by decide) rfl (fun ls hl => ?_)
          refine rn_inc (a := k) (d := 1) (lv' := [(3, .int (nI (k + 1))), (2, .int ((mSq (mOo g) k) ||| ((nI 1) <<< (nI k &&& 31)))), (4, .int (mOo g k)), (0, .ref xo), (1, .int (nI 7))]) hx hb dX8_those_73 hl (k := 2) rfl (by decide) (by decide) rfl (fun ls hl => ?_)
          refine lv_goto (tgt := 4) hx hb dX8_those_76 (by decide) ?_
          have hl : lv_has ls 5 [(3, .int (nI (k + 1))), (2, .int ((mSq (mOo g) k) ||| ((nI 1) <<< (nI k &&& 31)))), (0, .ref xo), (1, .int (nI 7))] := lv_sub hl [0, 1, 3, 4] rfl
          have hl : lv_has ls 5 [(3, .int (nI (k + 1))), (2, .int (mSq (mOo g) (k + 1))), (0, .ref xo), (1, .int (nI 7))] := by first | (rw [mSq_p (P := mOo g) c_4]; exact hl) | (rw [mSq_n (P := mOo g) c_4]; exact hl)
          exact ih4 (k + 1) (by omega) (by omega) _ _ hP hS _ hl
  have hl : lv_has ls 5 [(3, .int (nI 0)), (2, .int (mSq (mOo g) 0)), (0, .ref xo), (1, .int (nI 7))] := lv_sub hl [0, 1, 2, 3] rfl
  exact loop4 _ 0 (Nat.lt_succ_self _) (by omega) _ _ hP hS _ hl

theorem cd_X8_count : cdV RX8 yX8_count cX8_count 2 (some .int) 1 := ⟨⟨bw_987, bw_65, by decide, by decide, by decide +kernel⟩, bw_985, bw_986⟩
def mCo (g : Nat → Int32) (n : Nat) (ln : Nat) (sn : Nat) (a1 : Int32) : Int32 := if a1 = nI 0 then nI n else if a1 = nI 1 then mFt g n else if a1 = nI 2 then g 5 else if a1 = nI 3 then mSb g n else if a1 = nI 4 then mSq (mHa g) n else if a1 = nI 5 then mSq (mJu g n) n else if a1 = nI 6 then g 6 else if a1 = nI 7 then mSq (mOo g) n else if a1 = nI 8 then g 0 else if a1 = nI 9 then g 1 else if a1 = nI 10 then g 2 else if a1 = nI 11 then g 3 else if a1 = nI 12 then nI ln else if a1 = nI 13 then nI sn else (-2)
set_option maxHeartbeats 4000000 in
set_option maxRecDepth 100000 in
theorem c_X8_count (l : Launch) (E : EV) (xo : Nat) (st : Nat) (sp : Nat) (th : Nat) (so : Nat) (sv : Nat) (pd : Nat) (nu : Nat) (sn : Nat) (ln : Nat) (ta : Nat) (sg : Int32) (g : Nat → Int32) (n : Nat) (a1 : Int32) (hf : g 4 = nI n) (hn : n ≤ 20) : rcI l E yX8_count cX8_count 2 .int 6 [.ref xo, .int a1] [(xo, .inr (5, [.ref st, .ref sp, .ref th, .int (nI sn), .ref so, .ref sv, .ref pd, .int (nI ln), .int (nI ta), .int sg, .ref nu])), (st, .inl (E.2.1, 293, .inl g))] (mCo g n ln sn a1) [(xo, .inr (5, [.ref st, .ref sp, .ref th, .int (nI sn), .ref so, .ref sv, .ref pd, .int (nI ln), .int (nI ta), .int sg, .ref nu])), (st, .inl (E.2.1, 293, .inl g))] := by
  refine rcI_of (by decide) (Nat.le_of_ble_eq_true rfl) ?_
  intro pg e s m below meth c Q A ls S hP hD0 hE hA hl hret
  have hx := S.1
  have hb := S.2.1
  have hown := S.2.2.2.1
  have hts := S.2.2.2.2
  have hK := hE.1
  have hS : va_S A s.heap s.heap [] := va_S.rf
  have hDa : va_Da A [xo, st] := ⟨_, hD0, rfl⟩
  have hl : lv_has ls 2 [(0, .ref xo), (1, .int a1)] := hl
  refine lv_iload_n hx hb dX8_count_0 rfl (lv_at hl 1 rfl) ?_
  by_cases c_1 : a1 = nI 0
  · refine lv_tableIn (tgt := 72) hx hb dX8_count_1 (by rw [c_1]; decide) (by rw [c_1]; decide) (by rw [c_1]; rfl) (by decide) ?_
    refine lv_aload_n hx hb dX8_count_72 rfl (lv_at hl 0 rfl) ?_
    refine va_get (D := E.1) (ci := 5) (v := .ref st) (C := RX8) (T := TX8) (N := 11) hx hb hts inb_X8 hown hK hP 0 rfl rfl 0 (by decide) (hts _ bw_710) (fun _ h9 => h9) rfl dX8_count_73 ?_
    refine lv_iconst (v := nI 4) hx hb dX8_count_76 (by decide) ?_
    refine rn_iald (i := 4) hx hb hK hP 1 0 rfl rfl (by omega) (by omega) dX8_count_77 ?_
    refine W.eq (congrArg (fun z => F0 m 78 ls (.int z :: [])) (show g 4 = nI n from hf)) ?_
    exact hret _ _ _ _ _ _ (by rw [mCo, if_pos c_1]) rfl rfl hP hS dX8_count_78
  by_cases c_2 : a1 = nI 1
  · refine lv_tableIn (tgt := 79) hx hb dX8_count_1 (by rw [c_2]; decide) (by rw [c_2]; decide) (by rw [c_2]; rfl) (by decide) ?_
    refine lv_aload_n hx hb dX8_count_79 rfl (lv_at hl 0 rfl) ?_
    refine lv_aload_n hx hb dX8_count_80 rfl (lv_at hl 0 rfl) ?_
    refine va_get (D := E.1) (ci := 5) (v := .ref st) (C := RX8) (T := TX8) (N := 11) hx hb hts inb_X8 hown hK hP 0 rfl rfl 0 (by decide) (hts _ bw_710) (fun _ h9 => h9) rfl dX8_count_81 ?_
    refine lv_iconst (v := nI 4) hx hb dX8_count_84 (by decide) ?_
    refine rn_iald (i := 4) hx hb hK hP 1 0 rfl rfl (by omega) (by omega) dX8_count_85 ?_
    refine W.eq (congrArg (fun z => F0 m 86 ls (.int z :: [.ref xo])) (show g 4 = nI n from hf)) ?_
    refine rwV1 (rest := []) S (c_X8_feetTo l E xo st sp th so sv pd nu sn ln ta sg g n hn) cd_X8_feetTo bw_890 ⟨Nat.le_of_ble_eq_true rfl, Nat.le_of_ble_eq_true rfl⟩ ⟨Nat.zero_le _, Nat.zero_le _⟩ hP (hDa.to rfl) hE hA hS [0, 1] rfl rfl [xo, st] rfl rfl (ci := 5) rfl (q0 := 0) rfl (Nat.le_of_ble_eq_true rfl) hl.1 dX8_count_86 (fun H locs hP _ hS => ?_)
    have hP : va_P E.1 vwCl [(xo, .inr (5, [.ref st, .ref sp, .ref th, .int (nI sn), .ref so, .ref sv, .ref pd, .int (nI ln), .int (nI ta), .int sg, .ref nu])), (st, .inl (E.2.1, 293, .inl g))] H := hP
    exact hret _ _ _ _ _ _ (by rw [mCo, if_neg c_1, if_pos c_2]) rfl rfl hP hS dX8_count_89
  by_cases c_3 : a1 = nI 2
  · refine lv_tableIn (tgt := 90) hx hb dX8_count_1 (by rw [c_3]; decide) (by rw [c_3]; decide) (by rw [c_3]; rfl) (by decide) ?_
    refine lv_aload_n hx hb dX8_count_90 rfl (lv_at hl 0 rfl) ?_
    refine va_get (D := E.1) (ci := 5) (v := .ref st) (C := RX8) (T := TX8) (N := 11) hx hb hts inb_X8 hown hK hP 0 rfl rfl 0 (by decide) (hts _ bw_710) (fun _ h9 => h9) rfl dX8_count_91 ?_
    refine lv_iconst (v := nI 5) hx hb dX8_count_94 (by decide) ?_
    refine rn_iald (i := 5) hx hb hK hP 1 0 rfl rfl (by omega) (by omega) dX8_count_95 ?_
    exact hret _ _ _ _ _ _ (by rw [mCo, if_neg c_1, if_neg c_2, if_pos c_3]) rfl rfl hP hS dX8_count_96
  by_cases c_4 : a1 = nI 3
  · refine lv_tableIn (tgt := 97) hx hb dX8_count_1 (by rw [c_4]; decide) (by rw [c_4]; decide) (by rw [c_4]; rfl) (by decide) ?_
    refine lv_aload_n hx hb dX8_count_97 rfl (lv_at hl 0 rfl) ?_
    refine rwV0 (rest := []) S (c_X8_badOnes l E xo st sp th so sv pd nu sn ln ta sg g n hf hn) cd_X8_badOnes bw_917 ⟨Nat.le_of_ble_eq_true rfl, Nat.le_of_ble_eq_true rfl⟩ ⟨Nat.zero_le _, Nat.zero_le _⟩ hP (hDa.to rfl) hE hA hS [0, 1] rfl rfl [xo, st] rfl rfl (ci := 5) rfl (q0 := 0) rfl (Nat.le_of_ble_eq_true rfl) hl.1 dX8_count_98 (fun H locs hP _ hS => ?_)
    have hP : va_P E.1 vwCl [(xo, .inr (5, [.ref st, .ref sp, .ref th, .int (nI sn), .ref so, .ref sv, .ref pd, .int (nI ln), .int (nI ta), .int sg, .ref nu])), (st, .inl (E.2.1, 293, .inl g))] H := hP
    exact hret _ _ _ _ _ _ (by rw [mCo, if_neg c_1, if_neg c_2, if_neg c_3, if_pos c_4]) rfl rfl hP hS dX8_count_101
  by_cases c_5 : a1 = nI 4
  · refine lv_tableIn (tgt := 102) hx hb dX8_count_1 (by rw [c_5]; decide) (by rw [c_5]; decide) (by rw [c_5]; rfl) (by decide) ?_
    have hl : lv_has ls 2 [(0, .ref xo), (1, .int (nI 4))] := by rw [show a1 = nI 4 from c_5] at hl; exact hl
    refine lv_aload_n hx hb dX8_count_102 rfl (lv_at hl 0 rfl) ?_
    refine lv_iload_n hx hb dX8_count_103 rfl (lv_at hl 1 rfl) ?_
    refine rwV1 (rest := []) S (c_X8_those_4 l E xo st sp th so sv pd nu sn ln ta sg g n hf hn) cd_X8_those bw_988 ⟨Nat.le_of_ble_eq_true rfl, Nat.le_of_ble_eq_true rfl⟩ ⟨Nat.zero_le _, Nat.zero_le _⟩ hP (hDa.to rfl) hE hA hS [0, 1] rfl rfl [xo, st] rfl rfl (ci := 5) rfl (q0 := 0) rfl (Nat.le_of_ble_eq_true rfl) hl.1 dX8_count_104 (fun H locs hP _ hS => ?_)
    have hP : va_P E.1 vwCl [(xo, .inr (5, [.ref st, .ref sp, .ref th, .int (nI sn), .ref so, .ref sv, .ref pd, .int (nI ln), .int (nI ta), .int sg, .ref nu])), (st, .inl (E.2.1, 293, .inl g))] H := hP
    exact hret _ _ _ _ _ _ (by rw [mCo, if_neg c_1, if_neg c_2, if_neg c_3, if_neg c_4, if_pos c_5]) rfl rfl hP hS dX8_count_107
  by_cases c_6 : a1 = nI 5
  · refine lv_tableIn (tgt := 102) hx hb dX8_count_1 (by rw [c_6]; decide) (by rw [c_6]; decide) (by rw [c_6]; rfl) (by decide) ?_
    have hl : lv_has ls 2 [(0, .ref xo), (1, .int (nI 5))] := by rw [show a1 = nI 5 from c_6] at hl; exact hl
    refine lv_aload_n hx hb dX8_count_102 rfl (lv_at hl 0 rfl) ?_
    refine lv_iload_n hx hb dX8_count_103 rfl (lv_at hl 1 rfl) ?_
    refine rwV1 (rest := []) S (c_X8_those_5 l E xo st sp th so sv pd nu sn ln ta sg g n hf hn) cd_X8_those bw_988 ⟨Nat.le_of_ble_eq_true rfl, Nat.le_of_ble_eq_true rfl⟩ ⟨Nat.zero_le _, Nat.zero_le _⟩ hP (hDa.to rfl) hE hA hS [0, 1] rfl rfl [xo, st] rfl rfl (ci := 5) rfl (q0 := 0) rfl (Nat.le_of_ble_eq_true rfl) hl.1 dX8_count_104 (fun H locs hP _ hS => ?_)
    have hP : va_P E.1 vwCl [(xo, .inr (5, [.ref st, .ref sp, .ref th, .int (nI sn), .ref so, .ref sv, .ref pd, .int (nI ln), .int (nI ta), .int sg, .ref nu])), (st, .inl (E.2.1, 293, .inl g))] H := hP
    exact hret _ _ _ _ _ _ (by rw [mCo, if_neg c_1, if_neg c_2, if_neg c_3, if_neg c_4, if_neg c_5, if_pos c_6]) rfl rfl hP hS dX8_count_107
  by_cases c_7 : a1 = nI 6
  · refine lv_tableIn (tgt := 108) hx hb dX8_count_1 (by rw [c_7]; decide) (by rw [c_7]; decide) (by rw [c_7]; rfl) (by decide) ?_
    refine lv_aload_n hx hb dX8_count_108 rfl (lv_at hl 0 rfl) ?_
    refine va_get (D := E.1) (ci := 5) (v := .ref st) (C := RX8) (T := TX8) (N := 11) hx hb hts inb_X8 hown hK hP 0 rfl rfl 0 (by decide) (hts _ bw_710) (fun _ h9 => h9) rfl dX8_count_109 ?_
    refine lv_bipush (v := nI 6) hx hb dX8_count_112 (by decide) ?_
    refine rn_iald (i := 6) hx hb hK hP 1 0 rfl rfl (by omega) (by omega) dX8_count_114 ?_
    exact hret _ _ _ _ _ _ (by rw [mCo, if_neg c_1, if_neg c_2, if_neg c_3, if_neg c_4, if_neg c_5, if_neg c_6, if_pos c_7]) rfl rfl hP hS dX8_count_115
  by_cases c_8 : a1 = nI 7
  · refine lv_tableIn (tgt := 102) hx hb dX8_count_1 (by rw [c_8]; decide) (by rw [c_8]; decide) (by rw [c_8]; rfl) (by decide) ?_
    have hl : lv_has ls 2 [(0, .ref xo), (1, .int (nI 7))] := by rw [show a1 = nI 7 from c_8] at hl; exact hl
    refine lv_aload_n hx hb dX8_count_102 rfl (lv_at hl 0 rfl) ?_
    refine lv_iload_n hx hb dX8_count_103 rfl (lv_at hl 1 rfl) ?_
    refine rwV1 (rest := []) S (c_X8_those_7 l E xo st sp th so sv pd nu sn ln ta sg g n hf hn) cd_X8_those bw_988 ⟨Nat.le_of_ble_eq_true rfl, Nat.le_of_ble_eq_true rfl⟩ ⟨Nat.zero_le _, Nat.zero_le _⟩ hP (hDa.to rfl) hE hA hS [0, 1] rfl rfl [xo, st] rfl rfl (ci := 5) rfl (q0 := 0) rfl (Nat.le_of_ble_eq_true rfl) hl.1 dX8_count_104 (fun H locs hP _ hS => ?_)
    have hP : va_P E.1 vwCl [(xo, .inr (5, [.ref st, .ref sp, .ref th, .int (nI sn), .ref so, .ref sv, .ref pd, .int (nI ln), .int (nI ta), .int sg, .ref nu])), (st, .inl (E.2.1, 293, .inl g))] H := hP
    exact hret _ _ _ _ _ _ (by rw [mCo, if_neg c_1, if_neg c_2, if_neg c_3, if_neg c_4, if_neg c_5, if_neg c_6, if_neg c_7, if_pos c_8]) rfl rfl hP hS dX8_count_107
  by_cases c_9 : a1 = nI 8
  · refine lv_tableIn (tgt := 116) hx hb dX8_count_1 (by rw [c_9]; decide) (by rw [c_9]; decide) (by rw [c_9]; rfl) (by decide) ?_
    have hl : lv_has ls 2 [(0, .ref xo), (1, .int (nI 8))] := by rw [show a1 = nI 8 from c_9] at hl; exact hl
    refine lv_aload_n hx hb dX8_count_116 rfl (lv_at hl 0 rfl) ?_
    refine va_get (D := E.1) (ci := 5) (v := .ref st) (C := RX8) (T := TX8) (N := 11) hx hb hts inb_X8 hown hK hP 0 rfl rfl 0 (by decide) (hts _ bw_710) (fun _ h9 => h9) rfl dX8_count_117 ?_
    refine lv_iload_n hx hb dX8_count_120 rfl (lv_at hl 1 rfl) ?_
    refine lv_bipush (v := nI 8) hx hb dX8_count_121 (by decide) ?_
    refine rn_sub (a := 8) (b := 8) hx hb dX8_count_123 (by omega) ?_
    refine rn_iald (i := 0) hx hb hK hP 1 0 rfl rfl (by omega) (by omega) dX8_count_124 ?_
    exact hret _ _ _ _ _ _ (by rw [mCo, if_neg c_1, if_neg c_2, if_neg c_3, if_neg c_4, if_neg c_5, if_neg c_6, if_neg c_7, if_neg c_8, if_pos c_9]) rfl rfl hP hS dX8_count_125
  by_cases c_10 : a1 = nI 9
  · refine lv_tableIn (tgt := 116) hx hb dX8_count_1 (by rw [c_10]; decide) (by rw [c_10]; decide) (by rw [c_10]; rfl) (by decide) ?_
    have hl : lv_has ls 2 [(0, .ref xo), (1, .int (nI 9))] := by rw [show a1 = nI 9 from c_10] at hl; exact hl
    refine lv_aload_n hx hb dX8_count_116 rfl (lv_at hl 0 rfl) ?_
    refine va_get (D := E.1) (ci := 5) (v := .ref st) (C := RX8) (T := TX8) (N := 11) hx hb hts inb_X8 hown hK hP 0 rfl rfl 0 (by decide) (hts _ bw_710) (fun _ h9 => h9) rfl dX8_count_117 ?_
    refine lv_iload_n hx hb dX8_count_120 rfl (lv_at hl 1 rfl) ?_
    refine lv_bipush (v := nI 8) hx hb dX8_count_121 (by decide) ?_
    refine rn_sub (a := 9) (b := 8) hx hb dX8_count_123 (by omega) ?_
    refine rn_iald (i := 1) hx hb hK hP 1 0 rfl rfl (by omega) (by omega) dX8_count_124 ?_
    exact hret _ _ _ _ _ _ (by rw [mCo, if_neg c_1, if_neg c_2, if_neg c_3, if_neg c_4, if_neg c_5, if_neg c_6, if_neg c_7, if_neg c_8, if_neg c_9, if_pos c_10]) rfl rfl hP hS dX8_count_125
  by_cases c_11 : a1 = nI 10
  · refine lv_tableIn (tgt := 116) hx hb dX8_count_1 (by rw [c_11]; decide) (by rw [c_11]; decide) (by rw [c_11]; rfl) (by decide) ?_
    have hl : lv_has ls 2 [(0, .ref xo), (1, .int (nI 10))] := by rw [show a1 = nI 10 from c_11] at hl; exact hl
    refine lv_aload_n hx hb dX8_count_116 rfl (lv_at hl 0 rfl) ?_
    refine va_get (D := E.1) (ci := 5) (v := .ref st) (C := RX8) (T := TX8) (N := 11) hx hb hts inb_X8 hown hK hP 0 rfl rfl 0 (by decide) (hts _ bw_710) (fun _ h9 => h9) rfl dX8_count_117 ?_
    refine lv_iload_n hx hb dX8_count_120 rfl (lv_at hl 1 rfl) ?_
    refine lv_bipush (v := nI 8) hx hb dX8_count_121 (by decide) ?_
    refine rn_sub (a := 10) (b := 8) hx hb dX8_count_123 (by omega) ?_
    refine rn_iald (i := 2) hx hb hK hP 1 0 rfl rfl (by omega) (by omega) dX8_count_124 ?_
    exact hret _ _ _ _ _ _ (by rw [mCo, if_neg c_1, if_neg c_2, if_neg c_3, if_neg c_4, if_neg c_5, if_neg c_6, if_neg c_7, if_neg c_8, if_neg c_9, if_neg c_10, if_pos c_11]) rfl rfl hP hS dX8_count_125
  by_cases c_12 : a1 = nI 11
  · refine lv_tableIn (tgt := 116) hx hb dX8_count_1 (by rw [c_12]; decide) (by rw [c_12]; decide) (by rw [c_12]; rfl) (by decide) ?_
    have hl : lv_has ls 2 [(0, .ref xo), (1, .int (nI 11))] := by rw [show a1 = nI 11 from c_12] at hl; exact hl
    refine lv_aload_n hx hb dX8_count_116 rfl (lv_at hl 0 rfl) ?_
    refine va_get (D := E.1) (ci := 5) (v := .ref st) (C := RX8) (T := TX8) (N := 11) hx hb hts inb_X8 hown hK hP 0 rfl rfl 0 (by decide) (hts _ bw_710) (fun _ h9 => h9) rfl dX8_count_117 ?_
    refine lv_iload_n hx hb dX8_count_120 rfl (lv_at hl 1 rfl) ?_
    refine lv_bipush (v := nI 8) hx hb dX8_count_121 (by decide) ?_
    refine rn_sub (a := 11) (b := 8) hx hb dX8_count_123 (by omega) ?_
    refine rn_iald (i := 3) hx hb hK hP 1 0 rfl rfl (by omega) (by omega) dX8_count_124 ?_
    exact hret _ _ _ _ _ _ (by rw [mCo, if_neg c_1, if_neg c_2, if_neg c_3, if_neg c_4, if_neg c_5, if_neg c_6, if_neg c_7, if_neg c_8, if_neg c_9, if_neg c_10, if_neg c_11, if_pos c_12]) rfl rfl hP hS dX8_count_125
  by_cases c_13 : a1 = nI 12
  · refine lv_tableIn (tgt := 126) hx hb dX8_count_1 (by rw [c_13]; decide) (by rw [c_13]; decide) (by rw [c_13]; rfl) (by decide) ?_
    refine lv_aload_n hx hb dX8_count_126 rfl (lv_at hl 0 rfl) ?_
    refine va_get (D := E.1) (ci := 5) (v := .int (nI ln)) (C := RX8) (T := TX8) (N := 11) hx hb hts inb_X8 hown hK hP 0 rfl rfl 7 (by decide) (hts _ bw_717) (fun _ h9 => h9) rfl dX8_count_127 ?_
    exact hret _ _ _ _ _ _ (by rw [mCo, if_neg c_1, if_neg c_2, if_neg c_3, if_neg c_4, if_neg c_5, if_neg c_6, if_neg c_7, if_neg c_8, if_neg c_9, if_neg c_10, if_neg c_11, if_neg c_12, if_pos c_13]) rfl rfl hP hS dX8_count_130
  by_cases c_14 : a1 = nI 13
  · refine lv_tableIn (tgt := 131) hx hb dX8_count_1 (by rw [c_14]; decide) (by rw [c_14]; decide) (by rw [c_14]; rfl) (by decide) ?_
    refine lv_aload_n hx hb dX8_count_131 rfl (lv_at hl 0 rfl) ?_
    refine va_get (D := E.1) (ci := 5) (v := .int (nI sn)) (C := RX8) (T := TX8) (N := 11) hx hb hts inb_X8 hown hK hP 0 rfl rfl 3 (by decide) (hts _ bw_713) (fun _ h9 => h9) rfl dX8_count_132 ?_
    exact hret _ _ _ _ _ _ (by rw [mCo, if_neg c_1, if_neg c_2, if_neg c_3, if_neg c_4, if_neg c_5, if_neg c_6, if_neg c_7, if_neg c_8, if_neg c_9, if_neg c_10, if_neg c_11, if_neg c_12, if_neg c_13, if_pos c_14]) rfl rfl hP hS dX8_count_135
  refine lv_tableOut (tgt := 136) hx hb dX8_count_1 (sw_out (lo := 0) (n := 14) ((lt_s (lt_s (lt_s (lt_s (lt_s (lt_s (lt_s (lt_s (lt_s (lt_s (lt_s (lt_s (lt_s (lt_s lt_0 c_1) c_2) c_3) c_4) c_5) c_6) c_7) c_8) c_9) c_10) c_11) c_12) c_13) c_14 : ∀ a, a < 14 → (fun a => ¬ a1 = nI (0 + a)) a))) (by decide) ?_
  refine lv_bipush (v := (-2)) hx hb dX8_count_136 (by decide) ?_
  exact hret _ _ _ _ _ _ (by rw [mCo, if_neg c_1, if_neg c_2, if_neg c_3, if_neg c_4, if_neg c_5, if_neg c_6, if_neg c_7, if_neg c_8, if_neg c_9, if_neg c_10, if_neg c_11, if_neg c_12, if_neg c_13, if_neg c_14]) rfl rfl hP hS dX8_count_138

theorem cd_X8_needed : cdV RX8 yX8_needed cX8_needed 3 (some .int) 2 := ⟨⟨bw_1003, bw_65, by decide, by decide, by decide +kernel⟩, bw_1002, bw_45⟩
def mNd (g : Nat → Int32) (p : Nat) (co : Nat) : Int32 := g (13 + 14 * p + (4 + co)) + (g (13 + 14 * p + (1 + co))) + (mLo g co) - (g (10 + co))
set_option maxHeartbeats 4000000 in
set_option maxRecDepth 100000 in
theorem c_X8_needed (l : Launch) (E : EV) (xo : Nat) (st : Nat) (sp : Nat) (th : Nat) (so : Nat) (sv : Nat) (pd : Nat) (nu : Nat) (sn : Nat) (ln : Nat) (ta : Nat) (sg : Int32) (g : Nat → Int32) (p : Nat) (co : Nat) (hp : p < 20) (hco : co < 3) : rcI l E yX8_needed cX8_needed 3 .int 1 [.ref xo, .int (nI p), .int (nI co)] [(xo, .inr (5, [.ref st, .ref sp, .ref th, .int (nI sn), .ref so, .ref sv, .ref pd, .int (nI ln), .int (nI ta), .int sg, .ref nu])), (st, .inl (E.2.1, 293, .inl g))] (mNd g p co) [(xo, .inr (5, [.ref st, .ref sp, .ref th, .int (nI sn), .ref so, .ref sv, .ref pd, .int (nI ln), .int (nI ta), .int sg, .ref nu])), (st, .inl (E.2.1, 293, .inl g))] := by
  refine rcI_of (by decide) (Nat.le_of_ble_eq_true rfl) ?_
  intro pg e s m below meth c Q A ls S hP hD0 hE hA hl hret
  have hx := S.1
  have hb := S.2.1
  have hown := S.2.2.2.1
  have hts := S.2.2.2.2
  have hK := hE.1
  have hS : va_S A s.heap s.heap [] := va_S.rf
  have hDa : va_Da A [xo, st] := ⟨_, hD0, rfl⟩
  have hl : lv_has ls 3 [(0, .ref xo), (1, .int (nI p)), (2, .int (nI co))] := hl
  refine lv_aload_n hx hb dX8_needed_0 rfl (lv_at hl 0 rfl) ?_
  refine lv_iload_n hx hb dX8_needed_1 rfl (lv_at hl 1 rfl) ?_
  refine lv_iconst (v := nI 4) hx hb dX8_needed_2 (by decide) ?_
  refine lv_iload_n hx hb dX8_needed_3 rfl (lv_at hl 2 rfl) ?_
  refine rn_add (a := 4) (b := co) hx hb dX8_needed_4 ?_
  refine rwV2 (rest := []) S (c_X8_of14 l E xo st sp th so sv pd nu sn ln ta sg g p (4 + co) hp (by omega)) cd_X8_of14 bw_827 ⟨Nat.le_of_ble_eq_true rfl, Nat.le_of_ble_eq_true rfl⟩ ⟨Nat.zero_le _, Nat.zero_le _⟩ hP (hDa.to rfl) hE hA hS [0, 1] rfl rfl [xo, st] rfl rfl (ci := 5) rfl (q0 := 0) rfl (Nat.le_of_ble_eq_true rfl) hl.1 dX8_needed_5 (fun H locs hP _ hS => ?_)
  have hP : va_P E.1 vwCl [(xo, .inr (5, [.ref st, .ref sp, .ref th, .int (nI sn), .ref so, .ref sv, .ref pd, .int (nI ln), .int (nI ta), .int sg, .ref nu])), (st, .inl (E.2.1, 293, .inl g))] H := hP
  refine lv_aload_n hx hb dX8_needed_8 rfl (lv_at hl 0 rfl) ?_
  refine lv_iload_n hx hb dX8_needed_9 rfl (lv_at hl 1 rfl) ?_
  refine lv_iconst (v := nI 1) hx hb dX8_needed_10 (by decide) ?_
  refine lv_iload_n hx hb dX8_needed_11 rfl (lv_at hl 2 rfl) ?_
  refine rn_add (a := 1) (b := co) hx hb dX8_needed_12 ?_
  refine rwV2 (rest := [.int (g (13 + 14 * p + (4 + co)))]) S (c_X8_of14 l E xo st sp th so sv pd nu sn ln ta sg g p (1 + co) hp (by omega)) cd_X8_of14 bw_827 ⟨Nat.le_of_ble_eq_true rfl, Nat.le_of_ble_eq_true rfl⟩ ⟨Nat.zero_le _, Nat.zero_le _⟩ hP (hDa.to rfl) hE hA hS [0, 1] rfl rfl [xo, st] rfl rfl (ci := 5) rfl (q0 := 0) rfl (Nat.le_of_ble_eq_true rfl) hl.1 dX8_needed_13 (fun H locs hP _ hS => ?_)
  have hP : va_P E.1 vwCl [(xo, .inr (5, [.ref st, .ref sp, .ref th, .int (nI sn), .ref so, .ref sv, .ref pd, .int (nI ln), .int (nI ta), .int sg, .ref nu])), (st, .inl (E.2.1, 293, .inl g))] H := hP
  refine lv_iadd hx hb dX8_needed_16 ?_
  refine lv_aload_n hx hb dX8_needed_17 rfl (lv_at hl 0 rfl) ?_
  refine lv_iload_n hx hb dX8_needed_18 rfl (lv_at hl 2 rfl) ?_
  refine rwV1 (rest := [.int (g (13 + 14 * p + (4 + co)) + (g (13 + 14 * p + (1 + co))))]) S (c_X8_lost l E xo st sp th so sv pd nu sn ln ta sg g co hco) cd_X8_lost bw_910 ⟨Nat.le_of_ble_eq_true rfl, Nat.le_of_ble_eq_true rfl⟩ ⟨Nat.zero_le _, Nat.zero_le _⟩ hP (hDa.to rfl) hE hA hS [0, 1] rfl rfl [xo, st] rfl rfl (ci := 5) rfl (q0 := 0) rfl (Nat.le_of_ble_eq_true rfl) hl.1 dX8_needed_19 (fun H locs hP _ hS => ?_)
  have hP : va_P E.1 vwCl [(xo, .inr (5, [.ref st, .ref sp, .ref th, .int (nI sn), .ref so, .ref sv, .ref pd, .int (nI ln), .int (nI ta), .int sg, .ref nu])), (st, .inl (E.2.1, 293, .inl g))] H := hP
  refine lv_iadd hx hb dX8_needed_22 ?_
  refine lv_aload_n hx hb dX8_needed_23 rfl (lv_at hl 0 rfl) ?_
  refine va_get (D := E.1) (ci := 5) (v := .ref st) (C := RX8) (T := TX8) (N := 11) hx hb hts inb_X8 hown hK hP 0 rfl rfl 0 (by decide) (hts _ bw_710) (fun _ h9 => h9) rfl dX8_needed_24 ?_
  refine lv_bipush (v := nI 10) hx hb dX8_needed_27 (by decide) ?_
  refine lv_iload_n hx hb dX8_needed_29 rfl (lv_at hl 2 rfl) ?_
  refine rn_add (a := 10) (b := co) hx hb dX8_needed_30 ?_
  refine rn_iald (i := 10 + co) hx hb hK hP 1 0 rfl rfl (by omega) (by omega) dX8_needed_31 ?_
  refine lv_isub hx hb dX8_needed_32 ?_
  exact hret _ _ _ _ _ _ (by rw [mNd]) rfl rfl hP hS dX8_needed_33

theorem cd_X8_needs : cdV RX8 yX8_needs cX8_needs 4 (some .int) 2 := ⟨⟨bw_999, bw_65, by decide, by decide, by decide +kernel⟩, bw_997, bw_998⟩
def mNe (g : Nat → Int32) (n : Nat) (x : Int32) (y : Int32) : Int32 := if mIs g x = 0 then (-1) else if mIc y = 0 then (-2) else if mIp (mNd g (ix x) (ix y)) = 0 then (-6) else mNd g (ix x) (ix y)
set_option maxHeartbeats 4000000 in
set_option maxRecDepth 100000 in
theorem c_X8_needs (l : Launch) (E : EV) (xo : Nat) (st : Nat) (sp : Nat) (th : Nat) (so : Nat) (sv : Nat) (pd : Nat) (nu : Nat) (sn : Nat) (ln : Nat) (ta : Nat) (sg : Int32) (g : Nat → Int32) (n : Nat) (x : Int32) (y : Int32) (hf : g 4 = nI n) (hn : n ≤ 20) : rcI l E yX8_needs cX8_needs 4 .int 4 [.ref xo, .int x, .int y] [(xo, .inr (5, [.ref st, .ref sp, .ref th, .int (nI sn), .ref so, .ref sv, .ref pd, .int (nI ln), .int (nI ta), .int sg, .ref nu])), (st, .inl (E.2.1, 293, .inl g))] (mNe g n x y) [(xo, .inr (5, [.ref st, .ref sp, .ref th, .int (nI sn), .ref so, .ref sv, .ref pd, .int (nI ln), .int (nI ta), .int sg, .ref nu])), (st, .inl (E.2.1, 293, .inl g))] := by
  refine rcI_of (by decide) (Nat.le_of_ble_eq_true rfl) ?_
  intro pg e s m below meth c Q A ls S hP hD0 hE hA hl hret
  have hx := S.1
  have hb := S.2.1
  have hown := S.2.2.2.1
  have hts := S.2.2.2.2
  have hK := hE.1
  have hS : va_S A s.heap s.heap [] := va_S.rf
  have hDa : va_Da A [xo, st] := ⟨_, hD0, rfl⟩
  have hl : lv_has ls 4 [(0, .ref xo), (1, .int x), (2, .int y)] := hl
  refine lv_aload_n hx hb dX8_needs_0 rfl (lv_at hl 0 rfl) ?_
  refine lv_iload_n hx hb dX8_needs_1 rfl (lv_at hl 1 rfl) ?_
  refine rwV1 (rest := []) S (c_X8_isShot l E xo st sp th so sv pd nu sn ln ta sg g x) cd_X8_isShot bw_808 ⟨Nat.le_of_ble_eq_true rfl, Nat.le_of_ble_eq_true rfl⟩ ⟨Nat.zero_le _, Nat.zero_le _⟩ hP (hDa.to rfl) hE hA hS [0, 1] rfl rfl [xo, st] rfl rfl (ci := 5) rfl (q0 := 0) rfl (Nat.le_of_ble_eq_true rfl) hl.1 dX8_needs_2 (fun H locs hP _ hS => ?_)
  have hP : va_P E.1 vwCl [(xo, .inr (5, [.ref st, .ref sp, .ref th, .int (nI sn), .ref so, .ref sv, .ref pd, .int (nI ln), .int (nI ta), .int sg, .ref nu])), (st, .inl (E.2.1, 293, .inl g))] H := hP
  refine lv_if_ne (tgt := 10) hx hb dX8_needs_5 (by decide) (fun c_1 => ?_) (fun c_1 => ?_)
  · obtain ⟨p, h9_p, rfl⟩ : ∃ p : Nat, p < n ∧ x = nI p := (mIs_of hf hn c_1)
    refine lv_iload_n hx hb dX8_needs_10 rfl (lv_at hl 2 rfl) ?_
    refine rwS1 (rest := []) S (c_X8_isColour l E y) cd_X8_isColour bw_824 ⟨Nat.le_of_ble_eq_true rfl, Nat.le_of_ble_eq_true rfl⟩ ⟨Nat.zero_le _, Nat.zero_le _⟩ hP (hDa.to rfl) hE hA hS [] rfl rfl [] rfl rfl (Nat.le_of_ble_eq_true rfl) hl.1 dX8_needs_11 (fun H locs hP _ hS => ?_)
    have hP : va_P E.1 vwCl [(xo, .inr (5, [.ref st, .ref sp, .ref th, .int (nI sn), .ref so, .ref sv, .ref pd, .int (nI ln), .int (nI ta), .int sg, .ref nu])), (st, .inl (E.2.1, 293, .inl g))] H := hP
    refine lv_if_ne (tgt := 20) hx hb dX8_needs_14 (by decide) (fun c_2 => ?_) (fun c_2 => ?_)
    · obtain ⟨co, h9_co, rfl⟩ : ∃ co : Nat, co < 3 ∧ y = nI co := (mIc_of c_2)
      refine lv_aload_n hx hb dX8_needs_20 rfl (lv_at hl 0 rfl) ?_
      refine lv_iload_n hx hb dX8_needs_21 rfl (lv_at hl 1 rfl) ?_
      refine lv_iload_n hx hb dX8_needs_22 rfl (lv_at hl 2 rfl) ?_
      refine rwV2 (rest := []) S (c_X8_needed l E xo st sp th so sv pd nu sn ln ta sg g p co (by omega) (by omega)) cd_X8_needed bw_1000 ⟨Nat.le_of_ble_eq_true rfl, Nat.le_of_ble_eq_true rfl⟩ ⟨Nat.zero_le _, Nat.zero_le _⟩ hP (hDa.to rfl) hE hA hS [0, 1] rfl rfl [xo, st] rfl rfl (ci := 5) rfl (q0 := 0) rfl (Nat.le_of_ble_eq_true rfl) hl.1 dX8_needs_23 (fun H locs hP _ hS => ?_)
      have hP : va_P E.1 vwCl [(xo, .inr (5, [.ref st, .ref sp, .ref th, .int (nI sn), .ref so, .ref sv, .ref pd, .int (nI ln), .int (nI ta), .int sg, .ref nu])), (st, .inl (E.2.1, 293, .inl g))] H := hP
      refine lv_istore_n (lv' := [(3, .int (mNd g p co)), (0, .ref xo), (1, .int (nI p)), (2, .int (nI co))]) hx hb dX8_needs_26 rfl hl (by decide) rfl (fun ls hl => ?_)
      refine lv_iload_n hx hb dX8_needs_27 rfl (lv_at hl 0 rfl) ?_
      refine rwS1 (rest := []) S (c_X8_isPoints l E (mNd g p co)) cd_X8_isPoints bw_789 ⟨Nat.le_of_ble_eq_true rfl, Nat.le_of_ble_eq_true rfl⟩ ⟨Nat.zero_le _, Nat.zero_le _⟩ hP (hDa.to rfl) hE hA hS [] rfl rfl [] rfl rfl (Nat.le_of_ble_eq_true rfl) hl.1 dX8_needs_28 (fun H locs hP _ hS => ?_)
      have hP : va_P E.1 vwCl [(xo, .inr (5, [.ref st, .ref sp, .ref th, .int (nI sn), .ref so, .ref sv, .ref pd, .int (nI ln), .int (nI ta), .int sg, .ref nu])), (st, .inl (E.2.1, 293, .inl g))] H := hP
      refine lv_if_eq (tgt := 38) hx hb dX8_needs_31 (by decide) (fun c_3 => ?_) (fun c_3 => ?_)
      · refine lv_bipush (v := (-6)) hx hb dX8_needs_38 (by decide) ?_
        exact hret _ _ _ _ _ _ (by first | rw [mNe, ix_nI (show p < 2 ^ 31 by omega), ix_nI (show co < 2 ^ 31 by omega), if_neg c_1, if_neg c_2, if_pos c_3] | rw [mNe, if_neg c_1, if_neg c_2, if_pos c_3] | simp only [mNe, ix_nI (show p < 2 ^ 31 by omega), ix_nI (show co < 2 ^ 31 by omega), if_neg c_1, if_neg c_2, if_pos c_3]) rfl rfl hP hS dX8_needs_40
      · refine lv_iload_n hx hb dX8_needs_34 rfl (lv_at hl 0 rfl) ?_
        refine lv_goto (tgt := 40) hx hb dX8_needs_35 (by decide) ?_
        exact hret _ _ _ _ _ _ (by first | rw [mNe, ix_nI (show p < 2 ^ 31 by omega), ix_nI (show co < 2 ^ 31 by omega), if_neg c_1, if_neg c_2, if_neg c_3] | rw [mNe, if_neg c_1, if_neg c_2, if_neg c_3] | simp only [mNe, ix_nI (show p < 2 ^ 31 by omega), ix_nI (show co < 2 ^ 31 by omega), if_neg c_1, if_neg c_2, if_neg c_3]) rfl rfl hP hS dX8_needs_40
    · refine lv_bipush (v := (-2)) hx hb dX8_needs_17 (by decide) ?_
      exact hret _ _ _ _ _ _ (by first | rw [mNe, ix_nI (show p < 2 ^ 31 by omega), if_neg c_1, if_pos c_2] | rw [mNe, if_neg c_1, if_pos c_2] | simp only [mNe, ix_nI (show p < 2 ^ 31 by omega), if_neg c_1, if_pos c_2]) rfl rfl hP hS dX8_needs_19
  · refine lv_iconst (v := (-1)) hx hb dX8_needs_8 (by decide) ?_
    exact hret _ _ _ _ _ _ (by rw [mNe, if_pos c_1]) rfl rfl hP hS dX8_needs_9

theorem cd_X8_ifLight : cdV RX8 yX8_ifLight cX8_ifLight 4 (some .int) 3 := ⟨⟨bw_1007, bw_65, by decide, by decide, by decide +kernel⟩, bw_1005, bw_1006⟩
def mIf (g : Nat → Int32) (n : Nat) (x : Int32) (y : Int32) (z : Int32) : Int32 := if mIs g x = 0 then (-1) else if mIc y = 0 then (-2) else if mIp z = 0 then (-2) else mPr g (ix x) (ix y) z
set_option maxHeartbeats 4000000 in
set_option maxRecDepth 100000 in
theorem c_X8_ifLight (l : Launch) (E : EV) (xo : Nat) (st : Nat) (sp : Nat) (th : Nat) (so : Nat) (sv : Nat) (pd : Nat) (nu : Nat) (sn : Nat) (ln : Nat) (ta : Nat) (sg : Int32) (g : Nat → Int32) (n : Nat) (x : Int32) (y : Int32) (z : Int32) (hf : g 4 = nI n) (hn : n ≤ 20) : rcI l E yX8_ifLight cX8_ifLight 4 .int 4 [.ref xo, .int x, .int y, .int z] [(xo, .inr (5, [.ref st, .ref sp, .ref th, .int (nI sn), .ref so, .ref sv, .ref pd, .int (nI ln), .int (nI ta), .int sg, .ref nu])), (st, .inl (E.2.1, 293, .inl g))] (mIf g n x y z) [(xo, .inr (5, [.ref st, .ref sp, .ref th, .int (nI sn), .ref so, .ref sv, .ref pd, .int (nI ln), .int (nI ta), .int sg, .ref nu])), (st, .inl (E.2.1, 293, .inl g))] := by
  refine rcI_of (by decide) (Nat.le_of_ble_eq_true rfl) ?_
  intro pg e s m below meth c Q A ls S hP hD0 hE hA hl hret
  have hx := S.1
  have hb := S.2.1
  have hown := S.2.2.2.1
  have hts := S.2.2.2.2
  have hK := hE.1
  have hS : va_S A s.heap s.heap [] := va_S.rf
  have hDa : va_Da A [xo, st] := ⟨_, hD0, rfl⟩
  have hl : lv_has ls 4 [(0, .ref xo), (1, .int x), (2, .int y), (3, .int z)] := hl
  refine lv_aload_n hx hb dX8_ifLight_0 rfl (lv_at hl 0 rfl) ?_
  refine lv_iload_n hx hb dX8_ifLight_1 rfl (lv_at hl 1 rfl) ?_
  refine rwV1 (rest := []) S (c_X8_isShot l E xo st sp th so sv pd nu sn ln ta sg g x) cd_X8_isShot bw_808 ⟨Nat.le_of_ble_eq_true rfl, Nat.le_of_ble_eq_true rfl⟩ ⟨Nat.zero_le _, Nat.zero_le _⟩ hP (hDa.to rfl) hE hA hS [0, 1] rfl rfl [xo, st] rfl rfl (ci := 5) rfl (q0 := 0) rfl (Nat.le_of_ble_eq_true rfl) hl.1 dX8_ifLight_2 (fun H locs hP _ hS => ?_)
  have hP : va_P E.1 vwCl [(xo, .inr (5, [.ref st, .ref sp, .ref th, .int (nI sn), .ref so, .ref sv, .ref pd, .int (nI ln), .int (nI ta), .int sg, .ref nu])), (st, .inl (E.2.1, 293, .inl g))] H := hP
  refine lv_if_ne (tgt := 10) hx hb dX8_ifLight_5 (by decide) (fun c_1 => ?_) (fun c_1 => ?_)
  · obtain ⟨p, h9_p, rfl⟩ : ∃ p : Nat, p < n ∧ x = nI p := (mIs_of hf hn c_1)
    refine lv_iload_n hx hb dX8_ifLight_10 rfl (lv_at hl 2 rfl) ?_
    refine rwS1 (rest := []) S (c_X8_isColour l E y) cd_X8_isColour bw_824 ⟨Nat.le_of_ble_eq_true rfl, Nat.le_of_ble_eq_true rfl⟩ ⟨Nat.zero_le _, Nat.zero_le _⟩ hP (hDa.to rfl) hE hA hS [] rfl rfl [] rfl rfl (Nat.le_of_ble_eq_true rfl) hl.1 dX8_ifLight_11 (fun H locs hP _ hS => ?_)
    have hP : va_P E.1 vwCl [(xo, .inr (5, [.ref st, .ref sp, .ref th, .int (nI sn), .ref so, .ref sv, .ref pd, .int (nI ln), .int (nI ta), .int sg, .ref nu])), (st, .inl (E.2.1, 293, .inl g))] H := hP
    refine lv_if_eq (tgt := 34) hx hb dX8_ifLight_14 (by decide) (fun c_2 => ?_) (fun c_2 => ?_)
    · refine lv_bipush (v := (-2)) hx hb dX8_ifLight_34 (by decide) ?_
      exact hret _ _ _ _ _ _ (by first | rw [mIf, ix_nI (show p < 2 ^ 31 by omega), if_neg c_1, if_pos c_2] | rw [mIf, if_neg c_1, if_pos c_2] | simp only [mIf, ix_nI (show p < 2 ^ 31 by omega), if_neg c_1, if_pos c_2]) rfl rfl hP hS dX8_ifLight_36
    · obtain ⟨co, h9_co, rfl⟩ : ∃ co : Nat, co < 3 ∧ y = nI co := (mIc_of c_2)
      refine lv_iload_n hx hb dX8_ifLight_17 rfl (lv_at hl 3 rfl) ?_
      refine rwS1 (rest := []) S (c_X8_isPoints l E z) cd_X8_isPoints bw_789 ⟨Nat.le_of_ble_eq_true rfl, Nat.le_of_ble_eq_true rfl⟩ ⟨Nat.zero_le _, Nat.zero_le _⟩ hP (hDa.to rfl) hE hA hS [] rfl rfl [] rfl rfl (Nat.le_of_ble_eq_true rfl) hl.1 dX8_ifLight_18 (fun H locs hP _ hS => ?_)
      have hP : va_P E.1 vwCl [(xo, .inr (5, [.ref st, .ref sp, .ref th, .int (nI sn), .ref so, .ref sv, .ref pd, .int (nI ln), .int (nI ta), .int sg, .ref nu])), (st, .inl (E.2.1, 293, .inl g))] H := hP
      refine lv_if_eq (tgt := 34) hx hb dX8_ifLight_21 (by decide) (fun c_3 => ?_) (fun c_3 => ?_)
      · refine lv_bipush (v := (-2)) hx hb dX8_ifLight_34 (by decide) ?_
        exact hret _ _ _ _ _ _ (by first | rw [mIf, ix_nI (show p < 2 ^ 31 by omega), ix_nI (show co < 2 ^ 31 by omega), if_neg c_1, if_neg c_2, if_pos c_3] | rw [mIf, if_neg c_1, if_neg c_2, if_pos c_3] | simp only [mIf, ix_nI (show p < 2 ^ 31 by omega), ix_nI (show co < 2 ^ 31 by omega), if_neg c_1, if_neg c_2, if_pos c_3]) rfl rfl hP hS dX8_ifLight_36
      · refine lv_aload_n hx hb dX8_ifLight_24 rfl (lv_at hl 0 rfl) ?_
        refine lv_iload_n hx hb dX8_ifLight_25 rfl (lv_at hl 1 rfl) ?_
        refine lv_iload_n hx hb dX8_ifLight_26 rfl (lv_at hl 2 rfl) ?_
        refine lv_iload_n hx hb dX8_ifLight_27 rfl (lv_at hl 3 rfl) ?_
        refine rwV3 (rest := []) S (c_X8_printed l E xo st sp th so sv pd nu sn ln ta sg g p co z (by omega) (by omega)) cd_X8_printed bw_906 ⟨Nat.le_of_ble_eq_true rfl, Nat.le_of_ble_eq_true rfl⟩ ⟨Nat.zero_le _, Nat.zero_le _⟩ hP (hDa.to rfl) hE hA hS [0, 1] rfl rfl [xo, st] rfl rfl (ci := 5) rfl (q0 := 0) rfl (Nat.le_of_ble_eq_true rfl) hl.1 dX8_ifLight_28 (fun H locs hP _ hS => ?_)
        have hP : va_P E.1 vwCl [(xo, .inr (5, [.ref st, .ref sp, .ref th, .int (nI sn), .ref so, .ref sv, .ref pd, .int (nI ln), .int (nI ta), .int sg, .ref nu])), (st, .inl (E.2.1, 293, .inl g))] H := hP
        refine lv_goto (tgt := 36) hx hb dX8_ifLight_31 (by decide) ?_
        exact hret _ _ _ _ _ _ (by first | rw [mIf, ix_nI (show p < 2 ^ 31 by omega), ix_nI (show co < 2 ^ 31 by omega), if_neg c_1, if_neg c_2, if_neg c_3] | rw [mIf, if_neg c_1, if_neg c_2, if_neg c_3] | simp only [mIf, ix_nI (show p < 2 ^ 31 by omega), ix_nI (show co < 2 ^ 31 by omega), if_neg c_1, if_neg c_2, if_neg c_3]) rfl rfl hP hS dX8_ifLight_36
  · refine lv_iconst (v := (-1)) hx hb dX8_ifLight_8 (by decide) ?_
    exact hret _ _ _ _ _ _ (by rw [mIf, if_pos c_1]) rfl rfl hP hS dX8_ifLight_9

def mTw (g : Nat → Int32) (co : Nat) : Nat → Int32
  | 0 => nI 0
  | k + 1 => if mTw g co k = 0 then (if mIp (mNd g k co) = 0 then nI 1 else nI 0) else nI 1
theorem mTw_a {g : Nat → Int32} {co k : Nat} (h : ¬ mTw g co k = 0) : mTw g co (k + 1) = nI 1 := by rw [mTw, if_neg h]
theorem mTw_p {g : Nat → Int32} {co k : Nat} (h : mTw g co k = 0) (h2 : mIp (mNd g k co) = 0) : mTw g co (k + 1) = nI 1 := by rw [mTw, if_pos h, if_pos h2]
theorem mTw_n {g : Nat → Int32} {co k : Nat} (h : mTw g co k = 0) (h2 : ¬ mIp (mNd g k co) = 0) : mTw g co (k + 1) = nI 0 := by rw [mTw, if_pos h, if_neg h2]
theorem mTw_z (g : Nat → Int32) (co : Nat) : ∀ k : Nat, narrow .boolean (.int (mTw g co k)) = .int (mTw g co k)
  | 0 => by show narrow .boolean (.int (nI 0)) = .int (nI 0); decide
  | k + 1 => by
    rw [mTw]
    repeat' split
    all_goals decide
theorem cd_X8_isTooWeak : cdV RX8 yX8_isTooWeak cX8_isTooWeak 4 (some .boolean) 1 := ⟨⟨bw_1015, bw_65, by decide, by decide, by decide +kernel⟩, bw_1014, bw_46⟩
set_option maxHeartbeats 4000000 in
set_option maxRecDepth 100000 in
theorem c_X8_isTooWeak (l : Launch) (E : EV) (xo : Nat) (st : Nat) (sp : Nat) (th : Nat) (so : Nat) (sv : Nat) (pd : Nat) (nu : Nat) (sn : Nat) (ln : Nat) (ta : Nat) (sg : Int32) (g : Nat → Int32) (n : Nat) (co : Nat) (hf : g 4 = nI n) (hn : n ≤ 20) (hco : co < 3) : rcI l E yX8_isTooWeak cX8_isTooWeak 4 .boolean 2 [.ref xo, .int (nI co)] [(xo, .inr (5, [.ref st, .ref sp, .ref th, .int (nI sn), .ref so, .ref sv, .ref pd, .int (nI ln), .int (nI ta), .int sg, .ref nu])), (st, .inl (E.2.1, 293, .inl g))] (mTw g co n) [(xo, .inr (5, [.ref st, .ref sp, .ref th, .int (nI sn), .ref so, .ref sv, .ref pd, .int (nI ln), .int (nI ta), .int sg, .ref nu])), (st, .inl (E.2.1, 293, .inl g))] := by
  refine rcI_of (by decide) (Nat.le_of_ble_eq_true rfl) ?_
  intro pg e s m below meth c Q A ls S hP hD0 hE hA hl hret
  have hx := S.1
  have hb := S.2.1
  have hown := S.2.2.2.1
  have hts := S.2.2.2.2
  have hK := hE.1
  have hS : va_S A s.heap s.heap [] := va_S.rf
  have hDa : va_Da A [xo, st] := ⟨_, hD0, rfl⟩
  have hl : lv_has ls 4 [(0, .ref xo), (1, .int (nI co))] := hl
  refine lv_iconst (v := nI 0) hx hb dX8_isTooWeak_0 (by decide) ?_
  refine lv_istore_n (lv' := [(2, .int (nI 0)), (0, .ref xo), (1, .int (nI co))]) hx hb dX8_isTooWeak_1 rfl hl (by decide) rfl (fun ls hl => ?_)
  refine lv_iconst (v := nI 0) hx hb dX8_isTooWeak_2 (by decide) ?_
  refine lv_istore_n (lv' := [(3, .int (nI 0)), (2, .int (nI 0)), (0, .ref xo), (1, .int (nI co))]) hx hb dX8_isTooWeak_3 rfl hl (by decide) rfl (fun ls hl => ?_)
  have loop4 : ∀ (fuel : Nat) (k : Nat), n - k < fuel → (k ≤ n) → ∀ (H : Heap) (locs : List Loc), va_P E.1 vwCl [(xo, .inr (5, [.ref st, .ref sp, .ref th, .int (nI sn), .ref so, .ref sv, .ref pd, .int (nI ln), .int (nI ta), .int sg, .ref nu])), (st, .inl (E.2.1, 293, .inl g))] H → va_S A s.heap H locs → ∀ ls : Array Slot, lv_has ls 4 [(3, .int (nI k)), (2, .int (mTw g co k)), (0, .ref xo), (1, .int (nI co))] → W pg l e (rq 2) s m ([.ref xo, .int (nI co)] : List Value).toArray below meth c H locs 0 0 Q (F0 m 4 ls []) := by
    intro fuel
    induction fuel with
    | zero => intro k h9; exact absurd h9 (Nat.not_lt_zero _)
    | succ fuel ih4 =>
      intro k hfu4 hk H locs hP hS ls hl
      refine lv_iload_n hx hb dX8_isTooWeak_4 rfl (lv_at hl 0 rfl) ?_
      refine lv_aload_n hx hb dX8_isTooWeak_5 rfl (lv_at hl 2 rfl) ?_
      refine va_get (D := E.1) (ci := 5) (v := .ref st) (C := RX8) (T := TX8) (N := 11) hx hb hts inb_X8 hown hK hP 0 rfl rfl 0 (by decide) (hts _ bw_710) (fun _ h9 => h9) rfl dX8_isTooWeak_6 ?_
      refine lv_iconst (v := nI 4) hx hb dX8_isTooWeak_9 (by decide) ?_
      refine rn_iald (i := 4) hx hb hK hP 1 0 rfl rfl (by omega) (by omega) dX8_isTooWeak_10 ?_
      refine W.eq (congrArg (fun z => F0 m 11 ls (.int z :: [.int (nI k)])) (show g 4 = nI n from hf)) ?_
      refine rn_icmp_ge (a := k) (b := n) (tgt := 42) hx hb (by omega) (by omega) dX8_isTooWeak_11 (by decide) (fun c_1 => ?_) (fun c_1 => ?_)
      · have hex : n = k := by omega
        subst hex
        refine lv_iload_n hx hb dX8_isTooWeak_42 rfl (lv_at hl 1 rfl) ?_
        exact hret _ _ _ _ _ _ rfl rfl (by first | (with_reducible exact mTw_z _ _ _) | assumption) hP hS dX8_isTooWeak_43
      · refine lv_iload_n hx hb dX8_isTooWeak_14 rfl (lv_at hl 1 rfl) ?_
        refine lv_if_ne (tgt := 30) hx hb dX8_isTooWeak_15 (by decide) (fun c_2 => ?_) (fun c_2 => ?_)
        · refine lv_iconst (v := nI 1) hx hb dX8_isTooWeak_30 (by decide) ?_
          refine lv_goto (tgt := 35) hx hb dX8_isTooWeak_31 (by decide) ?_
          refine lv_istore_n (lv' := [(2, .int (nI 1)), (3, .int (nI k)), (0, .ref xo), (1, .int (nI co))]) hx hb dX8_isTooWeak_35 rfl hl (by decide) rfl (fun ls hl => ?_)
          refine rn_inc (a := k) (d := 1) (lv' := [(3, .int (nI (k + 1))), (2, .int (nI 1)), (0, .ref xo), (1, .int (nI co))]) hx hb dX8_isTooWeak_36 hl (k := 1) rfl (by decide) (by decide) rfl (fun ls hl => ?_)
          refine lv_goto (tgt := 4) hx hb dX8_isTooWeak_39 (by decide) ?_
          have hl : lv_has ls 4 [(3, .int (nI (k + 1))), (2, .int (nI 1)), (0, .ref xo), (1, .int (nI co))] := lv_sub hl [0, 1, 2, 3] rfl
          have hl : lv_has ls 4 [(3, .int (nI (k + 1))), (2, .int (mTw g co (k + 1))), (0, .ref xo), (1, .int (nI co))] := by first | (rw [mTw_a c_2]; exact hl) | (rw [mTw_p c_1 c_2]; exact hl) | (rw [mTw_n c_1 c_2]; exact hl)
          exact ih4 (k + 1) (by omega) (by omega) _ _ hP hS _ hl
        · refine lv_aload_n hx hb dX8_isTooWeak_18 rfl (lv_at hl 2 rfl) ?_
          refine lv_iload_n hx hb dX8_isTooWeak_19 rfl (lv_at hl 0 rfl) ?_
          refine lv_iload_n hx hb dX8_isTooWeak_20 rfl (lv_at hl 3 rfl) ?_
          refine rwV2 (rest := []) S (c_X8_needed l E xo st sp th so sv pd nu sn ln ta sg g k co (by omega) hco) cd_X8_needed bw_1000 ⟨Nat.le_of_ble_eq_true rfl, Nat.le_of_ble_eq_true rfl⟩ ⟨Nat.zero_le _, Nat.zero_le _⟩ hP (hDa.to rfl) hE hA hS [0, 1] rfl rfl [xo, st] rfl rfl (ci := 5) rfl (q0 := 0) rfl (Nat.le_of_ble_eq_true rfl) hl.1 dX8_isTooWeak_21 (fun H locs hP _ hS => ?_)
          have hP : va_P E.1 vwCl [(xo, .inr (5, [.ref st, .ref sp, .ref th, .int (nI sn), .ref so, .ref sv, .ref pd, .int (nI ln), .int (nI ta), .int sg, .ref nu])), (st, .inl (E.2.1, 293, .inl g))] H := hP
          refine rwS1 (rest := []) S (c_X8_isPoints l E (mNd g k co)) cd_X8_isPoints bw_789 ⟨Nat.le_of_ble_eq_true rfl, Nat.le_of_ble_eq_true rfl⟩ ⟨Nat.zero_le _, Nat.zero_le _⟩ hP (hDa.to rfl) hE hA hS [] rfl rfl [] rfl rfl (Nat.le_of_ble_eq_true rfl) hl.1 dX8_isTooWeak_24 (fun H locs hP _ hS => ?_)
          have hP : va_P E.1 vwCl [(xo, .inr (5, [.ref st, .ref sp, .ref th, .int (nI sn), .ref so, .ref sv, .ref pd, .int (nI ln), .int (nI ta), .int sg, .ref nu])), (st, .inl (E.2.1, 293, .inl g))] H := hP
          refine lv_if_ne (tgt := 34) hx hb dX8_isTooWeak_27 (by decide) (fun c_3 => ?_) (fun c_3 => ?_)
          · refine lv_iconst (v := nI 0) hx hb dX8_isTooWeak_34 (by decide) ?_
            refine lv_istore_n (lv' := [(2, .int (nI 0)), (3, .int (nI k)), (0, .ref xo), (1, .int (nI co))]) hx hb dX8_isTooWeak_35 rfl hl (by decide) rfl (fun ls hl => ?_)
            refine rn_inc (a := k) (d := 1) (lv' := [(3, .int (nI (k + 1))), (2, .int (nI 0)), (0, .ref xo), (1, .int (nI co))]) hx hb dX8_isTooWeak_36 hl (k := 1) rfl (by decide) (by decide) rfl (fun ls hl => ?_)
            refine lv_goto (tgt := 4) hx hb dX8_isTooWeak_39 (by decide) ?_
            have hl : lv_has ls 4 [(3, .int (nI (k + 1))), (2, .int (nI 0)), (0, .ref xo), (1, .int (nI co))] := lv_sub hl [0, 1, 2, 3] rfl
            have hl : lv_has ls 4 [(3, .int (nI (k + 1))), (2, .int (mTw g co (k + 1))), (0, .ref xo), (1, .int (nI co))] := by first | (rw [mTw_a c_3]; exact hl) | (rw [mTw_p c_2 c_3]; exact hl) | (rw [mTw_n c_2 c_3]; exact hl)
            exact ih4 (k + 1) (by omega) (by omega) _ _ hP hS _ hl
          · refine lv_iconst (v := nI 1) hx hb dX8_isTooWeak_30 (by decide) ?_
            refine lv_goto (tgt := 35) hx hb dX8_isTooWeak_31 (by decide) ?_
            refine lv_istore_n (lv' := [(2, .int (nI 1)), (3, .int (nI k)), (0, .ref xo), (1, .int (nI co))]) hx hb dX8_isTooWeak_35 rfl hl (by decide) rfl (fun ls hl => ?_)
            refine rn_inc (a := k) (d := 1) (lv' := [(3, .int (nI (k + 1))), (2, .int (nI 1)), (0, .ref xo), (1, .int (nI co))]) hx hb dX8_isTooWeak_36 hl (k := 1) rfl (by decide) (by decide) rfl (fun ls hl => ?_)
            refine lv_goto (tgt := 4) hx hb dX8_isTooWeak_39 (by decide) ?_
            have hl : lv_has ls 4 [(3, .int (nI (k + 1))), (2, .int (nI 1)), (0, .ref xo), (1, .int (nI co))] := lv_sub hl [0, 1, 2, 3] rfl
            have hl : lv_has ls 4 [(3, .int (nI (k + 1))), (2, .int (mTw g co (k + 1))), (0, .ref xo), (1, .int (nI co))] := by first | (rw [mTw_a c_3]; exact hl) | (rw [mTw_p c_2 c_3]; exact hl) | (rw [mTw_n c_2 c_3]; exact hl)
            exact ih4 (k + 1) (by omega) (by omega) _ _ hP hS _ hl
  have hl : lv_has ls 4 [(3, .int (nI 0)), (2, .int (mTw g co 0)), (0, .ref xo), (1, .int (nI co))] := lv_sub hl [0, 1, 2, 3] rfl
  exact loop4 _ 0 (Nat.lt_succ_self _) (by omega) _ _ hP hS _ hl

/-- a colour's age k hours more -/
def mAg (g : Nat → Int32) (co k : Nat) : Nat → Int32 := upd g (7 + co) (g (7 + co) + nI k)
theorem upd_i (g : Nat → Int32) (i : Nat) : upd g i (g i) = g := by
  funext j; simp only [upd]; split
  · rename_i h; rw [h]
  · rfl
theorem upd_uu (g : Nat → Int32) (i : Nat) (a b : Int32) : upd (upd g i a) i b = upd g i b := by
  funext j; simp only [upd]; split <;> rfl
theorem mAg_0 (g : Nat → Int32) (co : Nat) : mAg g co 0 = g := by
  rw [mAg, nI_0, Int32.add_zero, upd_i]
theorem mAg_s (g : Nat → Int32) (co k : Nat) : upd (mAg g co k) (7 + co) (g (7 + co) + nI (k + 1)) = mAg g co (k + 1) := upd_uu _ _ _ _
theorem mAg_e (g : Nat → Int32) (co k : Nat) : upd (mAg g co k) (7 + co) (g (7 + co)) = g := by rw [mAg, upd_uu, upd_i]
theorem mAg_4 (g : Nat → Int32) (co k : Nat) : mAg g co k 4 = g 4 := pk_un (by omega)
def mHl (g : Nat → Int32) (n co : Nat) : Int32 := if ffn (fun i => mTw (mAg g co i) co n) 501 < 501 then nI (ffn (fun i => mTw (mAg g co i) co n) 501) else -6
def mLs (g : Nat → Int32) (n : Nat) (y : Int32) : Int32 := if mIc y = 0 then -2 else mHl g n (ix y)
theorem mLs_p {g : Nat → Int32} {n co : Nat} (h : ¬ mIc (nI co) = 0) (hco : co < 3) : mLs g n (nI co) = mHl g n co := by rw [mLs, if_neg h, ix_nI (by omega)]
theorem cd_X8_lasts : cdV RX8 yX8_lasts cX8_lasts 4 (some .int) 1 := ⟨⟨bw_1011, bw_65, by decide, by decide, by decide +kernel⟩, bw_1009, bw_1010⟩
set_option maxHeartbeats 4000000 in
set_option maxRecDepth 100000 in
theorem c_X8_lasts (l : Launch) (E : EV) (xo : Nat) (st : Nat) (sp : Nat) (th : Nat) (so : Nat) (sv : Nat) (pd : Nat) (nu : Nat) (sn : Nat) (ln : Nat) (ta : Nat) (sg : Int32) (g : Nat → Int32) (n : Nat) (y : Int32) (hf : g 4 = nI n) (hn : n ≤ 20) : rcI l E yX8_lasts cX8_lasts 4 .int 3 [.ref xo, .int y] [(xo, .inr (5, [.ref st, .ref sp, .ref th, .int (nI sn), .ref so, .ref sv, .ref pd, .int (nI ln), .int (nI ta), .int sg, .ref nu])), (st, .inl (E.2.1, 293, .inl g))] (mLs g n y) [(xo, .inr (5, [.ref st, .ref sp, .ref th, .int (nI sn), .ref so, .ref sv, .ref pd, .int (nI ln), .int (nI ta), .int sg, .ref nu])), (st, .inl (E.2.1, 293, .inl g))] := by
  refine rcI_of (by decide) (Nat.le_of_ble_eq_true rfl) ?_
  intro pg e s m below meth c Q A ls S hP hD0 hE hA hl hret
  have hx := S.1
  have hb := S.2.1
  have hown := S.2.2.2.1
  have hts := S.2.2.2.2
  have hK := hE.1
  have hS : va_S A s.heap s.heap [] := va_S.rf
  have hDa : va_Da A [xo, st] := ⟨_, hD0, rfl⟩
  have hl : lv_has ls 4 [(0, .ref xo), (1, .int y)] := hl
  refine lv_iload_n hx hb dX8_lasts_0 rfl (lv_at hl 1 rfl) ?_
  refine rwS1 (rest := []) S (c_X8_isColour l E y) cd_X8_isColour bw_824 ⟨Nat.le_of_ble_eq_true rfl, Nat.le_of_ble_eq_true rfl⟩ ⟨Nat.zero_le _, Nat.zero_le _⟩ hP (hDa.to rfl) hE hA hS [] rfl rfl [] rfl rfl (Nat.le_of_ble_eq_true rfl) hl.1 dX8_lasts_1 (fun H locs hP _ hS => ?_)
  have hP : va_P E.1 vwCl [(xo, .inr (5, [.ref st, .ref sp, .ref th, .int (nI sn), .ref so, .ref sv, .ref pd, .int (nI ln), .int (nI ta), .int sg, .ref nu])), (st, .inl (E.2.1, 293, .inl g))] H := hP
  refine lv_if_ne (tgt := 10) hx hb dX8_lasts_4 (by decide) (fun c_1 => ?_) (fun c_1 => ?_)
  · obtain ⟨co, h9_co, rfl⟩ : ∃ co : Nat, co < 3 ∧ y = nI co := (mIc_of c_1)
    refine lv_aload_n hx hb dX8_lasts_10 rfl (lv_at hl 0 rfl) ?_
    refine va_get (D := E.1) (ci := 5) (v := .ref st) (C := RX8) (T := TX8) (N := 11) hx hb hts inb_X8 hown hK hP 0 rfl rfl 0 (by decide) (hts _ bw_710) (fun _ h9 => h9) rfl dX8_lasts_11 ?_
    refine lv_bipush (v := nI 7) hx hb dX8_lasts_14 (by decide) ?_
    refine lv_iload_n hx hb dX8_lasts_16 rfl (lv_at hl 1 rfl) ?_
    refine rn_add (a := 7) (b := co) hx hb dX8_lasts_17 ?_
    refine rn_iald (i := 7 + co) hx hb hK hP 1 0 rfl rfl (by omega) (by omega) dX8_lasts_18 ?_
    refine lv_istore_n (lv' := [(2, .int (g (7 + co))), (0, .ref xo), (1, .int (nI co))]) hx hb dX8_lasts_19 rfl hl (by decide) rfl (fun ls hl => ?_)
    refine lv_iconst (v := nI 0) hx hb dX8_lasts_20 (by decide) ?_
    refine lv_istore_n (lv' := [(3, .int (nI 0)), (2, .int (g (7 + co))), (0, .ref xo), (1, .int (nI co))]) hx hb dX8_lasts_21 rfl hl (by decide) rfl (fun ls hl => ?_)
    have loop22 : ∀ (fuel : Nat) (k : Nat), 501 - k < fuel → (k ≤ 501) → (∀ i, i < k → mTw (mAg g co i) co n = 0) → ∀ (H : Heap) (locs : List Loc), va_P E.1 vwCl [(xo, .inr (5, [.ref st, .ref sp, .ref th, .int (nI sn), .ref so, .ref sv, .ref pd, .int (nI ln), .int (nI ta), .int sg, .ref nu])), (st, .inl (E.2.1, 293, .inl (mAg g co k)))] H → va_S A s.heap H locs → ∀ ls : Array Slot, lv_has ls 4 [(3, .int (nI k)), (2, .int (g (7 + co))), (0, .ref xo), (1, .int (nI co))] → W pg l e (rq 3) s m ([.ref xo, .int (nI co)] : List Value).toArray below meth c H locs 0 0 Q (F0 m 22 ls []) := by
      intro fuel
      induction fuel with
      | zero => intro k h9; exact absurd h9 (Nat.not_lt_zero _)
      | succ fuel ih22 =>
        intro k hfu22 hk hall H locs hP hS ls hl
        refine lv_iload_n hx hb dX8_lasts_22 rfl (lv_at hl 0 rfl) ?_
        refine lv_sipush (v := nI 500) hx hb dX8_lasts_23 (by decide) ?_
        refine rn_icmp_gt (a := k) (b := 500) (tgt := 55) hx hb (by omega) (by omega) dX8_lasts_26 (by decide) (fun c_2 => ?_) (fun c_2 => ?_)
        · refine lv_aload_n hx hb dX8_lasts_55 rfl (lv_at hl 2 rfl) ?_
          refine va_get (D := E.1) (ci := 5) (v := .ref st) (C := RX8) (T := TX8) (N := 11) hx hb hts inb_X8 hown hK hP 0 rfl rfl 0 (by decide) (hts _ bw_710) (fun _ h9 => h9) rfl dX8_lasts_56 ?_
          refine lv_bipush (v := nI 7) hx hb dX8_lasts_59 (by decide) ?_
          refine lv_iload_n hx hb dX8_lasts_61 rfl (lv_at hl 3 rfl) ?_
          refine rn_add (a := 7) (b := co) hx hb dX8_lasts_62 ?_
          refine lv_iload_n hx hb dX8_lasts_63 rfl (lv_at hl 1 rfl) ?_
          refine rn_iast (i := 7 + co) hx hb hK hP (hDa.to rfl) hS 1 0 rfl rfl (by omega) (by omega) dX8_lasts_64 (fun H locs hP _ hS => ?_)
          have hP : va_P E.1 vwCl [(xo, .inr (5, [.ref st, .ref sp, .ref th, .int (nI sn), .ref so, .ref sv, .ref pd, .int (nI ln), .int (nI ta), .int sg, .ref nu])), (st, .inl (E.2.1, 293, .inl (upd (mAg g co k) (7 + co) (g (7 + co)))))] H := hP
          refine lv_iload_n hx hb dX8_lasts_65 rfl (lv_at hl 0 rfl) ?_
          refine lv_sipush (v := nI 500) hx hb dX8_lasts_66 (by decide) ?_
          refine rn_icmp_le (a := k) (b := 500) (tgt := 77) hx hb (by omega) (by omega) dX8_lasts_69 (by decide) (fun c_3 => absurd c_3 (by omega)) (fun c_3 => ?_)
          refine lv_bipush (v := (-6)) hx hb dX8_lasts_72 (by decide) ?_
          refine lv_goto (tgt := 78) hx hb dX8_lasts_74 (by decide) ?_
          exact hret _ _ _ _ _ _ (by rw [mLs_p c_1 (by omega), mHl, ffn_no (show ∀ i, i < 501 → _ from fun i hi => hall i (by omega)), if_neg (by omega)]) (by rw [mAg_e]) rfl hP hS dX8_lasts_78
        · refine lv_aload_n hx hb dX8_lasts_29 rfl (lv_at hl 2 rfl) ?_
          refine lv_iload_n hx hb dX8_lasts_30 rfl (lv_at hl 3 rfl) ?_
          refine rwV1 (rest := []) S (c_X8_isTooWeak l E xo st sp th so sv pd nu sn ln ta sg (mAg g co k) n co ((mAg_4 g co k).trans hf) hn (by omega)) cd_X8_isTooWeak bw_1012 ⟨Nat.le_of_ble_eq_true rfl, Nat.le_of_ble_eq_true rfl⟩ ⟨Nat.zero_le _, Nat.zero_le _⟩ hP (hDa.to rfl) hE hA hS [0, 1] rfl rfl [xo, st] rfl rfl (ci := 5) rfl (q0 := 0) rfl (Nat.le_of_ble_eq_true rfl) hl.1 dX8_lasts_31 (fun H locs hP _ hS => ?_)
          have hP : va_P E.1 vwCl [(xo, .inr (5, [.ref st, .ref sp, .ref th, .int (nI sn), .ref so, .ref sv, .ref pd, .int (nI ln), .int (nI ta), .int sg, .ref nu])), (st, .inl (E.2.1, 293, .inl (mAg g co k)))] H := hP
          refine lv_if_ne (tgt := 55) hx hb dX8_lasts_34 (by decide) (fun c_4 => ?_) (fun c_4 => ?_)
          · refine lv_aload_n hx hb dX8_lasts_55 rfl (lv_at hl 2 rfl) ?_
            refine va_get (D := E.1) (ci := 5) (v := .ref st) (C := RX8) (T := TX8) (N := 11) hx hb hts inb_X8 hown hK hP 0 rfl rfl 0 (by decide) (hts _ bw_710) (fun _ h9 => h9) rfl dX8_lasts_56 ?_
            refine lv_bipush (v := nI 7) hx hb dX8_lasts_59 (by decide) ?_
            refine lv_iload_n hx hb dX8_lasts_61 rfl (lv_at hl 3 rfl) ?_
            refine rn_add (a := 7) (b := co) hx hb dX8_lasts_62 ?_
            refine lv_iload_n hx hb dX8_lasts_63 rfl (lv_at hl 1 rfl) ?_
            refine rn_iast (i := 7 + co) hx hb hK hP (hDa.to rfl) hS 1 0 rfl rfl (by omega) (by omega) dX8_lasts_64 (fun H locs hP _ hS => ?_)
            have hP : va_P E.1 vwCl [(xo, .inr (5, [.ref st, .ref sp, .ref th, .int (nI sn), .ref so, .ref sv, .ref pd, .int (nI ln), .int (nI ta), .int sg, .ref nu])), (st, .inl (E.2.1, 293, .inl (upd (mAg g co k) (7 + co) (g (7 + co)))))] H := hP
            refine lv_iload_n hx hb dX8_lasts_65 rfl (lv_at hl 0 rfl) ?_
            refine lv_sipush (v := nI 500) hx hb dX8_lasts_66 (by decide) ?_
            refine rn_icmp_le (a := k) (b := 500) (tgt := 77) hx hb (by omega) (by omega) dX8_lasts_69 (by decide) (fun c_5 => ?_) (fun c_5 => absurd c_5 (by omega))
            refine lv_iload_n hx hb dX8_lasts_77 rfl (lv_at hl 0 rfl) ?_
            exact hret _ _ _ _ _ _ (by rw [mLs_p c_1 (by omega), mHl, ffn_at hall c_4 (by omega), if_pos (by omega)]) (by rw [mAg_e]) rfl hP hS dX8_lasts_78
          · refine rn_inc (a := k) (d := 1) (lv' := [(3, .int (nI (k + 1))), (2, .int (g (7 + co))), (0, .ref xo), (1, .int (nI co))]) hx hb dX8_lasts_37 hl (k := 0) rfl (by decide) (by decide) rfl (fun ls hl => ?_)
            refine lv_aload_n hx hb dX8_lasts_40 rfl (lv_at hl 2 rfl) ?_
            refine va_get (D := E.1) (ci := 5) (v := .ref st) (C := RX8) (T := TX8) (N := 11) hx hb hts inb_X8 hown hK hP 0 rfl rfl 0 (by decide) (hts _ bw_710) (fun _ h9 => h9) rfl dX8_lasts_41 ?_
            refine lv_bipush (v := nI 7) hx hb dX8_lasts_44 (by decide) ?_
            refine lv_iload_n hx hb dX8_lasts_46 rfl (lv_at hl 3 rfl) ?_
            refine rn_add (a := 7) (b := co) hx hb dX8_lasts_47 ?_
            refine lv_iload_n hx hb dX8_lasts_48 rfl (lv_at hl 1 rfl) ?_
            refine lv_iload_n hx hb dX8_lasts_49 rfl (lv_at hl 0 rfl) ?_
            refine lv_iadd hx hb dX8_lasts_50 ?_
            refine rn_iast (i := 7 + co) hx hb hK hP (hDa.to rfl) hS 1 0 rfl rfl (by omega) (by omega) dX8_lasts_51 (fun H locs hP _ hS => ?_)
            have hP : va_P E.1 vwCl [(xo, .inr (5, [.ref st, .ref sp, .ref th, .int (nI sn), .ref so, .ref sv, .ref pd, .int (nI ln), .int (nI ta), .int sg, .ref nu])), (st, .inl (E.2.1, 293, .inl (upd (mAg g co k) (7 + co) (g (7 + co) + (nI (k + 1))))))] H := hP
            refine lv_goto (tgt := 22) hx hb dX8_lasts_52 (by decide) ?_
            have hP : va_P E.1 vwCl [(xo, .inr (5, [.ref st, .ref sp, .ref th, .int (nI sn), .ref so, .ref sv, .ref pd, .int (nI ln), .int (nI ta), .int sg, .ref nu])), (st, .inl (E.2.1, 293, .inl (mAg g co (k + 1))))] H := by rw [mAg_s] at hP; exact hP
            have hl : lv_has ls 4 [(3, .int (nI (k + 1))), (2, .int (g (7 + co))), (0, .ref xo), (1, .int (nI co))] := lv_sub hl [0, 1, 2, 3] rfl
            exact ih22 (k + 1) (by omega) (by omega) (lt_s hall c_4) _ _ hP hS _ hl
    have hP : va_P E.1 vwCl [(xo, .inr (5, [.ref st, .ref sp, .ref th, .int (nI sn), .ref so, .ref sv, .ref pd, .int (nI ln), .int (nI ta), .int sg, .ref nu])), (st, .inl (E.2.1, 293, .inl (mAg g co 0)))] H := by rw [mAg_0]; exact hP
    have hl : lv_has ls 4 [(3, .int (nI 0)), (2, .int (g (7 + co))), (0, .ref xo), (1, .int (nI co))] := lv_sub hl [0, 1, 2, 3] rfl
    exact loop22 _ 0 (Nat.lt_succ_self _) (by omega) (fun i h9 => absurd h9 (Nat.not_lt_zero i)) _ _ hP hS _ hl
  · refine lv_bipush (v := (-2)) hx hb dX8_lasts_7 (by decide) ?_
    exact hret _ _ _ _ _ _ (by rw [mLs, if_pos c_1]) rfl rfl hP hS dX8_lasts_9

def mSo (g : Nat → Int32) (co : Nat) : Nat → Int32
  | 0 => nI 0
  | k + 1 => mSo g co k + mAb (mOn g k co)
theorem cd_X8_allOff : cdV RX8 yX8_allOff cX8_allOff 4 (some .int) 1 := ⟨⟨bw_1023, bw_65, by decide, by decide, by decide +kernel⟩, bw_1022, bw_47⟩
set_option maxHeartbeats 4000000 in
set_option maxRecDepth 100000 in
theorem c_X8_allOff (l : Launch) (E : EV) (xo : Nat) (st : Nat) (sp : Nat) (th : Nat) (so : Nat) (sv : Nat) (pd : Nat) (nu : Nat) (sn : Nat) (ln : Nat) (ta : Nat) (sg : Int32) (g : Nat → Int32) (n : Nat) (co : Nat) (hf : g 4 = nI n) (hn : n ≤ 20) (hco : co < 3) : rcI l E yX8_allOff cX8_allOff 4 .int 4 [.ref xo, .int (nI co)] [(xo, .inr (5, [.ref st, .ref sp, .ref th, .int (nI sn), .ref so, .ref sv, .ref pd, .int (nI ln), .int (nI ta), .int sg, .ref nu])), (st, .inl (E.2.1, 293, .inl g))] (mSo g co n) [(xo, .inr (5, [.ref st, .ref sp, .ref th, .int (nI sn), .ref so, .ref sv, .ref pd, .int (nI ln), .int (nI ta), .int sg, .ref nu])), (st, .inl (E.2.1, 293, .inl g))] := by
  refine rcI_of (by decide) (Nat.le_of_ble_eq_true rfl) ?_
  intro pg e s m below meth c Q A ls S hP hD0 hE hA hl hret
  have hx := S.1
  have hb := S.2.1
  have hown := S.2.2.2.1
  have hts := S.2.2.2.2
  have hK := hE.1
  have hS : va_S A s.heap s.heap [] := va_S.rf
  have hDa : va_Da A [xo, st] := ⟨_, hD0, rfl⟩
  have hl : lv_has ls 4 [(0, .ref xo), (1, .int (nI co))] := hl
  refine lv_iconst (v := nI 0) hx hb dX8_allOff_0 (by decide) ?_
  refine lv_istore_n (lv' := [(2, .int (nI 0)), (0, .ref xo), (1, .int (nI co))]) hx hb dX8_allOff_1 rfl hl (by decide) rfl (fun ls hl => ?_)
  refine lv_iconst (v := nI 0) hx hb dX8_allOff_2 (by decide) ?_
  refine lv_istore_n (lv' := [(3, .int (nI 0)), (2, .int (nI 0)), (0, .ref xo), (1, .int (nI co))]) hx hb dX8_allOff_3 rfl hl (by decide) rfl (fun ls hl => ?_)
  have loop4 : ∀ (fuel : Nat) (k : Nat), n - k < fuel → (k ≤ n) → ∀ (H : Heap) (locs : List Loc), va_P E.1 vwCl [(xo, .inr (5, [.ref st, .ref sp, .ref th, .int (nI sn), .ref so, .ref sv, .ref pd, .int (nI ln), .int (nI ta), .int sg, .ref nu])), (st, .inl (E.2.1, 293, .inl g))] H → va_S A s.heap H locs → ∀ ls : Array Slot, lv_has ls 4 [(3, .int (nI k)), (2, .int (mSo g co k)), (0, .ref xo), (1, .int (nI co))] → W pg l e (rq 4) s m ([.ref xo, .int (nI co)] : List Value).toArray below meth c H locs 0 0 Q (F0 m 4 ls []) := by
    intro fuel
    induction fuel with
    | zero => intro k h9; exact absurd h9 (Nat.not_lt_zero _)
    | succ fuel ih4 =>
      intro k hfu4 hk H locs hP hS ls hl
      refine lv_iload_n hx hb dX8_allOff_4 rfl (lv_at hl 0 rfl) ?_
      refine lv_aload_n hx hb dX8_allOff_5 rfl (lv_at hl 2 rfl) ?_
      refine va_get (D := E.1) (ci := 5) (v := .ref st) (C := RX8) (T := TX8) (N := 11) hx hb hts inb_X8 hown hK hP 0 rfl rfl 0 (by decide) (hts _ bw_710) (fun _ h9 => h9) rfl dX8_allOff_6 ?_
      refine lv_iconst (v := nI 4) hx hb dX8_allOff_9 (by decide) ?_
      refine rn_iald (i := 4) hx hb hK hP 1 0 rfl rfl (by omega) (by omega) dX8_allOff_10 ?_
      refine W.eq (congrArg (fun z => F0 m 11 ls (.int z :: [.int (nI k)])) (show g 4 = nI n from hf)) ?_
      refine rn_icmp_ge (a := k) (b := n) (tgt := 32) hx hb (by omega) (by omega) dX8_allOff_11 (by decide) (fun c_1 => ?_) (fun c_1 => ?_)
      · have hex : n = k := by omega
        subst hex
        refine lv_iload_n hx hb dX8_allOff_32 rfl (lv_at hl 1 rfl) ?_
        exact hret _ _ _ _ _ _ rfl rfl rfl hP hS dX8_allOff_33
      · refine lv_iload_n hx hb dX8_allOff_14 rfl (lv_at hl 1 rfl) ?_
        refine lv_aload_n hx hb dX8_allOff_15 rfl (lv_at hl 2 rfl) ?_
        refine lv_iload_n hx hb dX8_allOff_16 rfl (lv_at hl 0 rfl) ?_
        refine lv_iload_n hx hb dX8_allOff_17 rfl (lv_at hl 3 rfl) ?_
        refine rwV2 (rest := [.int (mSo g co k)]) S (c_X8_off l E xo st sp th so sv pd nu sn ln ta sg g k co (by omega) hco) cd_X8_off bw_898 ⟨Nat.le_of_ble_eq_true rfl, Nat.le_of_ble_eq_true rfl⟩ ⟨Nat.zero_le _, Nat.zero_le _⟩ hP (hDa.to rfl) hE hA hS [0, 1] rfl rfl [xo, st] rfl rfl (ci := 5) rfl (q0 := 0) rfl (Nat.le_of_ble_eq_true rfl) hl.1 dX8_allOff_18 (fun H locs hP _ hS => ?_)
        have hP : va_P E.1 vwCl [(xo, .inr (5, [.ref st, .ref sp, .ref th, .int (nI sn), .ref so, .ref sv, .ref pd, .int (nI ln), .int (nI ta), .int sg, .ref nu])), (st, .inl (E.2.1, 293, .inl g))] H := hP
        refine rwS1 (rest := [.int (mSo g co k)]) S (c_X8_sizeOf l E (mOn g k co)) cd_X8_sizeOf bw_851 ⟨Nat.le_of_ble_eq_true rfl, Nat.le_of_ble_eq_true rfl⟩ ⟨Nat.zero_le _, Nat.zero_le _⟩ hP (hDa.to rfl) hE hA hS [] rfl rfl [] rfl rfl (Nat.le_of_ble_eq_true rfl) hl.1 dX8_allOff_21 (fun H locs hP _ hS => ?_)
        have hP : va_P E.1 vwCl [(xo, .inr (5, [.ref st, .ref sp, .ref th, .int (nI sn), .ref so, .ref sv, .ref pd, .int (nI ln), .int (nI ta), .int sg, .ref nu])), (st, .inl (E.2.1, 293, .inl g))] H := hP
        refine lv_iadd hx hb dX8_allOff_24 ?_
        refine lv_istore_n (lv' := [(2, .int (mSo g co k + (mAb (mOn g k co)))), (3, .int (nI k)), (0, .ref xo), (1, .int (nI co))]) hx hb dX8_allOff_25 rfl hl (by decide) rfl (fun ls hl => ?_)
        refine rn_inc (a := k) (d := 1) (lv' := [(3, .int (nI (k + 1))), (2, .int (mSo g co k + (mAb (mOn g k co)))), (0, .ref xo), (1, .int (nI co))]) hx hb dX8_allOff_26 hl (k := 1) rfl (by decide) (by decide) rfl (fun ls hl => ?_)
        refine lv_goto (tgt := 4) hx hb dX8_allOff_29 (by decide) ?_
        have hl : lv_has ls 4 [(3, .int (nI (k + 1))), (2, .int (mSo g co (k + 1))), (0, .ref xo), (1, .int (nI co))] := lv_sub hl [0, 1, 2, 3] rfl
        exact ih4 (k + 1) (by omega) (by omega) _ _ hP hS _ hl
  have hl : lv_has ls 4 [(3, .int (nI 0)), (2, .int (mSo g co 0)), (0, .ref xo), (1, .int (nI co))] := lv_sub hl [0, 1, 2, 3] rfl
  exact loop4 _ 0 (Nat.lt_succ_self _) (by omega) _ _ hP hS _ hl

def mTq (t : Nat) : Int32 := if t % 2 = 1 then nI ((t + 1) / 2) else -nI t / nI 2
def mBt (g : Nat → Int32) (co : Nat) (tr : Int32) : Nat → Int32 := upd g (10 + co) tr
theorem mBt_4 (g : Nat → Int32) (co : Nat) (tr : Int32) : mBt g co tr 4 = g 4 := pk_un (by omega)
def mBk (g : Nat → Int32) (co : Nat) : Nat → Nat → Int32
  | 0 => g
  | t + 1 => mBt g co (mTq t)
theorem mBk_u (g : Nat → Int32) (co t : Nat) (x : Int32) : upd (mBk g co t) (10 + co) x = mBt g co x := by
  cases t with
  | zero => rfl
  | succ t => exact upd_uu _ _ _ _
theorem mBk_e (g : Nat → Int32) (co t : Nat) : upd (mBk g co t) (10 + co) (g (10 + co)) = g := by rw [mBk_u, mBt, upd_i]
def mLq (g : Nat → Int32) (n co : Nat) : Nat → Int32 × Int32
  | 0 => (nI 0, -1)
  | t + 1 => if (mLq g n co t).2 < 0 then (mTq t, mSo (mBt g co (mTq t)) co n) else if (mLq g n co t).2 ≤ mSo (mBt g co (mTq t)) co n then mLq g n co t else (mTq t, mSo (mBt g co (mTq t)) co n)
theorem mLq_a {g : Nat → Int32} {n co t : Nat} (h : (mLq g n co t).2 < 0) : mLq g n co (t + 1) = (mTq t, mSo (mBt g co (mTq t)) co n) := by rw [mLq, if_pos h]
theorem mLq_b {g : Nat → Int32} {n co t : Nat} (h : ¬ (mLq g n co t).2 < 0) (h2 : ¬ (mLq g n co t).2 ≤ mSo (mBt g co (mTq t)) co n) : mLq g n co (t + 1) = (mTq t, mSo (mBt g co (mTq t)) co n) := by rw [mLq, if_neg h, if_neg h2]
theorem mLq_c {g : Nat → Int32} {n co t : Nat} (h : ¬ (mLq g n co t).2 < 0) (h2 : (mLq g n co t).2 ≤ mSo (mBt g co (mTq t)) co n) : mLq g n co (t + 1) = mLq g n co t := by rw [mLq, if_neg h, if_pos h2]
def mBe (g : Nat → Int32) (n : Nat) (y z : Int32) : Int32 := if mIc y = 0 then -2 else if mIw z (nI 0) (nI 1) = 0 then -2 else if z = 0 then (mLq g n (ix y) 41).1 + nI 20 else (mLq g n (ix y) 41).2
theorem cd_X8_bestTrim : cdV RX8 yX8_bestTrim cX8_bestTrim 10 (some .int) 2 := ⟨⟨bw_1019, bw_65, by decide, by decide, by decide +kernel⟩, bw_1017, bw_1018⟩
set_option maxHeartbeats 4000000 in
set_option maxRecDepth 100000 in
theorem c_X8_bestTrim (l : Launch) (E : EV) (xo : Nat) (st : Nat) (sp : Nat) (th : Nat) (so : Nat) (sv : Nat) (pd : Nat) (nu : Nat) (sn : Nat) (ln : Nat) (ta : Nat) (sg : Int32) (g : Nat → Int32) (n : Nat) (y : Int32) (z : Int32) (hf : g 4 = nI n) (hn : n ≤ 20) : rcI l E yX8_bestTrim cX8_bestTrim 10 .int 5 [.ref xo, .int y, .int z] [(xo, .inr (5, [.ref st, .ref sp, .ref th, .int (nI sn), .ref so, .ref sv, .ref pd, .int (nI ln), .int (nI ta), .int sg, .ref nu])), (st, .inl (E.2.1, 293, .inl g))] (mBe g n y z) [(xo, .inr (5, [.ref st, .ref sp, .ref th, .int (nI sn), .ref so, .ref sv, .ref pd, .int (nI ln), .int (nI ta), .int sg, .ref nu])), (st, .inl (E.2.1, 293, .inl g))] := by
  refine rcI_of (by decide) (Nat.le_of_ble_eq_true rfl) ?_
  intro pg e s m below meth c Q A ls S hP hD0 hE hA hl hret
  have hx := S.1
  have hb := S.2.1
  have hown := S.2.2.2.1
  have hts := S.2.2.2.2
  have hK := hE.1
  have hS : va_S A s.heap s.heap [] := va_S.rf
  have hDa : va_Da A [xo, st] := ⟨_, hD0, rfl⟩
  have hl : lv_has ls 10 [(0, .ref xo), (1, .int y), (2, .int z)] := hl
  refine lv_iload_n hx hb dX8_bestTrim_0 rfl (lv_at hl 1 rfl) ?_
  refine rwS1 (rest := []) S (c_X8_isColour l E y) cd_X8_isColour bw_824 ⟨Nat.le_of_ble_eq_true rfl, Nat.le_of_ble_eq_true rfl⟩ ⟨Nat.zero_le _, Nat.zero_le _⟩ hP (hDa.to rfl) hE hA hS [] rfl rfl [] rfl rfl (Nat.le_of_ble_eq_true rfl) hl.1 dX8_bestTrim_1 (fun H locs hP _ hS => ?_)
  have hP : va_P E.1 vwCl [(xo, .inr (5, [.ref st, .ref sp, .ref th, .int (nI sn), .ref so, .ref sv, .ref pd, .int (nI ln), .int (nI ta), .int sg, .ref nu])), (st, .inl (E.2.1, 293, .inl g))] H := hP
  refine lv_if_eq (tgt := 16) hx hb dX8_bestTrim_4 (by decide) (fun c_1 => ?_) (fun c_1 => ?_)
  · refine lv_bipush (v := (-2)) hx hb dX8_bestTrim_16 (by decide) ?_
    exact hret _ _ _ _ _ _ (by first | rw [mBe, if_pos c_1] | rw [mBe, if_neg c_1, if_pos absent9]) rfl rfl hP hS dX8_bestTrim_18
  · obtain ⟨co, h9_co, rfl⟩ : ∃ co : Nat, co < 3 ∧ y = nI co := (mIc_of c_1)
    refine lv_iload_n hx hb dX8_bestTrim_7 rfl (lv_at hl 2 rfl) ?_
    refine lv_iconst (v := nI 0) hx hb dX8_bestTrim_8 (by decide) ?_
    refine lv_iconst (v := nI 1) hx hb dX8_bestTrim_9 (by decide) ?_
    refine rwS3 (rest := []) S (c_X8_within l E z (nI 0) (nI 1)) cd_X8_within bw_755 ⟨Nat.le_of_ble_eq_true rfl, Nat.le_of_ble_eq_true rfl⟩ ⟨Nat.zero_le _, Nat.zero_le _⟩ hP (hDa.to rfl) hE hA hS [] rfl rfl [] rfl rfl (Nat.le_of_ble_eq_true rfl) hl.1 dX8_bestTrim_10 (fun H locs hP _ hS => ?_)
    have hP : va_P E.1 vwCl [(xo, .inr (5, [.ref st, .ref sp, .ref th, .int (nI sn), .ref so, .ref sv, .ref pd, .int (nI ln), .int (nI ta), .int sg, .ref nu])), (st, .inl (E.2.1, 293, .inl g))] H := hP
    refine lv_if_ne (tgt := 19) hx hb dX8_bestTrim_13 (by decide) (fun c_2 => ?_) (fun c_2 => ?_)
    · refine lv_aload_n hx hb dX8_bestTrim_19 rfl (lv_at hl 0 rfl) ?_
      refine va_get (D := E.1) (ci := 5) (v := .ref st) (C := RX8) (T := TX8) (N := 11) hx hb hts inb_X8 hown hK hP 0 rfl rfl 0 (by decide) (hts _ bw_710) (fun _ h9 => h9) rfl dX8_bestTrim_20 ?_
      refine lv_bipush (v := nI 10) hx hb dX8_bestTrim_23 (by decide) ?_
      refine lv_iload_n hx hb dX8_bestTrim_25 rfl (lv_at hl 1 rfl) ?_
      refine rn_add (a := 10) (b := co) hx hb dX8_bestTrim_26 ?_
      refine rn_iald (i := 10 + co) hx hb hK hP 1 0 rfl rfl (by omega) (by omega) dX8_bestTrim_27 ?_
      refine lv_istore_n (lv' := [(3, .int (g (10 + co))), (0, .ref xo), (1, .int (nI co)), (2, .int z)]) hx hb dX8_bestTrim_28 rfl hl (by decide) rfl (fun ls hl => ?_)
      refine lv_iconst (v := nI 0) hx hb dX8_bestTrim_29 (by decide) ?_
      refine lv_istore (lv' := [(4, .int (nI 0)), (3, .int (g (10 + co))), (0, .ref xo), (1, .int (nI co)), (2, .int z)]) hx hb dX8_bestTrim_30 hl (by decide) rfl (fun ls hl => ?_)
      refine lv_iconst (v := (-1)) hx hb dX8_bestTrim_32 (by decide) ?_
      refine lv_istore (lv' := [(5, .int (-1)), (4, .int (nI 0)), (3, .int (g (10 + co))), (0, .ref xo), (1, .int (nI co)), (2, .int z)]) hx hb dX8_bestTrim_33 hl (by decide) rfl (fun ls hl => ?_)
      refine lv_iconst (v := nI 0) hx hb dX8_bestTrim_35 (by decide) ?_
      refine lv_istore (lv' := [(6, .int (nI 0)), (5, .int (-1)), (4, .int (nI 0)), (3, .int (g (10 + co))), (0, .ref xo), (1, .int (nI co)), (2, .int z)]) hx hb dX8_bestTrim_36 hl (by decide) rfl (fun ls hl => ?_)
      have loop38 : ∀ (fuel : Nat) (t : Nat), 41 - t < fuel → (t ≤ 41) → ∀ (H : Heap) (locs : List Loc), va_P E.1 vwCl [(xo, .inr (5, [.ref st, .ref sp, .ref th, .int (nI sn), .ref so, .ref sv, .ref pd, .int (nI ln), .int (nI ta), .int sg, .ref nu])), (st, .inl (E.2.1, 293, .inl (mBk g co t)))] H → va_S A s.heap H locs → ∀ ls : Array Slot, lv_has ls 10 [(6, .int (nI t)), (5, .int ((mLq g n co t).2)), (4, .int ((mLq g n co t).1)), (3, .int (g (10 + co))), (0, .ref xo), (1, .int (nI co)), (2, .int z)] → W pg l e (rq 5) s m ([.ref xo, .int (nI co), .int z] : List Value).toArray below meth c H locs 0 0 Q (F0 m 38 ls []) := by
        intro fuel
        induction fuel with
        | zero => intro t h9; exact absurd h9 (Nat.not_lt_zero _)
        | succ fuel ih38 =>
          intro t hfu38 ht H locs hP hS ls hl
          refine lv_iload hx hb dX8_bestTrim_38 (lv_at hl 0 rfl) ?_
          refine lv_bipush (v := nI 40) hx hb dX8_bestTrim_40 (by decide) ?_
          refine rn_icmp_gt (a := t) (b := 40) (tgt := 140) hx hb (by omega) (by omega) dX8_bestTrim_42 (by decide) (fun c_3 => ?_) (fun c_3 => ?_)
          · have hex : 41 = t := by omega
            subst hex
            refine lv_aload_n hx hb dX8_bestTrim_140 rfl (lv_at hl 4 rfl) ?_
            refine va_get (D := E.1) (ci := 5) (v := .ref st) (C := RX8) (T := TX8) (N := 11) hx hb hts inb_X8 hown hK hP 0 rfl rfl 0 (by decide) (hts _ bw_710) (fun _ h9 => h9) rfl dX8_bestTrim_141 ?_
            refine lv_bipush (v := nI 10) hx hb dX8_bestTrim_144 (by decide) ?_
            refine lv_iload_n hx hb dX8_bestTrim_146 rfl (lv_at hl 5 rfl) ?_
            refine rn_add (a := 10) (b := co) hx hb dX8_bestTrim_147 ?_
            refine lv_iload_n hx hb dX8_bestTrim_148 rfl (lv_at hl 3 rfl) ?_
            refine rn_iast (i := 10 + co) hx hb hK hP (hDa.to rfl) hS 1 0 rfl rfl (by omega) (by omega) dX8_bestTrim_149 (fun H locs hP _ hS => ?_)
            have hP : va_P E.1 vwCl [(xo, .inr (5, [.ref st, .ref sp, .ref th, .int (nI sn), .ref so, .ref sv, .ref pd, .int (nI ln), .int (nI ta), .int sg, .ref nu])), (st, .inl (E.2.1, 293, .inl (upd (mBk g co 41) (10 + co) (g (10 + co)))))] H := hP
            refine lv_iload_n hx hb dX8_bestTrim_150 rfl (lv_at hl 6 rfl) ?_
            refine lv_if_ne (tgt := 162) hx hb dX8_bestTrim_151 (by decide) (fun c_4 => ?_) (fun c_4 => ?_)
            · refine lv_iload hx hb dX8_bestTrim_162 (lv_at hl 1 rfl) ?_
              exact hret _ _ _ _ _ _ (by first | rw [mBe, if_neg c_1, if_neg c_2, if_pos c_4, ix_nI (by omega)] | rw [mBe, if_neg c_1, if_neg c_2, if_neg c_4, ix_nI (by omega)]) (by rw [mBk_e]) rfl hP hS dX8_bestTrim_164
            · refine lv_iload hx hb dX8_bestTrim_154 (lv_at hl 2 rfl) ?_
              refine lv_bipush (v := nI 20) hx hb dX8_bestTrim_156 (by decide) ?_
              refine lv_iadd hx hb dX8_bestTrim_158 ?_
              refine lv_goto (tgt := 164) hx hb dX8_bestTrim_159 (by decide) ?_
              exact hret _ _ _ _ _ _ (by first | rw [mBe, if_neg c_1, if_neg c_2, if_pos c_4, ix_nI (by omega)] | rw [mBe, if_neg c_1, if_neg c_2, if_neg c_4, ix_nI (by omega)]) (by rw [mBk_e]) rfl hP hS dX8_bestTrim_164
          · refine lv_iload hx hb dX8_bestTrim_45 (lv_at hl 0 rfl) ?_
            refine lv_iconst (v := nI 2) hx hb dX8_bestTrim_47 (by decide) ?_
            refine rn_rem (a := t) (b := 2) hx hb dX8_bestTrim_48 (by omega) (by omega) (by omega) ?_
            refine lv_iconst (v := nI 1) hx hb dX8_bestTrim_49 (by decide) ?_
            refine rn_icmp_ne (a := t % 2) (b := 1) (tgt := 62) hx hb (by omega) (by omega) dX8_bestTrim_50 (by decide) (fun c_5 => ?_) (fun c_5 => ?_)
            · refine lv_iload hx hb dX8_bestTrim_62 (lv_at hl 0 rfl) ?_
              refine lv_ineg hx hb dX8_bestTrim_64 ?_
              refine lv_iconst (v := nI 2) hx hb dX8_bestTrim_65 (by decide) ?_
              refine lv_idiv hx hb dX8_bestTrim_66 (by decide) ?_
              refine W.eq (congrArg (fun z => F0 m 67 ls (.int z :: [])) (show (-(nI t)) / (nI 2) = mTq t from (by first | rw [mTq, if_pos c_5] | rw [mTq, if_neg c_5]))) ?_
              refine lv_istore (lv' := [(7, .int (mTq t)), (6, .int (nI t)), (5, .int ((mLq g n co t).2)), (4, .int ((mLq g n co t).1)), (3, .int (g (10 + co))), (0, .ref xo), (1, .int (nI co)), (2, .int z)]) hx hb dX8_bestTrim_67 hl (by decide) rfl (fun ls hl => ?_)
              refine lv_aload_n hx hb dX8_bestTrim_69 rfl (lv_at hl 5 rfl) ?_
              refine va_get (D := E.1) (ci := 5) (v := .ref st) (C := RX8) (T := TX8) (N := 11) hx hb hts inb_X8 hown hK hP 0 rfl rfl 0 (by decide) (hts _ bw_710) (fun _ h9 => h9) rfl dX8_bestTrim_70 ?_
              refine lv_bipush (v := nI 10) hx hb dX8_bestTrim_73 (by decide) ?_
              refine lv_iload_n hx hb dX8_bestTrim_75 rfl (lv_at hl 6 rfl) ?_
              refine rn_add (a := 10) (b := co) hx hb dX8_bestTrim_76 ?_
              refine lv_iload hx hb dX8_bestTrim_77 (lv_at hl 0 rfl) ?_
              refine rn_iast (i := 10 + co) hx hb hK hP (hDa.to rfl) hS 1 0 rfl rfl (by omega) (by omega) dX8_bestTrim_79 (fun H locs hP _ hS => ?_)
              have hP : va_P E.1 vwCl [(xo, .inr (5, [.ref st, .ref sp, .ref th, .int (nI sn), .ref so, .ref sv, .ref pd, .int (nI ln), .int (nI ta), .int sg, .ref nu])), (st, .inl (E.2.1, 293, .inl (upd (mBk g co t) (10 + co) (mTq t))))] H := hP
              have hP : va_P E.1 vwCl [(xo, .inr (5, [.ref st, .ref sp, .ref th, .int (nI sn), .ref so, .ref sv, .ref pd, .int (nI ln), .int (nI ta), .int sg, .ref nu])), (st, .inl (E.2.1, 293, .inl (mBt g co (mTq t))))] H := by rw [mBk_u] at hP; exact hP
              refine lv_aload_n hx hb dX8_bestTrim_80 rfl (lv_at hl 5 rfl) ?_
              refine lv_iload_n hx hb dX8_bestTrim_81 rfl (lv_at hl 6 rfl) ?_
              refine rwV1 (rest := []) S (c_X8_allOff l E xo st sp th so sv pd nu sn ln ta sg (mBt g co (mTq t)) n co ((mBt_4 g co (mTq t)).trans hf) hn (by omega)) cd_X8_allOff bw_1020 ⟨Nat.le_of_ble_eq_true rfl, Nat.le_of_ble_eq_true rfl⟩ ⟨Nat.zero_le _, Nat.zero_le _⟩ hP (hDa.to rfl) hE hA hS [0, 1] rfl rfl [xo, st] rfl rfl (ci := 5) rfl (q0 := 0) rfl (Nat.le_of_ble_eq_true rfl) hl.1 dX8_bestTrim_82 (fun H locs hP _ hS => ?_)
              have hP : va_P E.1 vwCl [(xo, .inr (5, [.ref st, .ref sp, .ref th, .int (nI sn), .ref so, .ref sv, .ref pd, .int (nI ln), .int (nI ta), .int sg, .ref nu])), (st, .inl (E.2.1, 293, .inl (mBt g co (mTq t))))] H := hP
              refine lv_istore (lv' := [(8, .int (mSo (mBt g co (mTq t)) co n)), (7, .int (mTq t)), (6, .int (nI t)), (5, .int ((mLq g n co t).2)), (4, .int ((mLq g n co t).1)), (3, .int (g (10 + co))), (0, .ref xo), (1, .int (nI co)), (2, .int z)]) hx hb dX8_bestTrim_85 hl (by decide) rfl (fun ls hl => ?_)
              refine lv_iload hx hb dX8_bestTrim_87 (lv_at hl 3 rfl) ?_
              refine lv_if_lt (tgt := 99) hx hb dX8_bestTrim_89 (by decide) (fun c_6 => ?_) (fun c_6 => ?_)
              · refine lv_iconst (v := nI 1) hx hb dX8_bestTrim_99 (by decide) ?_
                refine lv_goto (tgt := 104) hx hb dX8_bestTrim_100 (by decide) ?_
                refine lv_istore (lv' := [(9, .int (nI 1)), (8, .int (mSo (mBt g co (mTq t)) co n)), (7, .int (mTq t)), (6, .int (nI t)), (5, .int ((mLq g n co t).2)), (4, .int ((mLq g n co t).1)), (3, .int (g (10 + co))), (0, .ref xo), (1, .int (nI co)), (2, .int z)]) hx hb dX8_bestTrim_104 hl (by decide) rfl (fun ls hl => ?_)
                refine lv_iload hx hb dX8_bestTrim_106 (lv_at hl 0 rfl) ?_
                refine lv_if_eq (tgt := 116) hx hb dX8_bestTrim_108 (by decide) (fun c9 => by first | exact absurd c9 (by decide) | exact absurd (by decide) c9) (fun _ => ?_)
                refine lv_iload hx hb dX8_bestTrim_111 (lv_at hl 2 rfl) ?_
                refine lv_goto (tgt := 118) hx hb dX8_bestTrim_113 (by decide) ?_
                refine lv_istore (lv' := [(4, .int (mTq t)), (9, .int (nI 1)), (8, .int (mSo (mBt g co (mTq t)) co n)), (7, .int (mTq t)), (6, .int (nI t)), (5, .int ((mLq g n co t).2)), (3, .int (g (10 + co))), (0, .ref xo), (1, .int (nI co)), (2, .int z)]) hx hb dX8_bestTrim_118 hl (by decide) rfl (fun ls hl => ?_)
                refine lv_iload hx hb dX8_bestTrim_120 (lv_at hl 1 rfl) ?_
                refine lv_if_eq (tgt := 130) hx hb dX8_bestTrim_122 (by decide) (fun c9 => by first | exact absurd c9 (by decide) | exact absurd (by decide) c9) (fun _ => ?_)
                refine lv_iload hx hb dX8_bestTrim_125 (lv_at hl 2 rfl) ?_
                refine lv_goto (tgt := 132) hx hb dX8_bestTrim_127 (by decide) ?_
                refine lv_istore (lv' := [(5, .int (mSo (mBt g co (mTq t)) co n)), (4, .int (mTq t)), (9, .int (nI 1)), (8, .int (mSo (mBt g co (mTq t)) co n)), (7, .int (mTq t)), (6, .int (nI t)), (3, .int (g (10 + co))), (0, .ref xo), (1, .int (nI co)), (2, .int z)]) hx hb dX8_bestTrim_132 hl (by decide) rfl (fun ls hl => ?_)
                refine rn_inc (a := t) (d := 1) (lv' := [(6, .int (nI (t + 1))), (5, .int (mSo (mBt g co (mTq t)) co n)), (4, .int (mTq t)), (9, .int (nI 1)), (8, .int (mSo (mBt g co (mTq t)) co n)), (7, .int (mTq t)), (3, .int (g (10 + co))), (0, .ref xo), (1, .int (nI co)), (2, .int z)]) hx hb dX8_bestTrim_134 hl (k := 5) rfl (by decide) (by decide) rfl (fun ls hl => ?_)
                refine lv_goto (tgt := 38) hx hb dX8_bestTrim_137 (by decide) ?_
                have hP : va_P E.1 vwCl [(xo, .inr (5, [.ref st, .ref sp, .ref th, .int (nI sn), .ref so, .ref sv, .ref pd, .int (nI ln), .int (nI ta), .int sg, .ref nu])), (st, .inl (E.2.1, 293, .inl (mBk g co (t + 1))))] H := by exact hP
                have hl : lv_has ls 10 [(6, .int (nI (t + 1))), (5, .int (mSo (mBt g co (mTq t)) co n)), (4, .int (mTq t)), (3, .int (g (10 + co))), (0, .ref xo), (1, .int (nI co)), (2, .int z)] := lv_sub hl [0, 1, 2, 6, 7, 8, 9] rfl
                have hl : lv_has ls 10 [(6, .int (nI (t + 1))), (5, .int ((mLq g n co (t + 1)).2)), (4, .int ((mLq g n co (t + 1)).1)), (3, .int (g (10 + co))), (0, .ref xo), (1, .int (nI co)), (2, .int z)] := by first | (rw [mLq_a c_6]; exact hl) | (rw [mLq_b c_5 c_6]; exact hl) | (rw [mLq_c c_5 c_6]; exact hl)
                exact ih38 (t + 1) (by omega) (by omega) _ _ hP hS _ hl
              · refine lv_iload hx hb dX8_bestTrim_92 (lv_at hl 0 rfl) ?_
                refine lv_iload hx hb dX8_bestTrim_94 (lv_at hl 3 rfl) ?_
                refine lv_icmp_ge (tgt := 103) hx hb dX8_bestTrim_96 (by decide) (fun c_7 => ?_) (fun c_7 => ?_)
                · refine lv_iconst (v := nI 0) hx hb dX8_bestTrim_103 (by decide) ?_
                  refine lv_istore (lv' := [(9, .int (nI 0)), (8, .int (mSo (mBt g co (mTq t)) co n)), (7, .int (mTq t)), (6, .int (nI t)), (5, .int ((mLq g n co t).2)), (4, .int ((mLq g n co t).1)), (3, .int (g (10 + co))), (0, .ref xo), (1, .int (nI co)), (2, .int z)]) hx hb dX8_bestTrim_104 hl (by decide) rfl (fun ls hl => ?_)
                  refine lv_iload hx hb dX8_bestTrim_106 (lv_at hl 0 rfl) ?_
                  refine lv_if_eq (tgt := 116) hx hb dX8_bestTrim_108 (by decide) (fun _ => ?_) (fun c9 => by first | exact absurd (by decide) c9 | exact absurd c9 (by decide))
                  refine lv_iload hx hb dX8_bestTrim_116 (lv_at hl 5 rfl) ?_
                  refine lv_istore (lv' := [(4, .int ((mLq g n co t).1)), (9, .int (nI 0)), (8, .int (mSo (mBt g co (mTq t)) co n)), (7, .int (mTq t)), (6, .int (nI t)), (5, .int ((mLq g n co t).2)), (3, .int (g (10 + co))), (0, .ref xo), (1, .int (nI co)), (2, .int z)]) hx hb dX8_bestTrim_118 hl (by decide) rfl (fun ls hl => ?_)
                  refine lv_iload hx hb dX8_bestTrim_120 (lv_at hl 1 rfl) ?_
                  refine lv_if_eq (tgt := 130) hx hb dX8_bestTrim_122 (by decide) (fun _ => ?_) (fun c9 => by first | exact absurd (by decide) c9 | exact absurd c9 (by decide))
                  refine lv_iload hx hb dX8_bestTrim_130 (lv_at hl 5 rfl) ?_
                  refine lv_istore (lv' := [(5, .int ((mLq g n co t).2)), (4, .int ((mLq g n co t).1)), (9, .int (nI 0)), (8, .int (mSo (mBt g co (mTq t)) co n)), (7, .int (mTq t)), (6, .int (nI t)), (3, .int (g (10 + co))), (0, .ref xo), (1, .int (nI co)), (2, .int z)]) hx hb dX8_bestTrim_132 hl (by decide) rfl (fun ls hl => ?_)
                  refine rn_inc (a := t) (d := 1) (lv' := [(6, .int (nI (t + 1))), (5, .int ((mLq g n co t).2)), (4, .int ((mLq g n co t).1)), (9, .int (nI 0)), (8, .int (mSo (mBt g co (mTq t)) co n)), (7, .int (mTq t)), (3, .int (g (10 + co))), (0, .ref xo), (1, .int (nI co)), (2, .int z)]) hx hb dX8_bestTrim_134 hl (k := 5) rfl (by decide) (by decide) rfl (fun ls hl => ?_)
                  refine lv_goto (tgt := 38) hx hb dX8_bestTrim_137 (by decide) ?_
                  have hP : va_P E.1 vwCl [(xo, .inr (5, [.ref st, .ref sp, .ref th, .int (nI sn), .ref so, .ref sv, .ref pd, .int (nI ln), .int (nI ta), .int sg, .ref nu])), (st, .inl (E.2.1, 293, .inl (mBk g co (t + 1))))] H := by exact hP
                  have hl : lv_has ls 10 [(6, .int (nI (t + 1))), (5, .int ((mLq g n co t).2)), (4, .int ((mLq g n co t).1)), (3, .int (g (10 + co))), (0, .ref xo), (1, .int (nI co)), (2, .int z)] := lv_sub hl [0, 1, 2, 6, 7, 8, 9] rfl
                  have hl : lv_has ls 10 [(6, .int (nI (t + 1))), (5, .int ((mLq g n co (t + 1)).2)), (4, .int ((mLq g n co (t + 1)).1)), (3, .int (g (10 + co))), (0, .ref xo), (1, .int (nI co)), (2, .int z)] := by first | (rw [mLq_a c_7]; exact hl) | (rw [mLq_b c_6 c_7]; exact hl) | (rw [mLq_c c_6 c_7]; exact hl)
                  exact ih38 (t + 1) (by omega) (by omega) _ _ hP hS _ hl
                · refine lv_iconst (v := nI 1) hx hb dX8_bestTrim_99 (by decide) ?_
                  refine lv_goto (tgt := 104) hx hb dX8_bestTrim_100 (by decide) ?_
                  refine lv_istore (lv' := [(9, .int (nI 1)), (8, .int (mSo (mBt g co (mTq t)) co n)), (7, .int (mTq t)), (6, .int (nI t)), (5, .int ((mLq g n co t).2)), (4, .int ((mLq g n co t).1)), (3, .int (g (10 + co))), (0, .ref xo), (1, .int (nI co)), (2, .int z)]) hx hb dX8_bestTrim_104 hl (by decide) rfl (fun ls hl => ?_)
                  refine lv_iload hx hb dX8_bestTrim_106 (lv_at hl 0 rfl) ?_
                  refine lv_if_eq (tgt := 116) hx hb dX8_bestTrim_108 (by decide) (fun c9 => by first | exact absurd c9 (by decide) | exact absurd (by decide) c9) (fun _ => ?_)
                  refine lv_iload hx hb dX8_bestTrim_111 (lv_at hl 2 rfl) ?_
                  refine lv_goto (tgt := 118) hx hb dX8_bestTrim_113 (by decide) ?_
                  refine lv_istore (lv' := [(4, .int (mTq t)), (9, .int (nI 1)), (8, .int (mSo (mBt g co (mTq t)) co n)), (7, .int (mTq t)), (6, .int (nI t)), (5, .int ((mLq g n co t).2)), (3, .int (g (10 + co))), (0, .ref xo), (1, .int (nI co)), (2, .int z)]) hx hb dX8_bestTrim_118 hl (by decide) rfl (fun ls hl => ?_)
                  refine lv_iload hx hb dX8_bestTrim_120 (lv_at hl 1 rfl) ?_
                  refine lv_if_eq (tgt := 130) hx hb dX8_bestTrim_122 (by decide) (fun c9 => by first | exact absurd c9 (by decide) | exact absurd (by decide) c9) (fun _ => ?_)
                  refine lv_iload hx hb dX8_bestTrim_125 (lv_at hl 2 rfl) ?_
                  refine lv_goto (tgt := 132) hx hb dX8_bestTrim_127 (by decide) ?_
                  refine lv_istore (lv' := [(5, .int (mSo (mBt g co (mTq t)) co n)), (4, .int (mTq t)), (9, .int (nI 1)), (8, .int (mSo (mBt g co (mTq t)) co n)), (7, .int (mTq t)), (6, .int (nI t)), (3, .int (g (10 + co))), (0, .ref xo), (1, .int (nI co)), (2, .int z)]) hx hb dX8_bestTrim_132 hl (by decide) rfl (fun ls hl => ?_)
                  refine rn_inc (a := t) (d := 1) (lv' := [(6, .int (nI (t + 1))), (5, .int (mSo (mBt g co (mTq t)) co n)), (4, .int (mTq t)), (9, .int (nI 1)), (8, .int (mSo (mBt g co (mTq t)) co n)), (7, .int (mTq t)), (3, .int (g (10 + co))), (0, .ref xo), (1, .int (nI co)), (2, .int z)]) hx hb dX8_bestTrim_134 hl (k := 5) rfl (by decide) (by decide) rfl (fun ls hl => ?_)
                  refine lv_goto (tgt := 38) hx hb dX8_bestTrim_137 (by decide) ?_
                  have hP : va_P E.1 vwCl [(xo, .inr (5, [.ref st, .ref sp, .ref th, .int (nI sn), .ref so, .ref sv, .ref pd, .int (nI ln), .int (nI ta), .int sg, .ref nu])), (st, .inl (E.2.1, 293, .inl (mBk g co (t + 1))))] H := by exact hP
                  have hl : lv_has ls 10 [(6, .int (nI (t + 1))), (5, .int (mSo (mBt g co (mTq t)) co n)), (4, .int (mTq t)), (3, .int (g (10 + co))), (0, .ref xo), (1, .int (nI co)), (2, .int z)] := lv_sub hl [0, 1, 2, 6, 7, 8, 9] rfl
                  have hl : lv_has ls 10 [(6, .int (nI (t + 1))), (5, .int ((mLq g n co (t + 1)).2)), (4, .int ((mLq g n co (t + 1)).1)), (3, .int (g (10 + co))), (0, .ref xo), (1, .int (nI co)), (2, .int z)] := by first | (rw [mLq_a c_7]; exact hl) | (rw [mLq_b c_6 c_7]; exact hl) | (rw [mLq_c c_6 c_7]; exact hl)
                  exact ih38 (t + 1) (by omega) (by omega) _ _ hP hS _ hl
            · refine lv_iload hx hb dX8_bestTrim_53 (lv_at hl 0 rfl) ?_
              refine lv_iconst (v := nI 1) hx hb dX8_bestTrim_55 (by decide) ?_
              refine rn_add (a := t) (b := 1) hx hb dX8_bestTrim_56 ?_
              refine lv_iconst (v := nI 2) hx hb dX8_bestTrim_57 (by decide) ?_
              refine rn_div (a := t + 1) (b := 2) hx hb dX8_bestTrim_58 (by omega) (by omega) (by omega) ?_
              refine lv_goto (tgt := 67) hx hb dX8_bestTrim_59 (by decide) ?_
              refine W.eq (congrArg (fun z => F0 m 67 ls (.int z :: [])) (show nI ((t + 1) / 2) = mTq t from (by first | rw [mTq, if_pos c_5] | rw [mTq, if_neg c_5]))) ?_
              refine lv_istore (lv' := [(7, .int (mTq t)), (6, .int (nI t)), (5, .int ((mLq g n co t).2)), (4, .int ((mLq g n co t).1)), (3, .int (g (10 + co))), (0, .ref xo), (1, .int (nI co)), (2, .int z)]) hx hb dX8_bestTrim_67 hl (by decide) rfl (fun ls hl => ?_)
              refine lv_aload_n hx hb dX8_bestTrim_69 rfl (lv_at hl 5 rfl) ?_
              refine va_get (D := E.1) (ci := 5) (v := .ref st) (C := RX8) (T := TX8) (N := 11) hx hb hts inb_X8 hown hK hP 0 rfl rfl 0 (by decide) (hts _ bw_710) (fun _ h9 => h9) rfl dX8_bestTrim_70 ?_
              refine lv_bipush (v := nI 10) hx hb dX8_bestTrim_73 (by decide) ?_
              refine lv_iload_n hx hb dX8_bestTrim_75 rfl (lv_at hl 6 rfl) ?_
              refine rn_add (a := 10) (b := co) hx hb dX8_bestTrim_76 ?_
              refine lv_iload hx hb dX8_bestTrim_77 (lv_at hl 0 rfl) ?_
              refine rn_iast (i := 10 + co) hx hb hK hP (hDa.to rfl) hS 1 0 rfl rfl (by omega) (by omega) dX8_bestTrim_79 (fun H locs hP _ hS => ?_)
              have hP : va_P E.1 vwCl [(xo, .inr (5, [.ref st, .ref sp, .ref th, .int (nI sn), .ref so, .ref sv, .ref pd, .int (nI ln), .int (nI ta), .int sg, .ref nu])), (st, .inl (E.2.1, 293, .inl (upd (mBk g co t) (10 + co) (mTq t))))] H := hP
              have hP : va_P E.1 vwCl [(xo, .inr (5, [.ref st, .ref sp, .ref th, .int (nI sn), .ref so, .ref sv, .ref pd, .int (nI ln), .int (nI ta), .int sg, .ref nu])), (st, .inl (E.2.1, 293, .inl (mBt g co (mTq t))))] H := by rw [mBk_u] at hP; exact hP
              refine lv_aload_n hx hb dX8_bestTrim_80 rfl (lv_at hl 5 rfl) ?_
              refine lv_iload_n hx hb dX8_bestTrim_81 rfl (lv_at hl 6 rfl) ?_
              refine rwV1 (rest := []) S (c_X8_allOff l E xo st sp th so sv pd nu sn ln ta sg (mBt g co (mTq t)) n co ((mBt_4 g co (mTq t)).trans hf) hn (by omega)) cd_X8_allOff bw_1020 ⟨Nat.le_of_ble_eq_true rfl, Nat.le_of_ble_eq_true rfl⟩ ⟨Nat.zero_le _, Nat.zero_le _⟩ hP (hDa.to rfl) hE hA hS [0, 1] rfl rfl [xo, st] rfl rfl (ci := 5) rfl (q0 := 0) rfl (Nat.le_of_ble_eq_true rfl) hl.1 dX8_bestTrim_82 (fun H locs hP _ hS => ?_)
              have hP : va_P E.1 vwCl [(xo, .inr (5, [.ref st, .ref sp, .ref th, .int (nI sn), .ref so, .ref sv, .ref pd, .int (nI ln), .int (nI ta), .int sg, .ref nu])), (st, .inl (E.2.1, 293, .inl (mBt g co (mTq t))))] H := hP
              refine lv_istore (lv' := [(8, .int (mSo (mBt g co (mTq t)) co n)), (7, .int (mTq t)), (6, .int (nI t)), (5, .int ((mLq g n co t).2)), (4, .int ((mLq g n co t).1)), (3, .int (g (10 + co))), (0, .ref xo), (1, .int (nI co)), (2, .int z)]) hx hb dX8_bestTrim_85 hl (by decide) rfl (fun ls hl => ?_)
              refine lv_iload hx hb dX8_bestTrim_87 (lv_at hl 3 rfl) ?_
              refine lv_if_lt (tgt := 99) hx hb dX8_bestTrim_89 (by decide) (fun c_8 => ?_) (fun c_8 => ?_)
              · refine lv_iconst (v := nI 1) hx hb dX8_bestTrim_99 (by decide) ?_
                refine lv_goto (tgt := 104) hx hb dX8_bestTrim_100 (by decide) ?_
                refine lv_istore (lv' := [(9, .int (nI 1)), (8, .int (mSo (mBt g co (mTq t)) co n)), (7, .int (mTq t)), (6, .int (nI t)), (5, .int ((mLq g n co t).2)), (4, .int ((mLq g n co t).1)), (3, .int (g (10 + co))), (0, .ref xo), (1, .int (nI co)), (2, .int z)]) hx hb dX8_bestTrim_104 hl (by decide) rfl (fun ls hl => ?_)
                refine lv_iload hx hb dX8_bestTrim_106 (lv_at hl 0 rfl) ?_
                refine lv_if_eq (tgt := 116) hx hb dX8_bestTrim_108 (by decide) (fun c9 => by first | exact absurd c9 (by decide) | exact absurd (by decide) c9) (fun _ => ?_)
                refine lv_iload hx hb dX8_bestTrim_111 (lv_at hl 2 rfl) ?_
                refine lv_goto (tgt := 118) hx hb dX8_bestTrim_113 (by decide) ?_
                refine lv_istore (lv' := [(4, .int (mTq t)), (9, .int (nI 1)), (8, .int (mSo (mBt g co (mTq t)) co n)), (7, .int (mTq t)), (6, .int (nI t)), (5, .int ((mLq g n co t).2)), (3, .int (g (10 + co))), (0, .ref xo), (1, .int (nI co)), (2, .int z)]) hx hb dX8_bestTrim_118 hl (by decide) rfl (fun ls hl => ?_)
                refine lv_iload hx hb dX8_bestTrim_120 (lv_at hl 1 rfl) ?_
                refine lv_if_eq (tgt := 130) hx hb dX8_bestTrim_122 (by decide) (fun c9 => by first | exact absurd c9 (by decide) | exact absurd (by decide) c9) (fun _ => ?_)
                refine lv_iload hx hb dX8_bestTrim_125 (lv_at hl 2 rfl) ?_
                refine lv_goto (tgt := 132) hx hb dX8_bestTrim_127 (by decide) ?_
                refine lv_istore (lv' := [(5, .int (mSo (mBt g co (mTq t)) co n)), (4, .int (mTq t)), (9, .int (nI 1)), (8, .int (mSo (mBt g co (mTq t)) co n)), (7, .int (mTq t)), (6, .int (nI t)), (3, .int (g (10 + co))), (0, .ref xo), (1, .int (nI co)), (2, .int z)]) hx hb dX8_bestTrim_132 hl (by decide) rfl (fun ls hl => ?_)
                refine rn_inc (a := t) (d := 1) (lv' := [(6, .int (nI (t + 1))), (5, .int (mSo (mBt g co (mTq t)) co n)), (4, .int (mTq t)), (9, .int (nI 1)), (8, .int (mSo (mBt g co (mTq t)) co n)), (7, .int (mTq t)), (3, .int (g (10 + co))), (0, .ref xo), (1, .int (nI co)), (2, .int z)]) hx hb dX8_bestTrim_134 hl (k := 5) rfl (by decide) (by decide) rfl (fun ls hl => ?_)
                refine lv_goto (tgt := 38) hx hb dX8_bestTrim_137 (by decide) ?_
                have hP : va_P E.1 vwCl [(xo, .inr (5, [.ref st, .ref sp, .ref th, .int (nI sn), .ref so, .ref sv, .ref pd, .int (nI ln), .int (nI ta), .int sg, .ref nu])), (st, .inl (E.2.1, 293, .inl (mBk g co (t + 1))))] H := by exact hP
                have hl : lv_has ls 10 [(6, .int (nI (t + 1))), (5, .int (mSo (mBt g co (mTq t)) co n)), (4, .int (mTq t)), (3, .int (g (10 + co))), (0, .ref xo), (1, .int (nI co)), (2, .int z)] := lv_sub hl [0, 1, 2, 6, 7, 8, 9] rfl
                have hl : lv_has ls 10 [(6, .int (nI (t + 1))), (5, .int ((mLq g n co (t + 1)).2)), (4, .int ((mLq g n co (t + 1)).1)), (3, .int (g (10 + co))), (0, .ref xo), (1, .int (nI co)), (2, .int z)] := by first | (rw [mLq_a c_8]; exact hl) | (rw [mLq_b c_5 c_8]; exact hl) | (rw [mLq_c c_5 c_8]; exact hl)
                exact ih38 (t + 1) (by omega) (by omega) _ _ hP hS _ hl
              · refine lv_iload hx hb dX8_bestTrim_92 (lv_at hl 0 rfl) ?_
                refine lv_iload hx hb dX8_bestTrim_94 (lv_at hl 3 rfl) ?_
                refine lv_icmp_ge (tgt := 103) hx hb dX8_bestTrim_96 (by decide) (fun c_9 => ?_) (fun c_9 => ?_)
                · refine lv_iconst (v := nI 0) hx hb dX8_bestTrim_103 (by decide) ?_
                  refine lv_istore (lv' := [(9, .int (nI 0)), (8, .int (mSo (mBt g co (mTq t)) co n)), (7, .int (mTq t)), (6, .int (nI t)), (5, .int ((mLq g n co t).2)), (4, .int ((mLq g n co t).1)), (3, .int (g (10 + co))), (0, .ref xo), (1, .int (nI co)), (2, .int z)]) hx hb dX8_bestTrim_104 hl (by decide) rfl (fun ls hl => ?_)
                  refine lv_iload hx hb dX8_bestTrim_106 (lv_at hl 0 rfl) ?_
                  refine lv_if_eq (tgt := 116) hx hb dX8_bestTrim_108 (by decide) (fun _ => ?_) (fun c9 => by first | exact absurd (by decide) c9 | exact absurd c9 (by decide))
                  refine lv_iload hx hb dX8_bestTrim_116 (lv_at hl 5 rfl) ?_
                  refine lv_istore (lv' := [(4, .int ((mLq g n co t).1)), (9, .int (nI 0)), (8, .int (mSo (mBt g co (mTq t)) co n)), (7, .int (mTq t)), (6, .int (nI t)), (5, .int ((mLq g n co t).2)), (3, .int (g (10 + co))), (0, .ref xo), (1, .int (nI co)), (2, .int z)]) hx hb dX8_bestTrim_118 hl (by decide) rfl (fun ls hl => ?_)
                  refine lv_iload hx hb dX8_bestTrim_120 (lv_at hl 1 rfl) ?_
                  refine lv_if_eq (tgt := 130) hx hb dX8_bestTrim_122 (by decide) (fun _ => ?_) (fun c9 => by first | exact absurd (by decide) c9 | exact absurd c9 (by decide))
                  refine lv_iload hx hb dX8_bestTrim_130 (lv_at hl 5 rfl) ?_
                  refine lv_istore (lv' := [(5, .int ((mLq g n co t).2)), (4, .int ((mLq g n co t).1)), (9, .int (nI 0)), (8, .int (mSo (mBt g co (mTq t)) co n)), (7, .int (mTq t)), (6, .int (nI t)), (3, .int (g (10 + co))), (0, .ref xo), (1, .int (nI co)), (2, .int z)]) hx hb dX8_bestTrim_132 hl (by decide) rfl (fun ls hl => ?_)
                  refine rn_inc (a := t) (d := 1) (lv' := [(6, .int (nI (t + 1))), (5, .int ((mLq g n co t).2)), (4, .int ((mLq g n co t).1)), (9, .int (nI 0)), (8, .int (mSo (mBt g co (mTq t)) co n)), (7, .int (mTq t)), (3, .int (g (10 + co))), (0, .ref xo), (1, .int (nI co)), (2, .int z)]) hx hb dX8_bestTrim_134 hl (k := 5) rfl (by decide) (by decide) rfl (fun ls hl => ?_)
                  refine lv_goto (tgt := 38) hx hb dX8_bestTrim_137 (by decide) ?_
                  have hP : va_P E.1 vwCl [(xo, .inr (5, [.ref st, .ref sp, .ref th, .int (nI sn), .ref so, .ref sv, .ref pd, .int (nI ln), .int (nI ta), .int sg, .ref nu])), (st, .inl (E.2.1, 293, .inl (mBk g co (t + 1))))] H := by exact hP
                  have hl : lv_has ls 10 [(6, .int (nI (t + 1))), (5, .int ((mLq g n co t).2)), (4, .int ((mLq g n co t).1)), (3, .int (g (10 + co))), (0, .ref xo), (1, .int (nI co)), (2, .int z)] := lv_sub hl [0, 1, 2, 6, 7, 8, 9] rfl
                  have hl : lv_has ls 10 [(6, .int (nI (t + 1))), (5, .int ((mLq g n co (t + 1)).2)), (4, .int ((mLq g n co (t + 1)).1)), (3, .int (g (10 + co))), (0, .ref xo), (1, .int (nI co)), (2, .int z)] := by first | (rw [mLq_a c_9]; exact hl) | (rw [mLq_b c_8 c_9]; exact hl) | (rw [mLq_c c_8 c_9]; exact hl)
                  exact ih38 (t + 1) (by omega) (by omega) _ _ hP hS _ hl
                · refine lv_iconst (v := nI 1) hx hb dX8_bestTrim_99 (by decide) ?_
                  refine lv_goto (tgt := 104) hx hb dX8_bestTrim_100 (by decide) ?_
                  refine lv_istore (lv' := [(9, .int (nI 1)), (8, .int (mSo (mBt g co (mTq t)) co n)), (7, .int (mTq t)), (6, .int (nI t)), (5, .int ((mLq g n co t).2)), (4, .int ((mLq g n co t).1)), (3, .int (g (10 + co))), (0, .ref xo), (1, .int (nI co)), (2, .int z)]) hx hb dX8_bestTrim_104 hl (by decide) rfl (fun ls hl => ?_)
                  refine lv_iload hx hb dX8_bestTrim_106 (lv_at hl 0 rfl) ?_
                  refine lv_if_eq (tgt := 116) hx hb dX8_bestTrim_108 (by decide) (fun c9 => by first | exact absurd c9 (by decide) | exact absurd (by decide) c9) (fun _ => ?_)
                  refine lv_iload hx hb dX8_bestTrim_111 (lv_at hl 2 rfl) ?_
                  refine lv_goto (tgt := 118) hx hb dX8_bestTrim_113 (by decide) ?_
                  refine lv_istore (lv' := [(4, .int (mTq t)), (9, .int (nI 1)), (8, .int (mSo (mBt g co (mTq t)) co n)), (7, .int (mTq t)), (6, .int (nI t)), (5, .int ((mLq g n co t).2)), (3, .int (g (10 + co))), (0, .ref xo), (1, .int (nI co)), (2, .int z)]) hx hb dX8_bestTrim_118 hl (by decide) rfl (fun ls hl => ?_)
                  refine lv_iload hx hb dX8_bestTrim_120 (lv_at hl 1 rfl) ?_
                  refine lv_if_eq (tgt := 130) hx hb dX8_bestTrim_122 (by decide) (fun c9 => by first | exact absurd c9 (by decide) | exact absurd (by decide) c9) (fun _ => ?_)
                  refine lv_iload hx hb dX8_bestTrim_125 (lv_at hl 2 rfl) ?_
                  refine lv_goto (tgt := 132) hx hb dX8_bestTrim_127 (by decide) ?_
                  refine lv_istore (lv' := [(5, .int (mSo (mBt g co (mTq t)) co n)), (4, .int (mTq t)), (9, .int (nI 1)), (8, .int (mSo (mBt g co (mTq t)) co n)), (7, .int (mTq t)), (6, .int (nI t)), (3, .int (g (10 + co))), (0, .ref xo), (1, .int (nI co)), (2, .int z)]) hx hb dX8_bestTrim_132 hl (by decide) rfl (fun ls hl => ?_)
                  refine rn_inc (a := t) (d := 1) (lv' := [(6, .int (nI (t + 1))), (5, .int (mSo (mBt g co (mTq t)) co n)), (4, .int (mTq t)), (9, .int (nI 1)), (8, .int (mSo (mBt g co (mTq t)) co n)), (7, .int (mTq t)), (3, .int (g (10 + co))), (0, .ref xo), (1, .int (nI co)), (2, .int z)]) hx hb dX8_bestTrim_134 hl (k := 5) rfl (by decide) (by decide) rfl (fun ls hl => ?_)
                  refine lv_goto (tgt := 38) hx hb dX8_bestTrim_137 (by decide) ?_
                  have hP : va_P E.1 vwCl [(xo, .inr (5, [.ref st, .ref sp, .ref th, .int (nI sn), .ref so, .ref sv, .ref pd, .int (nI ln), .int (nI ta), .int sg, .ref nu])), (st, .inl (E.2.1, 293, .inl (mBk g co (t + 1))))] H := by exact hP
                  have hl : lv_has ls 10 [(6, .int (nI (t + 1))), (5, .int (mSo (mBt g co (mTq t)) co n)), (4, .int (mTq t)), (3, .int (g (10 + co))), (0, .ref xo), (1, .int (nI co)), (2, .int z)] := lv_sub hl [0, 1, 2, 6, 7, 8, 9] rfl
                  have hl : lv_has ls 10 [(6, .int (nI (t + 1))), (5, .int ((mLq g n co (t + 1)).2)), (4, .int ((mLq g n co (t + 1)).1)), (3, .int (g (10 + co))), (0, .ref xo), (1, .int (nI co)), (2, .int z)] := by first | (rw [mLq_a c_9]; exact hl) | (rw [mLq_b c_8 c_9]; exact hl) | (rw [mLq_c c_8 c_9]; exact hl)
                  exact ih38 (t + 1) (by omega) (by omega) _ _ hP hS _ hl
      have hP : va_P E.1 vwCl [(xo, .inr (5, [.ref st, .ref sp, .ref th, .int (nI sn), .ref so, .ref sv, .ref pd, .int (nI ln), .int (nI ta), .int sg, .ref nu])), (st, .inl (E.2.1, 293, .inl (mBk g co 0)))] H := by exact hP
      have hl : lv_has ls 10 [(6, .int (nI 0)), (5, .int (-1)), (4, .int (nI 0)), (3, .int (g (10 + co))), (0, .ref xo), (1, .int (nI co)), (2, .int z)] := lv_sub hl [0, 1, 2, 3, 4, 5, 6] rfl
      have hl : lv_has ls 10 [(6, .int (nI 0)), (5, .int ((mLq g n co 0).2)), (4, .int ((mLq g n co 0).1)), (3, .int (g (10 + co))), (0, .ref xo), (1, .int (nI co)), (2, .int z)] := by exact hl
      exact loop38 _ 0 (Nat.lt_succ_self _) (by omega) _ _ hP hS _ hl
    · refine lv_bipush (v := (-2)) hx hb dX8_bestTrim_16 (by decide) ?_
      exact hret _ _ _ _ _ _ (by first | rw [mBe, if_pos c_1] | rw [mBe, if_neg c_1, if_pos c_2]) rfl rfl hP hS dX8_bestTrim_18

def mTf (g : Nat → Int32) (n : Nat) : Nat → Nat → Int32
  | 0 => g
  | k + 1 => mZw (mKw (mTf g n k) n) n
theorem mTf_s (g : Nat → Int32) (n k : Nat) : mTf g n (k + 1) = mZw (mKw (mTf g n k) n) n := rfl
theorem mZw_u (g : Nat → Int32) (n j : Nat) (h : j < 13) (h6 : j ≠ 6) : mZw g n j = g j := mCb_u g j h h6 n
theorem mTf_4 (g : Nat → Int32) (n : Nat) : ∀ k : Nat, mTf g n k 4 = g 4
  | 0 => rfl
  | k + 1 => (congrFun (mTf_s g n k) 4).trans ((mZw_u _ _ 4 (by decide) (by decide)).trans ((mKw_4 _ _).trans (mTf_4 g n k)))
theorem mTf_0 (g : Nat → Int32) (n : Nat) : ∀ k : Nat, mTf g n k 0 = g 0
  | 0 => rfl
  | k + 1 => (congrFun (mTf_s g n k) 0).trans ((mZw_u _ _ 0 (by decide) (by decide)).trans ((mKw_0 _ _).trans (mTf_0 g n k)))
def mGd (g : Nat → Int32) (n : Nat) : Nat → Int32
  | 0 => nI 0
  | k + 1 => if mSb (mKw (mTf g n k) n) n = 0 then nI 1 else nI 0
theorem mGd_p {g : Nat → Int32} {n k : Nat} (h : mSb (mKw (mTf g n k) n) n = 0) : mGd g n (k + 1) = nI 1 := by rw [mGd, if_pos h]
theorem mGd_n {g : Nat → Int32} {n k : Nat} (h : ¬ mSb (mKw (mTf g n k) n) n = 0) : mGd g n (k + 1) = nI 0 := by rw [mGd, if_neg h]
def mGk (g : Nat → Int32) (n : Nat) : Nat := ffn (mGd g n) 20
def mPrV (g : Nat → Int32) (n : Nat) : Int32 := if n = 0 then -5 else if mGd g n (mGk g n) = 0 then -6 else nI (mGk g n)
def mPrG (g gp : Nat → Int32) (n : Nat) : Nat → Int32 := if n = 0 then g else va_cpy (va_cpy g gp 0 0 293) (mTf g n (mGk g n)) 0 0 293
def mPrP (g gp : Nat → Int32) (n : Nat) : Nat → Int32 := if n = 0 then gp else va_cpy g gp 0 0 293
theorem ffn_nk {x : Nat → Int32} {n k : Nat} (h : ∀ i, i < k → x i = 0) (e : n = k) : ffn x n = k := by subst e; exact ffn_no h
theorem cd_X8_printsNeeded : cdV RX8 yX8_printsNeeded cX8_printsNeeded 3 (some .int) 0 := ⟨⟨bw_1027, bw_65, by decide, by decide, by decide +kernel⟩, bw_1025, bw_1026⟩
set_option maxHeartbeats 4000000 in
set_option maxRecDepth 100000 in
theorem c_X8_printsNeeded (l : Launch) (E : EV) (xo : Nat) (st : Nat) (sp : Nat) (th : Nat) (so : Nat) (sv : Nat) (pd : Nat) (nu : Nat) (sn : Nat) (ln : Nat) (ta : Nat) (sg : Int32) (g : Nat → Int32) (gp : Nat → Int32) (n : Nat) (hf : g 4 = nI n) (hn : n ≤ 20) (hst : ¬ g 0 = 0) : rcI l E yX8_printsNeeded cX8_printsNeeded 3 .int 5 [.ref xo] [(xo, .inr (5, [.ref st, .ref sp, .ref th, .int (nI sn), .ref so, .ref sv, .ref pd, .int (nI ln), .int (nI ta), .int sg, .ref nu])), (st, .inl (E.2.1, 293, .inl g)), (sp, .inl (E.2.1, 293, .inl gp))] (mPrV g n) [(xo, .inr (5, [.ref st, .ref sp, .ref th, .int (nI sn), .ref so, .ref sv, .ref pd, .int (nI ln), .int (nI ta), .int sg, .ref nu])), (st, .inl (E.2.1, 293, .inl (mPrG g gp n))), (sp, .inl (E.2.1, 293, .inl (mPrP g gp n)))] := by
  refine rcI_of (by decide) (Nat.le_of_ble_eq_true rfl) ?_
  intro pg e s m below meth c Q A ls S hP hD0 hE hA hl hret
  have hx := S.1
  have hb := S.2.1
  have hown := S.2.2.2.1
  have hts := S.2.2.2.2
  have hK := hE.1
  have hS : va_S A s.heap s.heap [] := va_S.rf
  have hDa : va_Da A [xo, st, sp] := ⟨_, hD0, rfl⟩
  have hl : lv_has ls 3 [(0, .ref xo)] := hl
  refine lv_aload_n hx hb dX8_printsNeeded_0 rfl (lv_at hl 0 rfl) ?_
  refine va_get (D := E.1) (ci := 5) (v := .ref st) (C := RX8) (T := TX8) (N := 11) hx hb hts inb_X8 hown hK hP 0 rfl rfl 0 (by decide) (hts _ bw_710) (fun _ h9 => h9) rfl dX8_printsNeeded_1 ?_
  refine lv_iconst (v := nI 4) hx hb dX8_printsNeeded_4 (by decide) ?_
  refine rn_iald (i := 4) hx hb hK hP 1 0 rfl rfl (by omega) (by omega) dX8_printsNeeded_5 ?_
  refine W.eq (congrArg (fun z => F0 m 6 ls (.int z :: [])) (show g 4 = nI n from hf)) ?_
  refine rn_if_ne (a := n) (tgt := 12) hx hb (by omega) dX8_printsNeeded_6 (by decide) (fun c_1 => ?_) (fun c_1 => ?_)
  · refine lv_aload_n hx hb dX8_printsNeeded_12 rfl (lv_at hl 0 rfl) ?_
    refine rwVv0 (rest := []) S (c_X8_putAside l E xo st sp th so sv pd nu sn ln ta sg g gp) cd_X8_putAside bw_762 ⟨Nat.le_of_ble_eq_true rfl, Nat.le_of_ble_eq_true rfl⟩ ⟨Nat.zero_le _, Nat.zero_le _⟩ hP (hDa.to rfl) hE hA hS [0, 1, 2] rfl rfl [xo, st, sp] rfl rfl (ci := 5) rfl (q0 := 0) rfl (Nat.le_of_ble_eq_true rfl) hl.1 dX8_printsNeeded_13 (fun H locs hP _ hS => ?_)
    have hP : va_P E.1 vwCl [(xo, .inr (5, [.ref st, .ref sp, .ref th, .int (nI sn), .ref so, .ref sv, .ref pd, .int (nI ln), .int (nI ta), .int sg, .ref nu])), (st, .inl (E.2.1, 293, .inl g)), (sp, .inl (E.2.1, 293, .inl (va_cpy g gp 0 0 293)))] H := hP
    refine lv_iconst (v := nI 0) hx hb dX8_printsNeeded_16 (by decide) ?_
    refine lv_istore_n (lv' := [(1, .int (nI 0)), (0, .ref xo)]) hx hb dX8_printsNeeded_17 rfl hl (by decide) rfl (fun ls hl => ?_)
    refine lv_iconst (v := nI 0) hx hb dX8_printsNeeded_18 (by decide) ?_
    refine lv_istore_n (lv' := [(2, .int (nI 0)), (1, .int (nI 0)), (0, .ref xo)]) hx hb dX8_printsNeeded_19 rfl hl (by decide) rfl (fun ls hl => ?_)
    have loop20 : ∀ (fuel : Nat) (k : Nat), 20 - k < fuel → (k ≤ 20) → (∀ i, i < k → mGd g n i = 0) → ∀ (H : Heap) (locs : List Loc), va_P E.1 vwCl [(xo, .inr (5, [.ref st, .ref sp, .ref th, .int (nI sn), .ref so, .ref sv, .ref pd, .int (nI ln), .int (nI ta), .int sg, .ref nu])), (st, .inl (E.2.1, 293, .inl (mTf g n k))), (sp, .inl (E.2.1, 293, .inl (va_cpy g gp 0 0 293)))] H → va_S A s.heap H locs → ∀ ls : Array Slot, lv_has ls 3 [(2, .int (mGd g n k)), (1, .int (nI k)), (0, .ref xo)] → W pg l e (rq 5) s m ([.ref xo] : List Value).toArray below meth c H locs 0 0 Q (F0 m 20 ls []) := by
      intro fuel
      induction fuel with
      | zero => intro k h9; exact absurd h9 (Nat.not_lt_zero _)
      | succ fuel ih20 =>
        intro k hfu20 hk hall H locs hP hS ls hl
        refine lv_iload_n hx hb dX8_printsNeeded_20 rfl (lv_at hl 1 rfl) ?_
        refine lv_bipush (v := nI 20) hx hb dX8_printsNeeded_21 (by decide) ?_
        refine rn_icmp_ge (a := k) (b := 20) (tgt := 58) hx hb (by omega) (by omega) dX8_printsNeeded_23 (by decide) (fun c_2 => ?_) (fun c_2 => ?_)
        · have hk9 : mGk g n = k := by first | exact ffn_at hall c_2 (by omega) | exact ffn_nk hall (by omega)
          refine lv_aload_n hx hb dX8_printsNeeded_58 rfl (lv_at hl 2 rfl) ?_
          refine rwVv0 (rest := []) S (c_X8_takeBack l E xo st sp th so sv pd nu sn ln ta sg (mTf g n k) (va_cpy g gp 0 0 293)) cd_X8_takeBack bw_1028 ⟨Nat.le_of_ble_eq_true rfl, Nat.le_of_ble_eq_true rfl⟩ ⟨Nat.zero_le _, Nat.zero_le _⟩ hP (hDa.to rfl) hE hA hS [0, 1, 2] rfl rfl [xo, st, sp] rfl rfl (ci := 5) rfl (q0 := 0) rfl (Nat.le_of_ble_eq_true rfl) hl.1 dX8_printsNeeded_59 (fun H locs hP _ hS => ?_)
          have hP : va_P E.1 vwCl [(xo, .inr (5, [.ref st, .ref sp, .ref th, .int (nI sn), .ref so, .ref sv, .ref pd, .int (nI ln), .int (nI ta), .int sg, .ref nu])), (st, .inl (E.2.1, 293, .inl (va_cpy (va_cpy g gp 0 0 293) (mTf g n k) 0 0 293))), (sp, .inl (E.2.1, 293, .inl (va_cpy g gp 0 0 293)))] H := hP
          refine lv_iload_n hx hb dX8_printsNeeded_62 rfl (lv_at hl 0 rfl) ?_
          refine lv_if_eq (tgt := 70) hx hb dX8_printsNeeded_63 (by decide) (fun c_3 => ?_) (fun c_3 => ?_)
          · refine lv_bipush (v := (-6)) hx hb dX8_printsNeeded_70 (by decide) ?_
            exact hret _ _ _ _ _ _ (by first | rw [mPrV, if_neg c_1, hk9, if_pos c_3] | rw [mPrV, if_neg c_1, hk9, if_neg c_3]) (by rw [mPrG, mPrP, if_neg c_1, if_neg c_1, hk9]) rfl hP hS dX8_printsNeeded_72
          · refine lv_iload_n hx hb dX8_printsNeeded_66 rfl (lv_at hl 1 rfl) ?_
            refine lv_goto (tgt := 72) hx hb dX8_printsNeeded_67 (by decide) ?_
            exact hret _ _ _ _ _ _ (by first | rw [mPrV, if_neg c_1, hk9, if_pos c_3] | rw [mPrV, if_neg c_1, hk9, if_neg c_3]) (by rw [mPrG, mPrP, if_neg c_1, if_neg c_1, hk9]) rfl hP hS dX8_printsNeeded_72
        · refine lv_iload_n hx hb dX8_printsNeeded_26 rfl (lv_at hl 0 rfl) ?_
          refine lv_if_ne (tgt := 58) hx hb dX8_printsNeeded_27 (by decide) (fun c_4 => ?_) (fun c_4 => ?_)
          · have hk9 : mGk g n = k := by first | exact ffn_at hall c_4 (by omega) | exact ffn_nk hall (by omega)
            refine lv_aload_n hx hb dX8_printsNeeded_58 rfl (lv_at hl 2 rfl) ?_
            refine rwVv0 (rest := []) S (c_X8_takeBack l E xo st sp th so sv pd nu sn ln ta sg (mTf g n k) (va_cpy g gp 0 0 293)) cd_X8_takeBack bw_1028 ⟨Nat.le_of_ble_eq_true rfl, Nat.le_of_ble_eq_true rfl⟩ ⟨Nat.zero_le _, Nat.zero_le _⟩ hP (hDa.to rfl) hE hA hS [0, 1, 2] rfl rfl [xo, st, sp] rfl rfl (ci := 5) rfl (q0 := 0) rfl (Nat.le_of_ble_eq_true rfl) hl.1 dX8_printsNeeded_59 (fun H locs hP _ hS => ?_)
            have hP : va_P E.1 vwCl [(xo, .inr (5, [.ref st, .ref sp, .ref th, .int (nI sn), .ref so, .ref sv, .ref pd, .int (nI ln), .int (nI ta), .int sg, .ref nu])), (st, .inl (E.2.1, 293, .inl (va_cpy (va_cpy g gp 0 0 293) (mTf g n k) 0 0 293))), (sp, .inl (E.2.1, 293, .inl (va_cpy g gp 0 0 293)))] H := hP
            refine lv_iload_n hx hb dX8_printsNeeded_62 rfl (lv_at hl 0 rfl) ?_
            refine lv_if_eq (tgt := 70) hx hb dX8_printsNeeded_63 (by decide) (fun c_5 => absurd c_5 c_4) (fun _ => ?_)
            refine lv_iload_n hx hb dX8_printsNeeded_66 rfl (lv_at hl 1 rfl) ?_
            refine lv_goto (tgt := 72) hx hb dX8_printsNeeded_67 (by decide) ?_
            exact hret _ _ _ _ _ _ (by first | rw [mPrV, if_neg c_1, hk9, if_pos c_4] | rw [mPrV, if_neg c_1, hk9, if_neg c_4]) (by rw [mPrG, mPrP, if_neg c_1, if_neg c_1, hk9]) rfl hP hS dX8_printsNeeded_72
          · refine lv_aload_n hx hb dX8_printsNeeded_30 rfl (lv_at hl 2 rfl) ?_
            refine rwVv0 (rest := []) S (c_X8_makePrint l E xo st sp th so sv pd nu sn ln ta sg (mTf g n k) n ((mTf_4 g n k).trans hf) hn) cd_X8_makePrint bw_894 ⟨Nat.le_of_ble_eq_true rfl, Nat.le_of_ble_eq_true rfl⟩ ⟨Nat.zero_le _, Nat.zero_le _⟩ hP (hDa.to rfl) hE hA hS [0, 1] rfl rfl [xo, st] rfl rfl (ci := 5) rfl (q0 := 0) rfl (Nat.le_of_ble_eq_true rfl) hl.1 dX8_printsNeeded_31 (fun H locs hP _ hS => ?_)
            have hP : va_P E.1 vwCl [(xo, .inr (5, [.ref st, .ref sp, .ref th, .int (nI sn), .ref so, .ref sv, .ref pd, .int (nI ln), .int (nI ta), .int sg, .ref nu])), (st, .inl (E.2.1, 293, .inl (mKw (mTf g n k) n))), (sp, .inl (E.2.1, 293, .inl (va_cpy g gp 0 0 293)))] H := hP
            refine rn_inc (a := k) (d := 1) (lv' := [(1, .int (nI (k + 1))), (2, .int (mGd g n k)), (0, .ref xo)]) hx hb dX8_printsNeeded_34 hl (k := 1) rfl (by decide) (by decide) rfl (fun ls hl => ?_)
            refine lv_aload_n hx hb dX8_printsNeeded_37 rfl (lv_at hl 2 rfl) ?_
            refine rwV0 (rest := []) S (c_X8_badOnes l E xo st sp th so sv pd nu sn ln ta sg (mKw (mTf g n k) n) n ((mKw_4 (mTf g n k) n).trans ((mTf_4 g n k).trans hf)) hn) cd_X8_badOnes bw_917 ⟨Nat.le_of_ble_eq_true rfl, Nat.le_of_ble_eq_true rfl⟩ ⟨Nat.zero_le _, Nat.zero_le _⟩ hP (hDa.to rfl) hE hA hS [0, 1] rfl rfl [xo, st] rfl rfl (ci := 5) rfl (q0 := 0) rfl (Nat.le_of_ble_eq_true rfl) hl.1 dX8_printsNeeded_38 (fun H locs hP _ hS => ?_)
            have hP : va_P E.1 vwCl [(xo, .inr (5, [.ref st, .ref sp, .ref th, .int (nI sn), .ref so, .ref sv, .ref pd, .int (nI ln), .int (nI ta), .int sg, .ref nu])), (st, .inl (E.2.1, 293, .inl (mKw (mTf g n k) n))), (sp, .inl (E.2.1, 293, .inl (va_cpy g gp 0 0 293)))] H := hP
            refine lv_if_ne (tgt := 48) hx hb dX8_printsNeeded_41 (by decide) (fun c_6 => ?_) (fun c_6 => ?_)
            · refine lv_iconst (v := nI 0) hx hb dX8_printsNeeded_48 (by decide) ?_
              refine lv_istore_n (lv' := [(2, .int (nI 0)), (1, .int (nI (k + 1))), (0, .ref xo)]) hx hb dX8_printsNeeded_49 rfl hl (by decide) rfl (fun ls hl => ?_)
              refine lv_aload_n hx hb dX8_printsNeeded_50 rfl (lv_at hl 2 rfl) ?_
              refine rwV0 (rest := []) S (c_X8_correctsAll l E xo st sp th so sv pd nu sn ln ta sg (mKw (mTf g n k) n) n ((mKw_4 (mTf g n k) n).trans ((mTf_4 g n k).trans hf)) hn (by rw [mKw_0, mTf_0]; exact hst)) cd_X8_correctsAll bw_944 ⟨Nat.le_of_ble_eq_true rfl, Nat.le_of_ble_eq_true rfl⟩ ⟨Nat.zero_le _, Nat.zero_le _⟩ hP (hDa.to rfl) hE hA hS [0, 1] rfl rfl [xo, st] rfl rfl (ci := 5) rfl (q0 := 0) rfl (Nat.le_of_ble_eq_true rfl) hl.1 dX8_printsNeeded_51 (fun H locs hP _ hS => ?_)
              have hP : va_P E.1 vwCl [(xo, .inr (5, [.ref st, .ref sp, .ref th, .int (nI sn), .ref so, .ref sv, .ref pd, .int (nI ln), .int (nI ta), .int sg, .ref nu])), (st, .inl (E.2.1, 293, .inl (mZw (mKw (mTf g n k) n) n))), (sp, .inl (E.2.1, 293, .inl (va_cpy g gp 0 0 293)))] H := hP
              refine lv_pop hx hb dX8_printsNeeded_54 rfl ?_
              refine lv_goto (tgt := 20) hx hb dX8_printsNeeded_55 (by decide) ?_
              have hP : va_P E.1 vwCl [(xo, .inr (5, [.ref st, .ref sp, .ref th, .int (nI sn), .ref so, .ref sv, .ref pd, .int (nI ln), .int (nI ta), .int sg, .ref nu])), (st, .inl (E.2.1, 293, .inl (mTf g n (k + 1)))), (sp, .inl (E.2.1, 293, .inl (va_cpy g gp 0 0 293)))] H := by rw [mTf_s]; exact hP
              have hl : lv_has ls 3 [(2, .int (nI 0)), (1, .int (nI (k + 1))), (0, .ref xo)] := lv_sub hl [0, 1, 2] rfl
              have hl : lv_has ls 3 [(2, .int (mGd g n (k + 1))), (1, .int (nI (k + 1))), (0, .ref xo)] := by first | (rw [mGd_p c_6]; exact hl) | (rw [mGd_n c_6]; exact hl)
              exact ih20 (k + 1) (by omega) (by omega) (lt_s hall c_4) _ _ hP hS _ hl
            · refine lv_iconst (v := nI 1) hx hb dX8_printsNeeded_44 (by decide) ?_
              refine lv_goto (tgt := 49) hx hb dX8_printsNeeded_45 (by decide) ?_
              refine lv_istore_n (lv' := [(2, .int (nI 1)), (1, .int (nI (k + 1))), (0, .ref xo)]) hx hb dX8_printsNeeded_49 rfl hl (by decide) rfl (fun ls hl => ?_)
              refine lv_aload_n hx hb dX8_printsNeeded_50 rfl (lv_at hl 2 rfl) ?_
              refine rwV0 (rest := []) S (c_X8_correctsAll l E xo st sp th so sv pd nu sn ln ta sg (mKw (mTf g n k) n) n ((mKw_4 (mTf g n k) n).trans ((mTf_4 g n k).trans hf)) hn (by rw [mKw_0, mTf_0]; exact hst)) cd_X8_correctsAll bw_944 ⟨Nat.le_of_ble_eq_true rfl, Nat.le_of_ble_eq_true rfl⟩ ⟨Nat.zero_le _, Nat.zero_le _⟩ hP (hDa.to rfl) hE hA hS [0, 1] rfl rfl [xo, st] rfl rfl (ci := 5) rfl (q0 := 0) rfl (Nat.le_of_ble_eq_true rfl) hl.1 dX8_printsNeeded_51 (fun H locs hP _ hS => ?_)
              have hP : va_P E.1 vwCl [(xo, .inr (5, [.ref st, .ref sp, .ref th, .int (nI sn), .ref so, .ref sv, .ref pd, .int (nI ln), .int (nI ta), .int sg, .ref nu])), (st, .inl (E.2.1, 293, .inl (mZw (mKw (mTf g n k) n) n))), (sp, .inl (E.2.1, 293, .inl (va_cpy g gp 0 0 293)))] H := hP
              refine lv_pop hx hb dX8_printsNeeded_54 rfl ?_
              refine lv_goto (tgt := 20) hx hb dX8_printsNeeded_55 (by decide) ?_
              have hP : va_P E.1 vwCl [(xo, .inr (5, [.ref st, .ref sp, .ref th, .int (nI sn), .ref so, .ref sv, .ref pd, .int (nI ln), .int (nI ta), .int sg, .ref nu])), (st, .inl (E.2.1, 293, .inl (mTf g n (k + 1)))), (sp, .inl (E.2.1, 293, .inl (va_cpy g gp 0 0 293)))] H := by rw [mTf_s]; exact hP
              have hl : lv_has ls 3 [(2, .int (nI 1)), (1, .int (nI (k + 1))), (0, .ref xo)] := lv_sub hl [0, 1, 2] rfl
              have hl : lv_has ls 3 [(2, .int (mGd g n (k + 1))), (1, .int (nI (k + 1))), (0, .ref xo)] := by first | (rw [mGd_p c_6]; exact hl) | (rw [mGd_n c_6]; exact hl)
              exact ih20 (k + 1) (by omega) (by omega) (lt_s hall c_4) _ _ hP hS _ hl
    have hP : va_P E.1 vwCl [(xo, .inr (5, [.ref st, .ref sp, .ref th, .int (nI sn), .ref so, .ref sv, .ref pd, .int (nI ln), .int (nI ta), .int sg, .ref nu])), (st, .inl (E.2.1, 293, .inl (mTf g n 0))), (sp, .inl (E.2.1, 293, .inl (va_cpy g gp 0 0 293)))] H := by exact hP
    have hl : lv_has ls 3 [(2, .int (nI 0)), (1, .int (nI 0)), (0, .ref xo)] := lv_sub hl [0, 1, 2] rfl
    have hl : lv_has ls 3 [(2, .int (mGd g n 0)), (1, .int (nI 0)), (0, .ref xo)] := by exact hl
    exact loop20 _ 0 (Nat.lt_succ_self _) (by omega) (fun i h9 => absurd h9 (Nat.not_lt_zero i)) _ _ hP hS _ hl
  · refine lv_bipush (v := (-5)) hx hb dX8_printsNeeded_9 (by decide) ?_
    exact hret _ _ _ _ _ _ (by rw [mPrV, if_pos c_1]) (by rw [mPrG, mPrP, if_pos c_1, if_pos c_1]) rfl hP hS dX8_printsNeeded_11

