/-! the JDK's own methods over the text constants -/
theorem cd_J0_coder_7d493 : cdV RJ0 yJ0_coder_7d493 cJ0_coder_7d493 1 (some .byte) 0 := ⟨⟨bw_587, bw_69, by decide, by decide, by decide +kernel⟩, bw_585, bw_586⟩
set_option maxHeartbeats 4000000 in
set_option maxRecDepth 100000 in
theorem c_J0_coder_7d493 (l : Launch) (E : EV) (i : Nat) (hi : i < 9) : rcI l E yJ0_coder_7d493 cJ0_coder_7d493 1 .byte 0 [.ref (E.2.2.2.1 i)] [] (nI 0) [] := by
  refine rcI_of (by decide) (Nat.le_of_ble_eq_true rfl) ?_
  intro pg e s m below meth c Q A ls S hP hD0 hE hA hl hret
  have hx := S.1
  have hb := S.2.1
  have hown := S.2.2.2.1
  have hts := S.2.2.2.2
  have hK := hE.1
  have hS : va_S A s.heap s.heap [] := va_S.rf
  have hDa : va_Da A [] := ⟨_, hD0, rfl⟩
  have hl : lv_has ls 1 [(0, .ref (E.2.2.2.1 i))] := hl
  refine va_gets hx hb hE.2.2.2.2.2.2.2.1 hS hown (hts _ bw_588) (fun _ h9 => h9) dJ0_coder_7d493_0 ?_
  refine lv_if_eq (tgt := 13) hx hb dJ0_coder_7d493_3 (by decide) (fun c9 => by first | exact absurd c9 (by decide) | exact absurd (by decide) c9) (fun _ => ?_)
  refine lv_aload_n hx hb dJ0_coder_7d493_6 rfl (lv_at hl 0 rfl) ?_
  refine vk_getf hx hb (hE.2.2.2.2.2.2.1.1 i (by omega)).2.1 hS hown (hts _ bw_1089) (fun _ h9 => h9) dJ0_coder_7d493_7 ?_
  refine lv_goto (tgt := 14) hx hb dJ0_coder_7d493_10 (by decide) ?_
  exact hret _ _ _ _ _ _ rfl rfl (by decide) hP hS dJ0_coder_7d493_14

theorem cd_J0_isLatin1_aae02 : cdV RJ0 yJ0_isLatin1_aae02 cJ0_isLatin1_aae02 1 (some .boolean) 0 := ⟨⟨bw_597, bw_69, by decide, by decide, by decide +kernel⟩, bw_595, bw_596⟩
set_option maxHeartbeats 4000000 in
set_option maxRecDepth 100000 in
theorem c_J0_isLatin1_aae02 (l : Launch) (E : EV) (i : Nat) (hi : i < 9) : rcI l E yJ0_isLatin1_aae02 cJ0_isLatin1_aae02 1 .boolean 0 [.ref (E.2.2.2.1 i)] [] (nI 1) [] := by
  refine rcI_of (by decide) (Nat.le_of_ble_eq_true rfl) ?_
  intro pg e s m below meth c Q A ls S hP hD0 hE hA hl hret
  have hx := S.1
  have hb := S.2.1
  have hown := S.2.2.2.1
  have hts := S.2.2.2.2
  have hK := hE.1
  have hS : va_S A s.heap s.heap [] := va_S.rf
  have hDa : va_Da A [] := ⟨_, hD0, rfl⟩
  have hl : lv_has ls 1 [(0, .ref (E.2.2.2.1 i))] := hl
  refine va_gets hx hb hE.2.2.2.2.2.2.2.1 hS hown (hts _ bw_588) (fun _ h9 => h9) dJ0_isLatin1_aae02_0 ?_
  refine lv_if_eq (tgt := 17) hx hb dJ0_isLatin1_aae02_3 (by decide) (fun c9 => by first | exact absurd c9 (by decide) | exact absurd (by decide) c9) (fun _ => ?_)
  refine lv_aload_n hx hb dJ0_isLatin1_aae02_6 rfl (lv_at hl 0 rfl) ?_
  refine vk_getf hx hb (hE.2.2.2.2.2.2.1.1 i (by omega)).2.1 hS hown (hts _ bw_1089) (fun _ h9 => h9) dJ0_isLatin1_aae02_7 ?_
  refine lv_if_ne (tgt := 17) hx hb dJ0_isLatin1_aae02_10 (by decide) (fun c9 => by first | exact absurd c9 (by decide) | exact absurd (by decide) c9) (fun _ => ?_)
  refine lv_iconst (v := nI 1) hx hb dJ0_isLatin1_aae02_13 (by decide) ?_
  refine lv_goto (tgt := 18) hx hb dJ0_isLatin1_aae02_14 (by decide) ?_
  exact hret _ _ _ _ _ _ rfl rfl (by decide) hP hS dJ0_isLatin1_aae02_18

theorem cd_J0_length_8abf5 : cdV RJ0 yJ0_length_8abf5 cJ0_length_8abf5 1 (some .int) 0 := ⟨⟨bw_583, bw_69, by decide, by decide, by decide +kernel⟩, bw_581, bw_582⟩
set_option maxHeartbeats 4000000 in
set_option maxRecDepth 100000 in
theorem c_J0_length_8abf5 (l : Launch) (E : EV) (i : Nat) (hi : i < 9) : rcI l E yJ0_length_8abf5 cJ0_length_8abf5 1 .int 1 [.ref (E.2.2.2.1 i)] [] (nI (lenS.getD i 0)) [] := by
  refine rcI_of (by decide) (Nat.le_of_ble_eq_true rfl) ?_
  intro pg e s m below meth c Q A ls S hP hD0 hE hA hl hret
  have hx := S.1
  have hb := S.2.1
  have hown := S.2.2.2.1
  have hts := S.2.2.2.2
  have hK := hE.1
  have hS : va_S A s.heap s.heap [] := va_S.rf
  have hDa : va_Da A [] := ⟨_, hD0, rfl⟩
  have hl : lv_has ls 1 [(0, .ref (E.2.2.2.1 i))] := hl
  have hlen := lenS_le i hi
  refine lv_aload_n hx hb dJ0_length_8abf5_0 rfl (lv_at hl 0 rfl) ?_
  refine vk_getf hx hb (hE.2.2.2.2.2.2.1.1 i (by omega)).2.2.1 hS hown (hts _ bw_1088) (fun _ h9 => h9) dJ0_length_8abf5_1 ?_
  refine va_tlen (v := nI (lenS.getD i 0)) hx hb (hE.2.2.2.2.2.2.1.1 i (by omega)).2.2.2 hS rfl dJ0_length_8abf5_4 ?_
  refine lv_aload_n hx hb dJ0_length_8abf5_5 rfl (lv_at hl 0 rfl) ?_
  refine rwK0 (rest := [.int (nI (lenS.getD i 0))]) S (c_J0_coder_7d493 l E i hi) cd_J0_coder_7d493 bw_584 ⟨Nat.le_of_ble_eq_true rfl, Nat.le_of_ble_eq_true rfl⟩ ⟨Nat.zero_le _, Nat.zero_le _⟩ hP (hDa.to rfl) hE hA hS [] rfl rfl [] rfl rfl (vk_recv hE.2.2.2.2.2.2.1 (i := i) (by omega) hS) (Nat.le_of_ble_eq_true rfl) hl.1 dJ0_length_8abf5_6 (fun H locs hP _ hS => ?_)
  have hP : va_P E.1 vwCl [] H := hP
  refine lv_ishr hx hb dJ0_length_8abf5_9 ?_
  exact hret _ _ _ _ _ _ (sc_shr0 (by omega)) rfl rfl hP hS dJ0_length_8abf5_10

theorem cd_J0_isEmpty_aae02 : cdV RJ0 yJ0_isEmpty_aae02 cJ0_isEmpty_aae02 1 (some .boolean) 0 := ⟨⟨bw_647, bw_69, by decide, by decide, by decide +kernel⟩, bw_645, bw_646⟩
def jEm (i : Nat) : Int32 := if lenS.getD i 0 = 0 then nI 1 else nI 0
theorem jEm_z (i : Nat) : narrow .boolean (.int (jEm i)) = .int (jEm i) := by
  unfold jEm
  repeat' split
  all_goals first | decide | rfl
set_option maxHeartbeats 4000000 in
set_option maxRecDepth 100000 in
theorem c_J0_isEmpty_aae02 (l : Launch) (E : EV) (i : Nat) (hi : i < 9) : rcI l E yJ0_isEmpty_aae02 cJ0_isEmpty_aae02 1 .boolean 0 [.ref (E.2.2.2.1 i)] [] (jEm i) [] := by
  refine rcI_of (by decide) (Nat.le_of_ble_eq_true rfl) ?_
  intro pg e s m below meth c Q A ls S hP hD0 hE hA hl hret
  have hx := S.1
  have hb := S.2.1
  have hown := S.2.2.2.1
  have hts := S.2.2.2.2
  have hK := hE.1
  have hS : va_S A s.heap s.heap [] := va_S.rf
  have hDa : va_Da A [] := ⟨_, hD0, rfl⟩
  have hl : lv_has ls 1 [(0, .ref (E.2.2.2.1 i))] := hl
  have hlen := lenS_le i hi
  refine lv_aload_n hx hb dJ0_isEmpty_aae02_0 rfl (lv_at hl 0 rfl) ?_
  refine vk_getf hx hb (hE.2.2.2.2.2.2.1.1 i (by omega)).2.2.1 hS hown (hts _ bw_1088) (fun _ h9 => h9) dJ0_isEmpty_aae02_1 ?_
  refine va_tlen (v := nI (lenS.getD i 0)) hx hb (hE.2.2.2.2.2.2.1.1 i (by omega)).2.2.2 hS rfl dJ0_isEmpty_aae02_4 ?_
  refine rn_if_ne (a := lenS.getD i 0) (tgt := 12) hx hb (by omega) dJ0_isEmpty_aae02_5 (by decide) (fun c_1 => ?_) (fun c_1 => ?_)
  · refine lv_iconst (v := nI 0) hx hb dJ0_isEmpty_aae02_12 (by decide) ?_
    exact hret _ _ _ _ _ _ (by rw [jEm, if_neg c_1]) rfl (by decide) hP hS dJ0_isEmpty_aae02_13
  · refine lv_iconst (v := nI 1) hx hb dJ0_isEmpty_aae02_8 (by decide) ?_
    refine lv_goto (tgt := 13) hx hb dJ0_isEmpty_aae02_9 (by decide) ?_
    exact hret _ _ _ _ _ _ (by rw [jEm, if_pos c_1]) rfl (by decide) hP hS dJ0_isEmpty_aae02_13

theorem cd_J3_checkIndex_8e157 : cdS yJ3_checkIndex_8e157 cJ3_checkIndex_8e157 3 (some .int) 3 := ⟨⟨bw_608, bw_71, by decide, by decide, by decide +kernel⟩, bw_607⟩
set_option maxHeartbeats 4000000 in
set_option maxRecDepth 100000 in
theorem c_J3_checkIndex_8e157 (l : Launch) (E : EV) (x : Nat) (z : Nat) (hxz : x < z) (hz : z < 2 ^ 31) : rcI l E yJ3_checkIndex_8e157 cJ3_checkIndex_8e157 3 .int 0 [.int (nI x), .int (nI z), .null] [] (nI x) [] := by
  refine rcI_of (by decide) (Nat.le_of_ble_eq_true rfl) ?_
  intro pg e s m below meth c Q A ls S hP hD0 hE hA hl hret
  have hx := S.1
  have hb := S.2.1
  have hown := S.2.2.2.1
  have hts := S.2.2.2.2
  have hK := hE.1
  have hS : va_S A s.heap s.heap [] := va_S.rf
  have hDa : va_Da A [] := ⟨_, hD0, rfl⟩
  have hl : lv_has ls 3 [(0, .int (nI x)), (1, .int (nI z)), (2, .null)] := hl
  refine lv_iload_n hx hb dJ3_checkIndex_8e157_0 rfl (lv_at hl 0 rfl) ?_
  refine lv_if_lt (tgt := 9) hx hb dJ3_checkIndex_8e157_1 (by decide) (fun c9 => absurd c9 (nI_pos (by omega))) (fun _ => ?_)
  refine lv_iload_n hx hb dJ3_checkIndex_8e157_4 rfl (lv_at hl 0 rfl) ?_
  refine lv_iload_n hx hb dJ3_checkIndex_8e157_5 rfl (lv_at hl 1 rfl) ?_
  refine rn_icmp_lt (a := x) (b := z) (tgt := 16) hx hb (by omega) (by omega) dJ3_checkIndex_8e157_6 (by decide) (fun c_1 => ?_) (fun c_1 => absurd c_1 (by omega))
  refine lv_iload_n hx hb dJ3_checkIndex_8e157_16 rfl (lv_at hl 0 rfl) ?_
  exact hret _ _ _ _ _ _ rfl rfl rfl hP hS dJ3_checkIndex_8e157_17

set_option maxHeartbeats 4000000 in
set_option maxRecDepth 100000 in
theorem c_J3_checkIndex_8e157_r (l : Launch) (E : EV) (x : Nat) (z : Nat) (t : Nat) (hxz : x < z) (hz : z < 2 ^ 31) : rcI l E yJ3_checkIndex_8e157 cJ3_checkIndex_8e157 3 .int 0 [.int (nI x), .int (nI z), .ref t] [] (nI x) [] := by
  refine rcI_of (by decide) (Nat.le_of_ble_eq_true rfl) ?_
  intro pg e s m below meth c Q A ls S hP hD0 hE hA hl hret
  have hx := S.1
  have hb := S.2.1
  have hown := S.2.2.2.1
  have hts := S.2.2.2.2
  have hK := hE.1
  have hS : va_S A s.heap s.heap [] := va_S.rf
  have hDa : va_Da A [] := ⟨_, hD0, rfl⟩
  have hl : lv_has ls 3 [(0, .int (nI x)), (1, .int (nI z)), (2, .ref t)] := hl
  refine lv_iload_n hx hb dJ3_checkIndex_8e157_0 rfl (lv_at hl 0 rfl) ?_
  refine lv_if_lt (tgt := 9) hx hb dJ3_checkIndex_8e157_1 (by decide) (fun c9 => absurd c9 (nI_pos (by omega))) (fun _ => ?_)
  refine lv_iload_n hx hb dJ3_checkIndex_8e157_4 rfl (lv_at hl 0 rfl) ?_
  refine lv_iload_n hx hb dJ3_checkIndex_8e157_5 rfl (lv_at hl 1 rfl) ?_
  refine rn_icmp_lt (a := x) (b := z) (tgt := 16) hx hb (by omega) (by omega) dJ3_checkIndex_8e157_6 (by decide) (fun c_1 => ?_) (fun c_1 => absurd c_1 (by omega))
  refine lv_iload_n hx hb dJ3_checkIndex_8e157_16 rfl (lv_at hl 0 rfl) ?_
  exact hret _ _ _ _ _ _ rfl rfl rfl hP hS dJ3_checkIndex_8e157_17

theorem cd_J0_checkIndex_df160 : cdS yJ0_checkIndex_df160 cJ0_checkIndex_df160 2 none 2 := ⟨⟨bw_603, bw_69, by decide, by decide, by decide +kernel⟩, bw_602⟩
set_option maxHeartbeats 4000000 in
set_option maxRecDepth 100000 in
theorem c_J0_checkIndex_df160 (l : Launch) (E : EV) (x : Nat) (z : Nat) (hxz : x < z) (hz : z < 2 ^ 31) : rcV l E yJ0_checkIndex_df160 cJ0_checkIndex_df160 2 1 [.int (nI x), .int (nI z)] [] [] := by
  refine rcV_of (by decide) (Nat.le_of_ble_eq_true rfl) ?_
  intro pg e s m below meth c Q A ls S hP hD0 hE hA hl hret
  have hx := S.1
  have hb := S.2.1
  have hown := S.2.2.2.1
  have hts := S.2.2.2.2
  have hK := hE.1
  have hS : va_S A s.heap s.heap [] := va_S.rf
  have hDa : va_Da A [] := ⟨_, hD0, rfl⟩
  have hl : lv_has ls 2 [(0, .int (nI x)), (1, .int (nI z))] := hl
  refine lv_iload_n hx hb dJ0_checkIndex_df160_0 rfl (lv_at hl 0 rfl) ?_
  refine lv_iload_n hx hb dJ0_checkIndex_df160_1 rfl (lv_at hl 1 rfl) ?_
  rcases hE.2.2.2.2.2.2.2.2 with hZq | ⟨tq, hZq⟩
  · refine va_gets hx hb hZq hS hown (hts _ bw_604) (fun _ h9 => h9) dJ0_checkIndex_df160_2 ?_
    refine rwS3 (rest := []) S (c_J3_checkIndex_8e157 l E x z hxz hz) cd_J3_checkIndex_8e157 bw_606 ⟨Nat.le_of_ble_eq_true rfl, Nat.le_of_ble_eq_true rfl⟩ ⟨Nat.zero_le _, Nat.zero_le _⟩ hP (hDa.to rfl) hE hA hS [] rfl rfl [] rfl rfl (Nat.le_of_ble_eq_true rfl) hl.1 dJ0_checkIndex_df160_5 (fun H locs hP _ hS => ?_)
    have hP : va_P E.1 vwCl [] H := hP
    refine lv_pop hx hb dJ0_checkIndex_df160_8 rfl ?_
    exact hret _ _ _ _ _ rfl hP hS dJ0_checkIndex_df160_9
  · refine va_gets hx hb hZq hS hown (hts _ bw_604) (fun _ h9 => h9) dJ0_checkIndex_df160_2 ?_
    refine rwS3 (rest := []) S (c_J3_checkIndex_8e157_r l E x z tq hxz hz) cd_J3_checkIndex_8e157 bw_606 ⟨Nat.le_of_ble_eq_true rfl, Nat.le_of_ble_eq_true rfl⟩ ⟨Nat.zero_le _, Nat.zero_le _⟩ hP (hDa.to rfl) hE hA hS [] rfl rfl [] rfl rfl (Nat.le_of_ble_eq_true rfl) hl.1 dJ0_checkIndex_df160_5 (fun H locs hP _ hS => ?_)
    have hP : va_P E.1 vwCl [] H := hP
    refine lv_pop hx hb dJ0_checkIndex_df160_8 rfl ?_
    exact hret _ _ _ _ _ rfl hP hS dJ0_checkIndex_df160_9

/-- the char at a place of a text constant -/
def sCh (i k : Nat) : Int32 := (bytS.getD i []).getD k 0 &&& 255
theorem sCh_z (i k : Nat) : narrow .char (.int (sCh i k)) = .int (sCh i k) := sc_nar _
theorem cd_J1_charAt_3b067 : cdS yJ1_charAt_3b067 cJ1_charAt_3b067 2 (some .char) 2 := ⟨⟨bw_600, bw_70, by decide, by decide, by decide +kernel⟩, bw_599⟩
set_option maxHeartbeats 4000000 in
set_option maxRecDepth 100000 in
theorem c_J1_charAt_3b067 (l : Launch) (E : EV) (i : Nat) (k : Nat) (hi : i < 9) (hk : k < lenS.getD i 0) : rcI l E yJ1_charAt_3b067 cJ1_charAt_3b067 2 .char 2 [.ref (E.2.2.2.2 i), .int (nI k)] [] (sCh i k) [] := by
  refine rcI_of (by decide) (Nat.le_of_ble_eq_true rfl) ?_
  intro pg e s m below meth c Q A ls S hP hD0 hE hA hl hret
  have hx := S.1
  have hb := S.2.1
  have hown := S.2.2.2.1
  have hts := S.2.2.2.2
  have hK := hE.1
  have hS : va_S A s.heap s.heap [] := va_S.rf
  have hDa : va_Da A [] := ⟨_, hD0, rfl⟩
  have hl : lv_has ls 2 [(0, .ref (E.2.2.2.2 i)), (1, .int (nI k))] := hl
  have hlen := lenS_le i hi
  refine lv_iload_n hx hb dJ1_charAt_3b067_0 rfl (lv_at hl 1 rfl) ?_
  refine lv_aload_n hx hb dJ1_charAt_3b067_1 rfl (lv_at hl 0 rfl) ?_
  refine va_tlen (v := nI (lenS.getD i 0)) hx hb (hE.2.2.2.2.2.2.1.1 i (by omega)).2.2.2 hS rfl dJ1_charAt_3b067_2 ?_
  refine rwSv2 (rest := []) S (c_J0_checkIndex_df160 l E k (lenS.getD i 0) (by omega) (by omega)) cd_J0_checkIndex_df160 bw_601 ⟨Nat.le_of_ble_eq_true rfl, Nat.le_of_ble_eq_true rfl⟩ ⟨Nat.zero_le _, Nat.zero_le _⟩ hP (hDa.to rfl) hE hA hS [] rfl rfl [] rfl rfl (Nat.le_of_ble_eq_true rfl) hl.1 dJ1_charAt_3b067_3 (fun H locs hP _ hS => ?_)
  have hP : va_P E.1 vwCl [] H := hP
  refine lv_aload_n hx hb dJ1_charAt_3b067_6 rfl (lv_at hl 0 rfl) ?_
  refine lv_iload_n hx hb dJ1_charAt_3b067_7 rfl (lv_at hl 1 rfl) ?_
  refine va_tb (v := .int ((bytS.getD i []).getD k 0)) hx hb (hE.2.2.2.2.2.2.1.1 i (by omega)).2.2.2 hS (vp_in_nI (by omega) (by omega)) (by rw [nI_clamp (by omega)]) dJ1_charAt_3b067_8 ?_
  refine lv_sipush (v := nI 255) hx hb dJ1_charAt_3b067_9 (by decide) ?_
  refine lv_iand hx hb dJ1_charAt_3b067_12 ?_
  refine lv_i2c hx hb dJ1_charAt_3b067_13 rfl ?_
  refine W.eq (congrArg (fun z => F0 m 14 ls (.int z :: [])) (show ((((bytS.getD i []).getD k 0) &&& (nI 255)).toUInt32 % 65536).toInt32 = (bytS.getD i []).getD k 0 &&& 255 from sc_c2 _)) ?_
  exact hret _ _ _ _ _ _ rfl rfl (by first | (with_reducible exact sc_nar _) | assumption) hP hS dJ1_charAt_3b067_14

theorem cd_J0_charAt_5068e : cdV RJ0 yJ0_charAt_5068e cJ0_charAt_5068e 2 (some .char) 1 := ⟨⟨bw_593, bw_69, by decide, by decide, by decide +kernel⟩, bw_591, bw_592⟩
set_option maxHeartbeats 4000000 in
set_option maxRecDepth 100000 in
theorem c_J0_charAt_5068e (l : Launch) (E : EV) (i : Nat) (k : Nat) (hi : i < 9) (hk : k < lenS.getD i 0) : rcI l E yJ0_charAt_5068e cJ0_charAt_5068e 2 .char 3 [.ref (E.2.2.2.1 i), .int (nI k)] [] (sCh i k) [] := by
  refine rcI_of (by decide) (Nat.le_of_ble_eq_true rfl) ?_
  intro pg e s m below meth c Q A ls S hP hD0 hE hA hl hret
  have hx := S.1
  have hb := S.2.1
  have hown := S.2.2.2.1
  have hts := S.2.2.2.2
  have hK := hE.1
  have hS : va_S A s.heap s.heap [] := va_S.rf
  have hDa : va_Da A [] := ⟨_, hD0, rfl⟩
  have hl : lv_has ls 2 [(0, .ref (E.2.2.2.1 i)), (1, .int (nI k))] := hl
  have hlen := lenS_le i hi
  refine lv_aload_n hx hb dJ0_charAt_5068e_0 rfl (lv_at hl 0 rfl) ?_
  refine rwK0 (rest := []) S (c_J0_isLatin1_aae02 l E i hi) cd_J0_isLatin1_aae02 bw_594 ⟨Nat.le_of_ble_eq_true rfl, Nat.le_of_ble_eq_true rfl⟩ ⟨Nat.zero_le _, Nat.zero_le _⟩ hP (hDa.to rfl) hE hA hS [] rfl rfl [] rfl rfl (vk_recv hE.2.2.2.2.2.2.1 (i := i) (by omega) hS) (Nat.le_of_ble_eq_true rfl) hl.1 dJ0_charAt_5068e_1 (fun H locs hP _ hS => ?_)
  have hP : va_P E.1 vwCl [] H := hP
  refine lv_if_eq (tgt := 16) hx hb dJ0_charAt_5068e_4 (by decide) (fun c9 => by first | exact absurd c9 (by decide) | exact absurd (by decide) c9) (fun _ => ?_)
  refine lv_aload_n hx hb dJ0_charAt_5068e_7 rfl (lv_at hl 0 rfl) ?_
  refine vk_getf hx hb (hE.2.2.2.2.2.2.1.1 i (by omega)).2.2.1 hS hown (hts _ bw_1088) (fun _ h9 => h9) dJ0_charAt_5068e_8 ?_
  refine lv_iload_n hx hb dJ0_charAt_5068e_11 rfl (lv_at hl 1 rfl) ?_
  refine rwS2 (rest := []) S (c_J1_charAt_3b067 l E i k hi hk) cd_J1_charAt_3b067 bw_598 ⟨Nat.le_of_ble_eq_true rfl, Nat.le_of_ble_eq_true rfl⟩ ⟨Nat.zero_le _, Nat.zero_le _⟩ hP (hDa.to rfl) hE hA hS [] rfl rfl [] rfl rfl (Nat.le_of_ble_eq_true rfl) hl.1 dJ0_charAt_5068e_12 (fun H locs hP _ hS => ?_)
  have hP : va_P E.1 vwCl [] H := hP
  exact hret _ _ _ _ _ _ rfl rfl (by first | (with_reducible exact sCh_z _ _) | assumption) hP hS dJ0_charAt_5068e_15

