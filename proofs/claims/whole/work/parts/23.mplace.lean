/-! the reference: places opened and shut, what comes, moves, splits, joins -/
theorem cd_X8_isJump : cdV RX8 yX8_isJump cX8_isJump 4 (some .boolean) 1 := ⟨⟨bw_971, bw_65, by decide, by decide, by decide +kernel⟩, bw_970, bw_41⟩
def mJu (g : Nat → Int32) (n : Nat) (p : Nat) : Int32 := if n ≤ p + 1 then nI 0 else if mAb (mPn g p 0 - (mPn g (p + 1) 0)) ≤ g 2 then if mAb (mPn g p 1 - (mPn g (p + 1) 1)) ≤ g 2 then if mAb (mPn g p 2 - (mPn g (p + 1) 2)) ≤ g 2 then nI 0 else nI 1 else nI 1 else nI 1
theorem mJu_z (g : Nat → Int32) (n : Nat) (p : Nat) : narrow .boolean (.int (mJu g n p)) = .int (mJu g n p) := by
  unfold mJu
  repeat' split
  all_goals first | decide | rfl
set_option maxHeartbeats 4000000 in
set_option maxRecDepth 100000 in
theorem c_X8_isJump (l : Launch) (E : EV) (xo : Nat) (st : Nat) (sp : Nat) (th : Nat) (so : Nat) (sv : Nat) (pd : Nat) (nu : Nat) (sn : Nat) (ln : Nat) (ta : Nat) (sg : Int32) (g : Nat → Int32) (n : Nat) (p : Nat) (hf : g 4 = nI n) (hn : n ≤ 20) (hp : p < 20) : rcI l E yX8_isJump cX8_isJump 4 .boolean 3 [.ref xo, .int (nI p)] [(xo, .inr (5, [.ref st, .ref sp, .ref th, .int (nI sn), .ref so, .ref sv, .ref pd, .int (nI ln), .int (nI ta), .int sg, .ref nu])), (st, .inl (E.2.1, 293, .inl g))] (mJu g n p) [(xo, .inr (5, [.ref st, .ref sp, .ref th, .int (nI sn), .ref so, .ref sv, .ref pd, .int (nI ln), .int (nI ta), .int sg, .ref nu])), (st, .inl (E.2.1, 293, .inl g))] := by
  refine rcI_of (by decide) (Nat.le_of_ble_eq_true rfl) ?_
  intro pg e s m below meth c Q A ls S hP hD0 hE hA hl hret
  have hx := S.1
  have hb := S.2.1
  have hown := S.2.2.2.1
  have hts := S.2.2.2.2
  have hK := hE.1
  have hS : va_S A s.heap s.heap [] := va_S.rf
  have hDa : va_Da A [xo, st] := ⟨_, hD0, rfl⟩
  have hl : lv_has ls 4 [(0, .ref xo), (1, .int (nI p))] := hl
  refine lv_iconst (v := nI 0) hx hb dX8_isJump_0 (by decide) ?_
  refine lv_istore_n (lv' := [(2, .int (nI 0)), (0, .ref xo), (1, .int (nI p))]) hx hb dX8_isJump_1 rfl hl (by decide) rfl (fun ls hl => ?_)
  refine lv_iconst (v := nI 0) hx hb dX8_isJump_2 (by decide) ?_
  refine lv_istore_n (lv' := [(3, .int (nI 0)), (2, .int (nI 0)), (0, .ref xo), (1, .int (nI p))]) hx hb dX8_isJump_3 rfl hl (by decide) rfl (fun ls hl => ?_)
  refine lv_iload_n hx hb dX8_isJump_4 rfl (lv_at hl 0 rfl) ?_
  refine lv_iconst (v := nI 3) hx hb dX8_isJump_5 (by decide) ?_
  refine rn_icmp_ge (a := 0) (b := 3) (tgt := 64) hx hb (by omega) (by omega) dX8_isJump_6 (by decide) (fun c_1 => absurd c_1 (by omega)) (fun c_1 => ?_)
  refine lv_iload_n hx hb dX8_isJump_9 rfl (lv_at hl 3 rfl) ?_
  refine lv_iconst (v := nI 1) hx hb dX8_isJump_10 (by decide) ?_
  refine rn_add (a := p) (b := 1) hx hb dX8_isJump_11 ?_
  refine lv_aload_n hx hb dX8_isJump_12 rfl (lv_at hl 2 rfl) ?_
  refine va_get (D := E.1) (ci := 5) (v := .ref st) (C := RX8) (T := TX8) (N := 11) hx hb hts inb_X8 hown hK hP 0 rfl rfl 0 (by decide) (hts _ bw_710) (fun _ h9 => h9) rfl dX8_isJump_13 ?_
  refine lv_iconst (v := nI 4) hx hb dX8_isJump_16 (by decide) ?_
  refine rn_iald (i := 4) hx hb hK hP 1 0 rfl rfl (by omega) (by omega) dX8_isJump_17 ?_
  refine W.eq (congrArg (fun z => F0 m 18 ls (.int z :: [.int (nI (p + 1))])) (show g 4 = nI n from hf)) ?_
  refine rn_icmp_ge (a := p + 1) (b := n) (tgt := 64) hx hb (by omega) (by omega) dX8_isJump_18 (by decide) (fun c_2 => ?_) (fun c_2 => ?_)
  · refine lv_iload_n hx hb dX8_isJump_64 rfl (lv_at hl 1 rfl) ?_
    exact hret _ _ _ _ _ _ (by rw [mJu, if_pos c_2]) rfl (by decide) hP hS dX8_isJump_65
  · refine lv_iload_n hx hb dX8_isJump_21 rfl (lv_at hl 1 rfl) ?_
    refine lv_if_ne (tgt := 52) hx hb dX8_isJump_22 (by decide) (fun c9 => by first | exact absurd c9 (by decide) | exact absurd (by decide) c9) (fun _ => ?_)
    refine lv_aload_n hx hb dX8_isJump_25 rfl (lv_at hl 2 rfl) ?_
    refine lv_iload_n hx hb dX8_isJump_26 rfl (lv_at hl 3 rfl) ?_
    refine lv_iload_n hx hb dX8_isJump_27 rfl (lv_at hl 0 rfl) ?_
    refine rwV2 (rest := []) S (c_X8_prints l E xo st sp th so sv pd nu sn ln ta sg g p 0 hp (by omega)) cd_X8_prints bw_902 ⟨Nat.le_of_ble_eq_true rfl, Nat.le_of_ble_eq_true rfl⟩ ⟨Nat.zero_le _, Nat.zero_le _⟩ hP (hDa.to rfl) hE hA hS [0, 1] rfl rfl [xo, st] rfl rfl (ci := 5) rfl (q0 := 0) rfl (Nat.le_of_ble_eq_true rfl) hl.1 dX8_isJump_28 (fun H locs hP _ hS => ?_)
    have hP : va_P E.1 vwCl [(xo, .inr (5, [.ref st, .ref sp, .ref th, .int (nI sn), .ref so, .ref sv, .ref pd, .int (nI ln), .int (nI ta), .int sg, .ref nu])), (st, .inl (E.2.1, 293, .inl g))] H := hP
    refine lv_aload_n hx hb dX8_isJump_31 rfl (lv_at hl 2 rfl) ?_
    refine lv_iload_n hx hb dX8_isJump_32 rfl (lv_at hl 3 rfl) ?_
    refine lv_iconst (v := nI 1) hx hb dX8_isJump_33 (by decide) ?_
    refine rn_add (a := p) (b := 1) hx hb dX8_isJump_34 ?_
    refine lv_iload_n hx hb dX8_isJump_35 rfl (lv_at hl 0 rfl) ?_
    refine rwV2 (rest := [.int (mPn g p 0)]) S (c_X8_prints l E xo st sp th so sv pd nu sn ln ta sg g (p + 1) 0 (by omega) (by omega)) cd_X8_prints bw_902 ⟨Nat.le_of_ble_eq_true rfl, Nat.le_of_ble_eq_true rfl⟩ ⟨Nat.zero_le _, Nat.zero_le _⟩ hP (hDa.to rfl) hE hA hS [0, 1] rfl rfl [xo, st] rfl rfl (ci := 5) rfl (q0 := 0) rfl (Nat.le_of_ble_eq_true rfl) hl.1 dX8_isJump_36 (fun H locs hP _ hS => ?_)
    have hP : va_P E.1 vwCl [(xo, .inr (5, [.ref st, .ref sp, .ref th, .int (nI sn), .ref so, .ref sv, .ref pd, .int (nI ln), .int (nI ta), .int sg, .ref nu])), (st, .inl (E.2.1, 293, .inl g))] H := hP
    refine lv_isub hx hb dX8_isJump_39 ?_
    refine rwS1 (rest := []) S (c_X8_sizeOf l E (mPn g p 0 - (mPn g (p + 1) 0))) cd_X8_sizeOf bw_851 ⟨Nat.le_of_ble_eq_true rfl, Nat.le_of_ble_eq_true rfl⟩ ⟨Nat.zero_le _, Nat.zero_le _⟩ hP (hDa.to rfl) hE hA hS [] rfl rfl [] rfl rfl (Nat.le_of_ble_eq_true rfl) hl.1 dX8_isJump_40 (fun H locs hP _ hS => ?_)
    have hP : va_P E.1 vwCl [(xo, .inr (5, [.ref st, .ref sp, .ref th, .int (nI sn), .ref so, .ref sv, .ref pd, .int (nI ln), .int (nI ta), .int sg, .ref nu])), (st, .inl (E.2.1, 293, .inl g))] H := hP
    refine lv_aload_n hx hb dX8_isJump_43 rfl (lv_at hl 2 rfl) ?_
    refine va_get (D := E.1) (ci := 5) (v := .ref st) (C := RX8) (T := TX8) (N := 11) hx hb hts inb_X8 hown hK hP 0 rfl rfl 0 (by decide) (hts _ bw_710) (fun _ h9 => h9) rfl dX8_isJump_44 ?_
    refine lv_iconst (v := nI 2) hx hb dX8_isJump_47 (by decide) ?_
    refine rn_iald (i := 2) hx hb hK hP 1 0 rfl rfl (by omega) (by omega) dX8_isJump_48 ?_
    refine lv_icmp_le (tgt := 56) hx hb dX8_isJump_49 (by decide) (fun c_3 => ?_) (fun c_3 => ?_)
    · refine lv_iconst (v := nI 0) hx hb dX8_isJump_56 (by decide) ?_
      refine lv_istore_n (lv' := [(2, .int (nI 0)), (3, .int (nI 0)), (0, .ref xo), (1, .int (nI p))]) hx hb dX8_isJump_57 rfl hl (by decide) rfl (fun ls hl => ?_)
      refine rn_inc (a := 0) (d := 1) (lv' := [(3, .int (nI 1)), (2, .int (nI 0)), (0, .ref xo), (1, .int (nI p))]) hx hb dX8_isJump_58 hl (k := 1) rfl (by decide) (by decide) rfl (fun ls hl => ?_)
      refine lv_goto (tgt := 4) hx hb dX8_isJump_61 (by decide) ?_
      refine lv_iload_n hx hb dX8_isJump_4 rfl (lv_at hl 0 rfl) ?_
      refine lv_iconst (v := nI 3) hx hb dX8_isJump_5 (by decide) ?_
      refine rn_icmp_ge (a := 1) (b := 3) (tgt := 64) hx hb (by omega) (by omega) dX8_isJump_6 (by decide) (fun c_4 => absurd c_4 (by omega)) (fun c_4 => ?_)
      refine lv_iload_n hx hb dX8_isJump_9 rfl (lv_at hl 3 rfl) ?_
      refine lv_iconst (v := nI 1) hx hb dX8_isJump_10 (by decide) ?_
      refine rn_add (a := p) (b := 1) hx hb dX8_isJump_11 ?_
      refine lv_aload_n hx hb dX8_isJump_12 rfl (lv_at hl 2 rfl) ?_
      refine va_get (D := E.1) (ci := 5) (v := .ref st) (C := RX8) (T := TX8) (N := 11) hx hb hts inb_X8 hown hK hP 0 rfl rfl 0 (by decide) (hts _ bw_710) (fun _ h9 => h9) rfl dX8_isJump_13 ?_
      refine lv_iconst (v := nI 4) hx hb dX8_isJump_16 (by decide) ?_
      refine rn_iald (i := 4) hx hb hK hP 1 0 rfl rfl (by omega) (by omega) dX8_isJump_17 ?_
      refine W.eq (congrArg (fun z => F0 m 18 ls (.int z :: [.int (nI (p + 1))])) (show g 4 = nI n from hf)) ?_
      refine rn_icmp_ge (a := p + 1) (b := n) (tgt := 64) hx hb (by omega) (by omega) dX8_isJump_18 (by decide) (fun c_5 => absurd c_5 (by omega)) (fun c_5 => ?_)
      refine lv_iload_n hx hb dX8_isJump_21 rfl (lv_at hl 1 rfl) ?_
      refine lv_if_ne (tgt := 52) hx hb dX8_isJump_22 (by decide) (fun c9 => by first | exact absurd c9 (by decide) | exact absurd (by decide) c9) (fun _ => ?_)
      refine lv_aload_n hx hb dX8_isJump_25 rfl (lv_at hl 2 rfl) ?_
      refine lv_iload_n hx hb dX8_isJump_26 rfl (lv_at hl 3 rfl) ?_
      refine lv_iload_n hx hb dX8_isJump_27 rfl (lv_at hl 0 rfl) ?_
      refine rwV2 (rest := []) S (c_X8_prints l E xo st sp th so sv pd nu sn ln ta sg g p 1 hp (by omega)) cd_X8_prints bw_902 ⟨Nat.le_of_ble_eq_true rfl, Nat.le_of_ble_eq_true rfl⟩ ⟨Nat.zero_le _, Nat.zero_le _⟩ hP (hDa.to rfl) hE hA hS [0, 1] rfl rfl [xo, st] rfl rfl (ci := 5) rfl (q0 := 0) rfl (Nat.le_of_ble_eq_true rfl) hl.1 dX8_isJump_28 (fun H locs hP _ hS => ?_)
      have hP : va_P E.1 vwCl [(xo, .inr (5, [.ref st, .ref sp, .ref th, .int (nI sn), .ref so, .ref sv, .ref pd, .int (nI ln), .int (nI ta), .int sg, .ref nu])), (st, .inl (E.2.1, 293, .inl g))] H := hP
      refine lv_aload_n hx hb dX8_isJump_31 rfl (lv_at hl 2 rfl) ?_
      refine lv_iload_n hx hb dX8_isJump_32 rfl (lv_at hl 3 rfl) ?_
      refine lv_iconst (v := nI 1) hx hb dX8_isJump_33 (by decide) ?_
      refine rn_add (a := p) (b := 1) hx hb dX8_isJump_34 ?_
      refine lv_iload_n hx hb dX8_isJump_35 rfl (lv_at hl 0 rfl) ?_
      refine rwV2 (rest := [.int (mPn g p 1)]) S (c_X8_prints l E xo st sp th so sv pd nu sn ln ta sg g (p + 1) 1 (by omega) (by omega)) cd_X8_prints bw_902 ⟨Nat.le_of_ble_eq_true rfl, Nat.le_of_ble_eq_true rfl⟩ ⟨Nat.zero_le _, Nat.zero_le _⟩ hP (hDa.to rfl) hE hA hS [0, 1] rfl rfl [xo, st] rfl rfl (ci := 5) rfl (q0 := 0) rfl (Nat.le_of_ble_eq_true rfl) hl.1 dX8_isJump_36 (fun H locs hP _ hS => ?_)
      have hP : va_P E.1 vwCl [(xo, .inr (5, [.ref st, .ref sp, .ref th, .int (nI sn), .ref so, .ref sv, .ref pd, .int (nI ln), .int (nI ta), .int sg, .ref nu])), (st, .inl (E.2.1, 293, .inl g))] H := hP
      refine lv_isub hx hb dX8_isJump_39 ?_
      refine rwS1 (rest := []) S (c_X8_sizeOf l E (mPn g p 1 - (mPn g (p + 1) 1))) cd_X8_sizeOf bw_851 ⟨Nat.le_of_ble_eq_true rfl, Nat.le_of_ble_eq_true rfl⟩ ⟨Nat.zero_le _, Nat.zero_le _⟩ hP (hDa.to rfl) hE hA hS [] rfl rfl [] rfl rfl (Nat.le_of_ble_eq_true rfl) hl.1 dX8_isJump_40 (fun H locs hP _ hS => ?_)
      have hP : va_P E.1 vwCl [(xo, .inr (5, [.ref st, .ref sp, .ref th, .int (nI sn), .ref so, .ref sv, .ref pd, .int (nI ln), .int (nI ta), .int sg, .ref nu])), (st, .inl (E.2.1, 293, .inl g))] H := hP
      refine lv_aload_n hx hb dX8_isJump_43 rfl (lv_at hl 2 rfl) ?_
      refine va_get (D := E.1) (ci := 5) (v := .ref st) (C := RX8) (T := TX8) (N := 11) hx hb hts inb_X8 hown hK hP 0 rfl rfl 0 (by decide) (hts _ bw_710) (fun _ h9 => h9) rfl dX8_isJump_44 ?_
      refine lv_iconst (v := nI 2) hx hb dX8_isJump_47 (by decide) ?_
      refine rn_iald (i := 2) hx hb hK hP 1 0 rfl rfl (by omega) (by omega) dX8_isJump_48 ?_
      refine lv_icmp_le (tgt := 56) hx hb dX8_isJump_49 (by decide) (fun c_6 => ?_) (fun c_6 => ?_)
      · refine lv_iconst (v := nI 0) hx hb dX8_isJump_56 (by decide) ?_
        refine lv_istore_n (lv' := [(2, .int (nI 0)), (3, .int (nI 1)), (0, .ref xo), (1, .int (nI p))]) hx hb dX8_isJump_57 rfl hl (by decide) rfl (fun ls hl => ?_)
        refine rn_inc (a := 1) (d := 1) (lv' := [(3, .int (nI 2)), (2, .int (nI 0)), (0, .ref xo), (1, .int (nI p))]) hx hb dX8_isJump_58 hl (k := 1) rfl (by decide) (by decide) rfl (fun ls hl => ?_)
        refine lv_goto (tgt := 4) hx hb dX8_isJump_61 (by decide) ?_
        refine lv_iload_n hx hb dX8_isJump_4 rfl (lv_at hl 0 rfl) ?_
        refine lv_iconst (v := nI 3) hx hb dX8_isJump_5 (by decide) ?_
        refine rn_icmp_ge (a := 2) (b := 3) (tgt := 64) hx hb (by omega) (by omega) dX8_isJump_6 (by decide) (fun c_7 => absurd c_7 (by omega)) (fun c_7 => ?_)
        refine lv_iload_n hx hb dX8_isJump_9 rfl (lv_at hl 3 rfl) ?_
        refine lv_iconst (v := nI 1) hx hb dX8_isJump_10 (by decide) ?_
        refine rn_add (a := p) (b := 1) hx hb dX8_isJump_11 ?_
        refine lv_aload_n hx hb dX8_isJump_12 rfl (lv_at hl 2 rfl) ?_
        refine va_get (D := E.1) (ci := 5) (v := .ref st) (C := RX8) (T := TX8) (N := 11) hx hb hts inb_X8 hown hK hP 0 rfl rfl 0 (by decide) (hts _ bw_710) (fun _ h9 => h9) rfl dX8_isJump_13 ?_
        refine lv_iconst (v := nI 4) hx hb dX8_isJump_16 (by decide) ?_
        refine rn_iald (i := 4) hx hb hK hP 1 0 rfl rfl (by omega) (by omega) dX8_isJump_17 ?_
        refine W.eq (congrArg (fun z => F0 m 18 ls (.int z :: [.int (nI (p + 1))])) (show g 4 = nI n from hf)) ?_
        refine rn_icmp_ge (a := p + 1) (b := n) (tgt := 64) hx hb (by omega) (by omega) dX8_isJump_18 (by decide) (fun c_8 => absurd c_8 (by omega)) (fun c_8 => ?_)
        refine lv_iload_n hx hb dX8_isJump_21 rfl (lv_at hl 1 rfl) ?_
        refine lv_if_ne (tgt := 52) hx hb dX8_isJump_22 (by decide) (fun c9 => by first | exact absurd c9 (by decide) | exact absurd (by decide) c9) (fun _ => ?_)
        refine lv_aload_n hx hb dX8_isJump_25 rfl (lv_at hl 2 rfl) ?_
        refine lv_iload_n hx hb dX8_isJump_26 rfl (lv_at hl 3 rfl) ?_
        refine lv_iload_n hx hb dX8_isJump_27 rfl (lv_at hl 0 rfl) ?_
        refine rwV2 (rest := []) S (c_X8_prints l E xo st sp th so sv pd nu sn ln ta sg g p 2 hp (by omega)) cd_X8_prints bw_902 ⟨Nat.le_of_ble_eq_true rfl, Nat.le_of_ble_eq_true rfl⟩ ⟨Nat.zero_le _, Nat.zero_le _⟩ hP (hDa.to rfl) hE hA hS [0, 1] rfl rfl [xo, st] rfl rfl (ci := 5) rfl (q0 := 0) rfl (Nat.le_of_ble_eq_true rfl) hl.1 dX8_isJump_28 (fun H locs hP _ hS => ?_)
        have hP : va_P E.1 vwCl [(xo, .inr (5, [.ref st, .ref sp, .ref th, .int (nI sn), .ref so, .ref sv, .ref pd, .int (nI ln), .int (nI ta), .int sg, .ref nu])), (st, .inl (E.2.1, 293, .inl g))] H := hP
        refine lv_aload_n hx hb dX8_isJump_31 rfl (lv_at hl 2 rfl) ?_
        refine lv_iload_n hx hb dX8_isJump_32 rfl (lv_at hl 3 rfl) ?_
        refine lv_iconst (v := nI 1) hx hb dX8_isJump_33 (by decide) ?_
        refine rn_add (a := p) (b := 1) hx hb dX8_isJump_34 ?_
        refine lv_iload_n hx hb dX8_isJump_35 rfl (lv_at hl 0 rfl) ?_
        refine rwV2 (rest := [.int (mPn g p 2)]) S (c_X8_prints l E xo st sp th so sv pd nu sn ln ta sg g (p + 1) 2 (by omega) (by omega)) cd_X8_prints bw_902 ⟨Nat.le_of_ble_eq_true rfl, Nat.le_of_ble_eq_true rfl⟩ ⟨Nat.zero_le _, Nat.zero_le _⟩ hP (hDa.to rfl) hE hA hS [0, 1] rfl rfl [xo, st] rfl rfl (ci := 5) rfl (q0 := 0) rfl (Nat.le_of_ble_eq_true rfl) hl.1 dX8_isJump_36 (fun H locs hP _ hS => ?_)
        have hP : va_P E.1 vwCl [(xo, .inr (5, [.ref st, .ref sp, .ref th, .int (nI sn), .ref so, .ref sv, .ref pd, .int (nI ln), .int (nI ta), .int sg, .ref nu])), (st, .inl (E.2.1, 293, .inl g))] H := hP
        refine lv_isub hx hb dX8_isJump_39 ?_
        refine rwS1 (rest := []) S (c_X8_sizeOf l E (mPn g p 2 - (mPn g (p + 1) 2))) cd_X8_sizeOf bw_851 ⟨Nat.le_of_ble_eq_true rfl, Nat.le_of_ble_eq_true rfl⟩ ⟨Nat.zero_le _, Nat.zero_le _⟩ hP (hDa.to rfl) hE hA hS [] rfl rfl [] rfl rfl (Nat.le_of_ble_eq_true rfl) hl.1 dX8_isJump_40 (fun H locs hP _ hS => ?_)
        have hP : va_P E.1 vwCl [(xo, .inr (5, [.ref st, .ref sp, .ref th, .int (nI sn), .ref so, .ref sv, .ref pd, .int (nI ln), .int (nI ta), .int sg, .ref nu])), (st, .inl (E.2.1, 293, .inl g))] H := hP
        refine lv_aload_n hx hb dX8_isJump_43 rfl (lv_at hl 2 rfl) ?_
        refine va_get (D := E.1) (ci := 5) (v := .ref st) (C := RX8) (T := TX8) (N := 11) hx hb hts inb_X8 hown hK hP 0 rfl rfl 0 (by decide) (hts _ bw_710) (fun _ h9 => h9) rfl dX8_isJump_44 ?_
        refine lv_iconst (v := nI 2) hx hb dX8_isJump_47 (by decide) ?_
        refine rn_iald (i := 2) hx hb hK hP 1 0 rfl rfl (by omega) (by omega) dX8_isJump_48 ?_
        refine lv_icmp_le (tgt := 56) hx hb dX8_isJump_49 (by decide) (fun c_9 => ?_) (fun c_9 => ?_)
        · refine lv_iconst (v := nI 0) hx hb dX8_isJump_56 (by decide) ?_
          refine lv_istore_n (lv' := [(2, .int (nI 0)), (3, .int (nI 2)), (0, .ref xo), (1, .int (nI p))]) hx hb dX8_isJump_57 rfl hl (by decide) rfl (fun ls hl => ?_)
          refine rn_inc (a := 2) (d := 1) (lv' := [(3, .int (nI 3)), (2, .int (nI 0)), (0, .ref xo), (1, .int (nI p))]) hx hb dX8_isJump_58 hl (k := 1) rfl (by decide) (by decide) rfl (fun ls hl => ?_)
          refine lv_goto (tgt := 4) hx hb dX8_isJump_61 (by decide) ?_
          refine lv_iload_n hx hb dX8_isJump_4 rfl (lv_at hl 0 rfl) ?_
          refine lv_iconst (v := nI 3) hx hb dX8_isJump_5 (by decide) ?_
          refine rn_icmp_ge (a := 3) (b := 3) (tgt := 64) hx hb (by omega) (by omega) dX8_isJump_6 (by decide) (fun c_10 => ?_) (fun c_10 => absurd c_10 (by omega))
          refine lv_iload_n hx hb dX8_isJump_64 rfl (lv_at hl 1 rfl) ?_
          exact hret _ _ _ _ _ _ (by rw [mJu, if_neg c_2, if_pos c_3, if_pos c_6, if_pos c_9]) rfl (by decide) hP hS dX8_isJump_65
        · refine lv_iconst (v := nI 1) hx hb dX8_isJump_52 (by decide) ?_
          refine lv_goto (tgt := 57) hx hb dX8_isJump_53 (by decide) ?_
          refine lv_istore_n (lv' := [(2, .int (nI 1)), (3, .int (nI 2)), (0, .ref xo), (1, .int (nI p))]) hx hb dX8_isJump_57 rfl hl (by decide) rfl (fun ls hl => ?_)
          refine rn_inc (a := 2) (d := 1) (lv' := [(3, .int (nI 3)), (2, .int (nI 1)), (0, .ref xo), (1, .int (nI p))]) hx hb dX8_isJump_58 hl (k := 1) rfl (by decide) (by decide) rfl (fun ls hl => ?_)
          refine lv_goto (tgt := 4) hx hb dX8_isJump_61 (by decide) ?_
          refine lv_iload_n hx hb dX8_isJump_4 rfl (lv_at hl 0 rfl) ?_
          refine lv_iconst (v := nI 3) hx hb dX8_isJump_5 (by decide) ?_
          refine rn_icmp_ge (a := 3) (b := 3) (tgt := 64) hx hb (by omega) (by omega) dX8_isJump_6 (by decide) (fun c_11 => ?_) (fun c_11 => absurd c_11 (by omega))
          refine lv_iload_n hx hb dX8_isJump_64 rfl (lv_at hl 1 rfl) ?_
          exact hret _ _ _ _ _ _ (by rw [mJu, if_neg c_2, if_pos c_3, if_pos c_6, if_neg c_9]) rfl (by decide) hP hS dX8_isJump_65
      · refine lv_iconst (v := nI 1) hx hb dX8_isJump_52 (by decide) ?_
        refine lv_goto (tgt := 57) hx hb dX8_isJump_53 (by decide) ?_
        refine lv_istore_n (lv' := [(2, .int (nI 1)), (3, .int (nI 1)), (0, .ref xo), (1, .int (nI p))]) hx hb dX8_isJump_57 rfl hl (by decide) rfl (fun ls hl => ?_)
        refine rn_inc (a := 1) (d := 1) (lv' := [(3, .int (nI 2)), (2, .int (nI 1)), (0, .ref xo), (1, .int (nI p))]) hx hb dX8_isJump_58 hl (k := 1) rfl (by decide) (by decide) rfl (fun ls hl => ?_)
        refine lv_goto (tgt := 4) hx hb dX8_isJump_61 (by decide) ?_
        refine lv_iload_n hx hb dX8_isJump_4 rfl (lv_at hl 0 rfl) ?_
        refine lv_iconst (v := nI 3) hx hb dX8_isJump_5 (by decide) ?_
        refine rn_icmp_ge (a := 2) (b := 3) (tgt := 64) hx hb (by omega) (by omega) dX8_isJump_6 (by decide) (fun c_12 => absurd c_12 (by omega)) (fun c_12 => ?_)
        refine lv_iload_n hx hb dX8_isJump_9 rfl (lv_at hl 3 rfl) ?_
        refine lv_iconst (v := nI 1) hx hb dX8_isJump_10 (by decide) ?_
        refine rn_add (a := p) (b := 1) hx hb dX8_isJump_11 ?_
        refine lv_aload_n hx hb dX8_isJump_12 rfl (lv_at hl 2 rfl) ?_
        refine va_get (D := E.1) (ci := 5) (v := .ref st) (C := RX8) (T := TX8) (N := 11) hx hb hts inb_X8 hown hK hP 0 rfl rfl 0 (by decide) (hts _ bw_710) (fun _ h9 => h9) rfl dX8_isJump_13 ?_
        refine lv_iconst (v := nI 4) hx hb dX8_isJump_16 (by decide) ?_
        refine rn_iald (i := 4) hx hb hK hP 1 0 rfl rfl (by omega) (by omega) dX8_isJump_17 ?_
        refine W.eq (congrArg (fun z => F0 m 18 ls (.int z :: [.int (nI (p + 1))])) (show g 4 = nI n from hf)) ?_
        refine rn_icmp_ge (a := p + 1) (b := n) (tgt := 64) hx hb (by omega) (by omega) dX8_isJump_18 (by decide) (fun c_13 => absurd c_13 (by omega)) (fun c_13 => ?_)
        refine lv_iload_n hx hb dX8_isJump_21 rfl (lv_at hl 1 rfl) ?_
        refine lv_if_ne (tgt := 52) hx hb dX8_isJump_22 (by decide) (fun _ => ?_) (fun c9 => by first | exact absurd (by decide) c9 | exact absurd c9 (by decide))
        refine lv_iconst (v := nI 1) hx hb dX8_isJump_52 (by decide) ?_
        refine lv_goto (tgt := 57) hx hb dX8_isJump_53 (by decide) ?_
        refine lv_istore_n (lv' := [(2, .int (nI 1)), (3, .int (nI 2)), (0, .ref xo), (1, .int (nI p))]) hx hb dX8_isJump_57 rfl hl (by decide) rfl (fun ls hl => ?_)
        refine rn_inc (a := 2) (d := 1) (lv' := [(3, .int (nI 3)), (2, .int (nI 1)), (0, .ref xo), (1, .int (nI p))]) hx hb dX8_isJump_58 hl (k := 1) rfl (by decide) (by decide) rfl (fun ls hl => ?_)
        refine lv_goto (tgt := 4) hx hb dX8_isJump_61 (by decide) ?_
        refine lv_iload_n hx hb dX8_isJump_4 rfl (lv_at hl 0 rfl) ?_
        refine lv_iconst (v := nI 3) hx hb dX8_isJump_5 (by decide) ?_
        refine rn_icmp_ge (a := 3) (b := 3) (tgt := 64) hx hb (by omega) (by omega) dX8_isJump_6 (by decide) (fun c_14 => ?_) (fun c_14 => absurd c_14 (by omega))
        refine lv_iload_n hx hb dX8_isJump_64 rfl (lv_at hl 1 rfl) ?_
        exact hret _ _ _ _ _ _ (by rw [mJu, if_neg c_2, if_pos c_3, if_neg c_6]) rfl (by decide) hP hS dX8_isJump_65
    · refine lv_iconst (v := nI 1) hx hb dX8_isJump_52 (by decide) ?_
      refine lv_goto (tgt := 57) hx hb dX8_isJump_53 (by decide) ?_
      refine lv_istore_n (lv' := [(2, .int (nI 1)), (3, .int (nI 0)), (0, .ref xo), (1, .int (nI p))]) hx hb dX8_isJump_57 rfl hl (by decide) rfl (fun ls hl => ?_)
      refine rn_inc (a := 0) (d := 1) (lv' := [(3, .int (nI 1)), (2, .int (nI 1)), (0, .ref xo), (1, .int (nI p))]) hx hb dX8_isJump_58 hl (k := 1) rfl (by decide) (by decide) rfl (fun ls hl => ?_)
      refine lv_goto (tgt := 4) hx hb dX8_isJump_61 (by decide) ?_
      refine lv_iload_n hx hb dX8_isJump_4 rfl (lv_at hl 0 rfl) ?_
      refine lv_iconst (v := nI 3) hx hb dX8_isJump_5 (by decide) ?_
      refine rn_icmp_ge (a := 1) (b := 3) (tgt := 64) hx hb (by omega) (by omega) dX8_isJump_6 (by decide) (fun c_15 => absurd c_15 (by omega)) (fun c_15 => ?_)
      refine lv_iload_n hx hb dX8_isJump_9 rfl (lv_at hl 3 rfl) ?_
      refine lv_iconst (v := nI 1) hx hb dX8_isJump_10 (by decide) ?_
      refine rn_add (a := p) (b := 1) hx hb dX8_isJump_11 ?_
      refine lv_aload_n hx hb dX8_isJump_12 rfl (lv_at hl 2 rfl) ?_
      refine va_get (D := E.1) (ci := 5) (v := .ref st) (C := RX8) (T := TX8) (N := 11) hx hb hts inb_X8 hown hK hP 0 rfl rfl 0 (by decide) (hts _ bw_710) (fun _ h9 => h9) rfl dX8_isJump_13 ?_
      refine lv_iconst (v := nI 4) hx hb dX8_isJump_16 (by decide) ?_
      refine rn_iald (i := 4) hx hb hK hP 1 0 rfl rfl (by omega) (by omega) dX8_isJump_17 ?_
      refine W.eq (congrArg (fun z => F0 m 18 ls (.int z :: [.int (nI (p + 1))])) (show g 4 = nI n from hf)) ?_
      refine rn_icmp_ge (a := p + 1) (b := n) (tgt := 64) hx hb (by omega) (by omega) dX8_isJump_18 (by decide) (fun c_16 => absurd c_16 (by omega)) (fun c_16 => ?_)
      refine lv_iload_n hx hb dX8_isJump_21 rfl (lv_at hl 1 rfl) ?_
      refine lv_if_ne (tgt := 52) hx hb dX8_isJump_22 (by decide) (fun _ => ?_) (fun c9 => by first | exact absurd (by decide) c9 | exact absurd c9 (by decide))
      refine lv_iconst (v := nI 1) hx hb dX8_isJump_52 (by decide) ?_
      refine lv_goto (tgt := 57) hx hb dX8_isJump_53 (by decide) ?_
      refine lv_istore_n (lv' := [(2, .int (nI 1)), (3, .int (nI 1)), (0, .ref xo), (1, .int (nI p))]) hx hb dX8_isJump_57 rfl hl (by decide) rfl (fun ls hl => ?_)
      refine rn_inc (a := 1) (d := 1) (lv' := [(3, .int (nI 2)), (2, .int (nI 1)), (0, .ref xo), (1, .int (nI p))]) hx hb dX8_isJump_58 hl (k := 1) rfl (by decide) (by decide) rfl (fun ls hl => ?_)
      refine lv_goto (tgt := 4) hx hb dX8_isJump_61 (by decide) ?_
      refine lv_iload_n hx hb dX8_isJump_4 rfl (lv_at hl 0 rfl) ?_
      refine lv_iconst (v := nI 3) hx hb dX8_isJump_5 (by decide) ?_
      refine rn_icmp_ge (a := 2) (b := 3) (tgt := 64) hx hb (by omega) (by omega) dX8_isJump_6 (by decide) (fun c_17 => absurd c_17 (by omega)) (fun c_17 => ?_)
      refine lv_iload_n hx hb dX8_isJump_9 rfl (lv_at hl 3 rfl) ?_
      refine lv_iconst (v := nI 1) hx hb dX8_isJump_10 (by decide) ?_
      refine rn_add (a := p) (b := 1) hx hb dX8_isJump_11 ?_
      refine lv_aload_n hx hb dX8_isJump_12 rfl (lv_at hl 2 rfl) ?_
      refine va_get (D := E.1) (ci := 5) (v := .ref st) (C := RX8) (T := TX8) (N := 11) hx hb hts inb_X8 hown hK hP 0 rfl rfl 0 (by decide) (hts _ bw_710) (fun _ h9 => h9) rfl dX8_isJump_13 ?_
      refine lv_iconst (v := nI 4) hx hb dX8_isJump_16 (by decide) ?_
      refine rn_iald (i := 4) hx hb hK hP 1 0 rfl rfl (by omega) (by omega) dX8_isJump_17 ?_
      refine W.eq (congrArg (fun z => F0 m 18 ls (.int z :: [.int (nI (p + 1))])) (show g 4 = nI n from hf)) ?_
      refine rn_icmp_ge (a := p + 1) (b := n) (tgt := 64) hx hb (by omega) (by omega) dX8_isJump_18 (by decide) (fun c_18 => absurd c_18 (by omega)) (fun c_18 => ?_)
      refine lv_iload_n hx hb dX8_isJump_21 rfl (lv_at hl 1 rfl) ?_
      refine lv_if_ne (tgt := 52) hx hb dX8_isJump_22 (by decide) (fun _ => ?_) (fun c9 => by first | exact absurd (by decide) c9 | exact absurd c9 (by decide))
      refine lv_iconst (v := nI 1) hx hb dX8_isJump_52 (by decide) ?_
      refine lv_goto (tgt := 57) hx hb dX8_isJump_53 (by decide) ?_
      refine lv_istore_n (lv' := [(2, .int (nI 1)), (3, .int (nI 2)), (0, .ref xo), (1, .int (nI p))]) hx hb dX8_isJump_57 rfl hl (by decide) rfl (fun ls hl => ?_)
      refine rn_inc (a := 2) (d := 1) (lv' := [(3, .int (nI 3)), (2, .int (nI 1)), (0, .ref xo), (1, .int (nI p))]) hx hb dX8_isJump_58 hl (k := 1) rfl (by decide) (by decide) rfl (fun ls hl => ?_)
      refine lv_goto (tgt := 4) hx hb dX8_isJump_61 (by decide) ?_
      refine lv_iload_n hx hb dX8_isJump_4 rfl (lv_at hl 0 rfl) ?_
      refine lv_iconst (v := nI 3) hx hb dX8_isJump_5 (by decide) ?_
      refine rn_icmp_ge (a := 3) (b := 3) (tgt := 64) hx hb (by omega) (by omega) dX8_isJump_6 (by decide) (fun c_19 => ?_) (fun c_19 => absurd c_19 (by omega))
      refine lv_iload_n hx hb dX8_isJump_64 rfl (lv_at hl 1 rfl) ?_
      exact hret _ _ _ _ _ _ (by rw [mJu, if_neg c_2, if_neg c_3]) rfl (by decide) hP hS dX8_isJump_65

theorem cd_X8_takeAnswer : cdV RX8 yX8_takeAnswer cX8_takeAnswer 3 none 1 := ⟨⟨bw_803, bw_65, by decide, by decide, by decide +kernel⟩, bw_802, bw_15⟩
def mTa (g : Nat → Int32) (p : Nat) : Nat → Int32 := upd (upd (upd (upd g (13 + 14 * p + 10) (nI 0)) (13 + 14 * p + 11) (nI 0)) (13 + 14 * p + 12) (nI 0)) (13 + 14 * p + 13) (nI 0)
set_option maxHeartbeats 4000000 in
set_option maxRecDepth 100000 in
theorem c_X8_takeAnswer (l : Launch) (E : EV) (xo : Nat) (st : Nat) (sp : Nat) (th : Nat) (so : Nat) (sv : Nat) (pd : Nat) (nu : Nat) (sn : Nat) (ln : Nat) (ta : Nat) (sg : Int32) (g : Nat → Int32) (p : Nat) (hp : p < 20) : rcV l E yX8_takeAnswer cX8_takeAnswer 3 1 [.ref xo, .int (nI p)] [(xo, .inr (5, [.ref st, .ref sp, .ref th, .int (nI sn), .ref so, .ref sv, .ref pd, .int (nI ln), .int (nI ta), .int sg, .ref nu])), (st, .inl (E.2.1, 293, .inl g))] [(xo, .inr (5, [.ref st, .ref sp, .ref th, .int (nI sn), .ref so, .ref sv, .ref pd, .int (nI ln), .int (nI ta), .int sg, .ref nu])), (st, .inl (E.2.1, 293, .inl (mTa g p)))] := by
  refine rcV_of (by decide) (Nat.le_of_ble_eq_true rfl) ?_
  intro pg e s m below meth c Q A ls S hP hD0 hE hA hl hret
  have hx := S.1
  have hb := S.2.1
  have hown := S.2.2.2.1
  have hts := S.2.2.2.2
  have hK := hE.1
  have hS : va_S A s.heap s.heap [] := va_S.rf
  have hDa : va_Da A [xo, st] := ⟨_, hD0, rfl⟩
  have hl : lv_has ls 3 [(0, .ref xo), (1, .int (nI p))] := hl
  refine lv_bipush (v := nI 10) hx hb dX8_takeAnswer_0 (by decide) ?_
  refine lv_istore_n (lv' := [(2, .int (nI 10)), (0, .ref xo), (1, .int (nI p))]) hx hb dX8_takeAnswer_2 rfl hl (by decide) rfl (fun ls hl => ?_)
  refine lv_iload_n hx hb dX8_takeAnswer_3 rfl (lv_at hl 0 rfl) ?_
  refine lv_bipush (v := nI 14) hx hb dX8_takeAnswer_4 (by decide) ?_
  refine rn_icmp_ge (a := 10) (b := 14) (tgt := 22) hx hb (by omega) (by omega) dX8_takeAnswer_6 (by decide) (fun c_1 => absurd c_1 (by omega)) (fun c_1 => ?_)
  refine lv_aload_n hx hb dX8_takeAnswer_9 rfl (lv_at hl 1 rfl) ?_
  refine lv_iload_n hx hb dX8_takeAnswer_10 rfl (lv_at hl 2 rfl) ?_
  refine lv_iload_n hx hb dX8_takeAnswer_11 rfl (lv_at hl 0 rfl) ?_
  refine lv_iconst (v := nI 0) hx hb dX8_takeAnswer_12 (by decide) ?_
  refine rwVv3 (rest := []) S (c_X8_setOf l E xo st sp th so sv pd nu sn ln ta sg g p 10 (nI 0) hp (by omega)) cd_X8_setOf bw_796 ⟨Nat.le_of_ble_eq_true rfl, Nat.le_of_ble_eq_true rfl⟩ ⟨Nat.zero_le _, Nat.zero_le _⟩ hP (hDa.to rfl) hE hA hS [0, 1] rfl rfl [xo, st] rfl rfl (ci := 5) rfl (q0 := 0) rfl (Nat.le_of_ble_eq_true rfl) hl.1 dX8_takeAnswer_13 (fun H locs hP _ hS => ?_)
  have hP : va_P E.1 vwCl [(xo, .inr (5, [.ref st, .ref sp, .ref th, .int (nI sn), .ref so, .ref sv, .ref pd, .int (nI ln), .int (nI ta), .int sg, .ref nu])), (st, .inl (E.2.1, 293, .inl (upd g (13 + 14 * p + 10) (nI 0))))] H := hP
  refine rn_inc (a := 10) (d := 1) (lv' := [(2, .int (nI 11)), (0, .ref xo), (1, .int (nI p))]) hx hb dX8_takeAnswer_16 hl (k := 0) rfl (by decide) (by decide) rfl (fun ls hl => ?_)
  refine lv_goto (tgt := 3) hx hb dX8_takeAnswer_19 (by decide) ?_
  refine lv_iload_n hx hb dX8_takeAnswer_3 rfl (lv_at hl 0 rfl) ?_
  refine lv_bipush (v := nI 14) hx hb dX8_takeAnswer_4 (by decide) ?_
  refine rn_icmp_ge (a := 11) (b := 14) (tgt := 22) hx hb (by omega) (by omega) dX8_takeAnswer_6 (by decide) (fun c_2 => absurd c_2 (by omega)) (fun c_2 => ?_)
  refine lv_aload_n hx hb dX8_takeAnswer_9 rfl (lv_at hl 1 rfl) ?_
  refine lv_iload_n hx hb dX8_takeAnswer_10 rfl (lv_at hl 2 rfl) ?_
  refine lv_iload_n hx hb dX8_takeAnswer_11 rfl (lv_at hl 0 rfl) ?_
  refine lv_iconst (v := nI 0) hx hb dX8_takeAnswer_12 (by decide) ?_
  refine rwVv3 (rest := []) S (c_X8_setOf l E xo st sp th so sv pd nu sn ln ta sg (upd g (13 + 14 * p + 10) (nI 0)) p 11 (nI 0) hp (by omega)) cd_X8_setOf bw_796 ⟨Nat.le_of_ble_eq_true rfl, Nat.le_of_ble_eq_true rfl⟩ ⟨Nat.zero_le _, Nat.zero_le _⟩ hP (hDa.to rfl) hE hA hS [0, 1] rfl rfl [xo, st] rfl rfl (ci := 5) rfl (q0 := 0) rfl (Nat.le_of_ble_eq_true rfl) hl.1 dX8_takeAnswer_13 (fun H locs hP _ hS => ?_)
  have hP : va_P E.1 vwCl [(xo, .inr (5, [.ref st, .ref sp, .ref th, .int (nI sn), .ref so, .ref sv, .ref pd, .int (nI ln), .int (nI ta), .int sg, .ref nu])), (st, .inl (E.2.1, 293, .inl (upd (upd g (13 + 14 * p + 10) (nI 0)) (13 + 14 * p + 11) (nI 0))))] H := hP
  refine rn_inc (a := 11) (d := 1) (lv' := [(2, .int (nI 12)), (0, .ref xo), (1, .int (nI p))]) hx hb dX8_takeAnswer_16 hl (k := 0) rfl (by decide) (by decide) rfl (fun ls hl => ?_)
  refine lv_goto (tgt := 3) hx hb dX8_takeAnswer_19 (by decide) ?_
  refine lv_iload_n hx hb dX8_takeAnswer_3 rfl (lv_at hl 0 rfl) ?_
  refine lv_bipush (v := nI 14) hx hb dX8_takeAnswer_4 (by decide) ?_
  refine rn_icmp_ge (a := 12) (b := 14) (tgt := 22) hx hb (by omega) (by omega) dX8_takeAnswer_6 (by decide) (fun c_3 => absurd c_3 (by omega)) (fun c_3 => ?_)
  refine lv_aload_n hx hb dX8_takeAnswer_9 rfl (lv_at hl 1 rfl) ?_
  refine lv_iload_n hx hb dX8_takeAnswer_10 rfl (lv_at hl 2 rfl) ?_
  refine lv_iload_n hx hb dX8_takeAnswer_11 rfl (lv_at hl 0 rfl) ?_
  refine lv_iconst (v := nI 0) hx hb dX8_takeAnswer_12 (by decide) ?_
  refine rwVv3 (rest := []) S (c_X8_setOf l E xo st sp th so sv pd nu sn ln ta sg (upd (upd g (13 + 14 * p + 10) (nI 0)) (13 + 14 * p + 11) (nI 0)) p 12 (nI 0) hp (by omega)) cd_X8_setOf bw_796 ⟨Nat.le_of_ble_eq_true rfl, Nat.le_of_ble_eq_true rfl⟩ ⟨Nat.zero_le _, Nat.zero_le _⟩ hP (hDa.to rfl) hE hA hS [0, 1] rfl rfl [xo, st] rfl rfl (ci := 5) rfl (q0 := 0) rfl (Nat.le_of_ble_eq_true rfl) hl.1 dX8_takeAnswer_13 (fun H locs hP _ hS => ?_)
  have hP : va_P E.1 vwCl [(xo, .inr (5, [.ref st, .ref sp, .ref th, .int (nI sn), .ref so, .ref sv, .ref pd, .int (nI ln), .int (nI ta), .int sg, .ref nu])), (st, .inl (E.2.1, 293, .inl (upd (upd (upd g (13 + 14 * p + 10) (nI 0)) (13 + 14 * p + 11) (nI 0)) (13 + 14 * p + 12) (nI 0))))] H := hP
  refine rn_inc (a := 12) (d := 1) (lv' := [(2, .int (nI 13)), (0, .ref xo), (1, .int (nI p))]) hx hb dX8_takeAnswer_16 hl (k := 0) rfl (by decide) (by decide) rfl (fun ls hl => ?_)
  refine lv_goto (tgt := 3) hx hb dX8_takeAnswer_19 (by decide) ?_
  refine lv_iload_n hx hb dX8_takeAnswer_3 rfl (lv_at hl 0 rfl) ?_
  refine lv_bipush (v := nI 14) hx hb dX8_takeAnswer_4 (by decide) ?_
  refine rn_icmp_ge (a := 13) (b := 14) (tgt := 22) hx hb (by omega) (by omega) dX8_takeAnswer_6 (by decide) (fun c_4 => absurd c_4 (by omega)) (fun c_4 => ?_)
  refine lv_aload_n hx hb dX8_takeAnswer_9 rfl (lv_at hl 1 rfl) ?_
  refine lv_iload_n hx hb dX8_takeAnswer_10 rfl (lv_at hl 2 rfl) ?_
  refine lv_iload_n hx hb dX8_takeAnswer_11 rfl (lv_at hl 0 rfl) ?_
  refine lv_iconst (v := nI 0) hx hb dX8_takeAnswer_12 (by decide) ?_
  refine rwVv3 (rest := []) S (c_X8_setOf l E xo st sp th so sv pd nu sn ln ta sg (upd (upd (upd g (13 + 14 * p + 10) (nI 0)) (13 + 14 * p + 11) (nI 0)) (13 + 14 * p + 12) (nI 0)) p 13 (nI 0) hp (by omega)) cd_X8_setOf bw_796 ⟨Nat.le_of_ble_eq_true rfl, Nat.le_of_ble_eq_true rfl⟩ ⟨Nat.zero_le _, Nat.zero_le _⟩ hP (hDa.to rfl) hE hA hS [0, 1] rfl rfl [xo, st] rfl rfl (ci := 5) rfl (q0 := 0) rfl (Nat.le_of_ble_eq_true rfl) hl.1 dX8_takeAnswer_13 (fun H locs hP _ hS => ?_)
  have hP : va_P E.1 vwCl [(xo, .inr (5, [.ref st, .ref sp, .ref th, .int (nI sn), .ref so, .ref sv, .ref pd, .int (nI ln), .int (nI ta), .int sg, .ref nu])), (st, .inl (E.2.1, 293, .inl (upd (upd (upd (upd g (13 + 14 * p + 10) (nI 0)) (13 + 14 * p + 11) (nI 0)) (13 + 14 * p + 12) (nI 0)) (13 + 14 * p + 13) (nI 0))))] H := hP
  refine rn_inc (a := 13) (d := 1) (lv' := [(2, .int (nI 14)), (0, .ref xo), (1, .int (nI p))]) hx hb dX8_takeAnswer_16 hl (k := 0) rfl (by decide) (by decide) rfl (fun ls hl => ?_)
  refine lv_goto (tgt := 3) hx hb dX8_takeAnswer_19 (by decide) ?_
  refine lv_iload_n hx hb dX8_takeAnswer_3 rfl (lv_at hl 0 rfl) ?_
  refine lv_bipush (v := nI 14) hx hb dX8_takeAnswer_4 (by decide) ?_
  refine rn_icmp_ge (a := 14) (b := 14) (tgt := 22) hx hb (by omega) (by omega) dX8_takeAnswer_6 (by decide) (fun c_5 => ?_) (fun c_5 => absurd c_5 (by omega))
  exact hret _ _ _ _ _ (by rw [mTa]) hP hS dX8_takeAnswer_22

/-- the cells above k taken from fourteen below -/
def opK (g : Nat → Int32) (n k : Nat) : Nat → Int32 := fun j => if k < j ∧ j < 27 + 14 * n then g (j - 14) else g j
theorem opK_i (g : Nat → Int32) (n : Nat) : opK g n (13 + 14 * (n + 1) - 1) = g := by
  funext j; simp only [opK]; split <;> first | rfl | omega
theorem opK_s (g : Nat → Int32) {n k : Nat} (h1 : 14 ≤ k) (h2 : k < 27 + 14 * n) : upd (opK g n k) k (opK g n k (k - 14)) = opK g n (k - 1) := by
  funext j; simp only [opK, upd]; (repeat' split) <;> first | rfl | omega | exact congrArg g (by omega)
theorem opK_4 (g : Nat → Int32) (n k : Nat) (h : 4 ≤ k) : opK g n k 4 = g 4 := by
  simp only [opK]; split <;> first | rfl | omega
theorem opK_e (g : Nat → Int32) {n p k : Nat} (h : k = 26 + 14 * p) : opK g n k = opN g n p := by
  subst h
  funext j; simp only [opK, opN]; (repeat' split) <;> first | rfl | omega
def opM (g : Nat → Int32) (n p : Nat) : Nat → Int32 := upd (opN g n p) 4 (nI (n + 1))
def clM (g : Nat → Int32) (n p : Nat) : Nat → Int32 := upd (clN g p (n - 1)) 4 (nI (n - 1))
/-- the cells of the places from p up to k taken from fourteen above -/
def clK (g : Nat → Int32) (p k : Nat) : Nat → Int32 := fun j => if 13 + 14 * p ≤ j ∧ j < k then g (j + 14) else g j
theorem clK_i (g : Nat → Int32) (p : Nat) : clK g p (13 + 14 * p) = g := by
  funext j; simp only [clK]; split <;> first | rfl | omega
theorem clK_s (g : Nat → Int32) {p k : Nat} (h : 13 + 14 * p ≤ k) : upd (clK g p k) k (clK g p k (k + 14)) = clK g p (k + 1) := by
  funext j; simp only [clK, upd]; (repeat' split) <;> first | rfl | omega | exact congrArg g (by omega)
theorem clK_4 (g : Nat → Int32) (p k : Nat) : clK g p k 4 = g 4 := by
  simp only [clK]; split <;> first | rfl | omega
theorem clK_e (g : Nat → Int32) {n p k : Nat} (h : k = 13 + 14 * (n - 1)) : clK (upd g 4 (nI (n - 1))) p k = clM g n p := by
  subst h
  funext j; simp only [clK, clM, clN, upd]; (repeat' split) <;> first | rfl | omega
theorem opM_4 (g : Nat → Int32) (n p : Nat) : opM g n p 4 = nI (n + 1) := pk_us
theorem clM_4 (g : Nat → Int32) (n p : Nat) : clM g n p 4 = nI (n - 1) := pk_us
theorem swN_4 (f : Nat → Int32) (a b j : Nat) : swN f a b j 4 = f 4 := by
  unfold swN
  rw [if_neg (by omega), if_neg (by omega)]
theorem cd_X8_open : cdV RX8 yX8_open cX8_open 3 none 1 := ⟨⟨bw_795, bw_65, by decide, by decide, by decide +kernel⟩, bw_794, bw_13⟩
set_option maxHeartbeats 4000000 in
set_option maxRecDepth 100000 in
theorem c_X8_open (l : Launch) (E : EV) (xo : Nat) (st : Nat) (sp : Nat) (th : Nat) (so : Nat) (sv : Nat) (pd : Nat) (nu : Nat) (sn : Nat) (ln : Nat) (ta : Nat) (sg : Int32) (g : Nat → Int32) (n : Nat) (p : Nat) (hf : g 4 = nI n) (hn : n < 20) (hp : p ≤ n) : rcV l E yX8_open cX8_open 3 0 [.ref xo, .int (nI p)] [(xo, .inr (5, [.ref st, .ref sp, .ref th, .int (nI sn), .ref so, .ref sv, .ref pd, .int (nI ln), .int (nI ta), .int sg, .ref nu])), (st, .inl (E.2.1, 293, .inl g))] [(xo, .inr (5, [.ref st, .ref sp, .ref th, .int (nI sn), .ref so, .ref sv, .ref pd, .int (nI ln), .int (nI ta), .int sg, .ref nu])), (st, .inl (E.2.1, 293, .inl (opM g n p)))] := by
  refine rcV_of (by decide) (Nat.le_of_ble_eq_true rfl) ?_
  intro pg e s m below meth c Q A ls S hP hD0 hE hA hl hret
  have hx := S.1
  have hb := S.2.1
  have hown := S.2.2.2.1
  have hts := S.2.2.2.2
  have hK := hE.1
  have hS : va_S A s.heap s.heap [] := va_S.rf
  have hDa : va_Da A [xo, st] := ⟨_, hD0, rfl⟩
  have hl : lv_has ls 3 [(0, .ref xo), (1, .int (nI p))] := hl
  refine lv_bipush (v := nI 13) hx hb dX8_open_0 (by decide) ?_
  refine lv_bipush (v := nI 14) hx hb dX8_open_2 (by decide) ?_
  refine lv_aload_n hx hb dX8_open_4 rfl (lv_at hl 0 rfl) ?_
  refine va_get (D := E.1) (ci := 5) (v := .ref st) (C := RX8) (T := TX8) (N := 11) hx hb hts inb_X8 hown hK hP 0 rfl rfl 0 (by decide) (hts _ bw_710) (fun _ h9 => h9) rfl dX8_open_5 ?_
  refine lv_iconst (v := nI 4) hx hb dX8_open_8 (by decide) ?_
  refine rn_iald (i := 4) hx hb hK hP 1 0 rfl rfl (by omega) (by omega) dX8_open_9 ?_
  refine W.eq (congrArg (fun z => F0 m 10 ls (.int z :: [.int (nI 14), .int (nI 13)])) (show g 4 = nI n from hf)) ?_
  refine lv_iconst (v := nI 1) hx hb dX8_open_10 (by decide) ?_
  refine rn_add (a := n) (b := 1) hx hb dX8_open_11 ?_
  refine rn_mul (a := 14) (b := n + 1) hx hb dX8_open_12 ?_
  refine rn_add (a := 13) (b := 14 * (n + 1)) hx hb dX8_open_13 ?_
  refine lv_iconst (v := nI 1) hx hb dX8_open_14 (by decide) ?_
  refine rn_sub (a := 13 + (14 * (n + 1))) (b := 1) hx hb dX8_open_15 (by omega) ?_
  refine lv_istore_n (lv' := [(2, .int (nI ((13 + (14 * (n + 1))) - 1))), (0, .ref xo), (1, .int (nI p))]) hx hb dX8_open_16 rfl hl (by decide) rfl (fun ls hl => ?_)
  have loop17 : ∀ (fuel : Nat) (k : Nat), k < fuel → (26 + 14 * p ≤ k) → (k < 27 + 14 * n) → ∀ (H : Heap) (locs : List Loc), va_P E.1 vwCl [(xo, .inr (5, [.ref st, .ref sp, .ref th, .int (nI sn), .ref so, .ref sv, .ref pd, .int (nI ln), .int (nI ta), .int sg, .ref nu])), (st, .inl (E.2.1, 293, .inl (opK g n k)))] H → va_S A s.heap H locs → ∀ ls : Array Slot, lv_has ls 3 [(2, .int (nI k)), (0, .ref xo), (1, .int (nI p))] → W pg l e (rq 0) s m ([.ref xo, .int (nI p)] : List Value).toArray below meth c H locs 0 0 Q (F0 m 17 ls []) := by
    intro fuel
    induction fuel with
    | zero => intro k h9; exact absurd h9 (Nat.not_lt_zero _)
    | succ fuel ih17 =>
      intro k hfu17 hk1 hk2 H locs hP hS ls hl
      refine lv_iload_n hx hb dX8_open_17 rfl (lv_at hl 0 rfl) ?_
      refine lv_bipush (v := nI 13) hx hb dX8_open_18 (by decide) ?_
      refine lv_bipush (v := nI 14) hx hb dX8_open_20 (by decide) ?_
      refine lv_iload_n hx hb dX8_open_22 rfl (lv_at hl 2 rfl) ?_
      refine lv_iconst (v := nI 1) hx hb dX8_open_23 (by decide) ?_
      refine rn_add (a := p) (b := 1) hx hb dX8_open_24 ?_
      refine rn_mul (a := 14) (b := p + 1) hx hb dX8_open_25 ?_
      refine rn_add (a := 13) (b := 14 * (p + 1)) hx hb dX8_open_26 ?_
      refine rn_icmp_lt (a := k) (b := 13 + (14 * (p + 1))) (tgt := 51) hx hb (by omega) (by omega) dX8_open_27 (by decide) (fun c_1 => ?_) (fun c_1 => ?_)
      · refine lv_aload_n hx hb dX8_open_51 rfl (lv_at hl 1 rfl) ?_
        refine va_get (D := E.1) (ci := 5) (v := .ref st) (C := RX8) (T := TX8) (N := 11) hx hb hts inb_X8 hown hK hP 0 rfl rfl 0 (by decide) (hts _ bw_710) (fun _ h9 => h9) rfl dX8_open_52 ?_
        refine lv_iconst (v := nI 4) hx hb dX8_open_55 (by decide) ?_
        refine lv_dup2_11 hx hb dX8_open_56 rfl rfl ?_
        refine rn_iald (i := 4) hx hb hK hP 1 0 rfl rfl (by omega) (by omega) dX8_open_57 ?_
        refine W.eq (congrArg (fun z => F0 m 58 ls (.int z :: [.int (nI 4), .ref st])) (show opK g n k 4 = nI n from ((opK_4 g n k (by omega)).trans hf))) ?_
        refine lv_iconst (v := nI 1) hx hb dX8_open_58 (by decide) ?_
        refine rn_add (a := n) (b := 1) hx hb dX8_open_59 ?_
        refine rn_iast (i := 4) hx hb hK hP (hDa.to rfl) hS 1 0 rfl rfl (by omega) (by omega) dX8_open_60 (fun H locs hP _ hS => ?_)
        have hP : va_P E.1 vwCl [(xo, .inr (5, [.ref st, .ref sp, .ref th, .int (nI sn), .ref so, .ref sv, .ref pd, .int (nI ln), .int (nI ta), .int sg, .ref nu])), (st, .inl (E.2.1, 293, .inl (upd (opK g n k) 4 (nI (n + 1)))))] H := hP
        exact hret _ _ _ _ _ (by rw [opK_e g (p := p) (by omega)]; rfl) hP hS dX8_open_61
      · refine lv_aload_n hx hb dX8_open_30 rfl (lv_at hl 1 rfl) ?_
        refine va_get (D := E.1) (ci := 5) (v := .ref st) (C := RX8) (T := TX8) (N := 11) hx hb hts inb_X8 hown hK hP 0 rfl rfl 0 (by decide) (hts _ bw_710) (fun _ h9 => h9) rfl dX8_open_31 ?_
        refine lv_iload_n hx hb dX8_open_34 rfl (lv_at hl 0 rfl) ?_
        refine lv_aload_n hx hb dX8_open_35 rfl (lv_at hl 1 rfl) ?_
        refine va_get (D := E.1) (ci := 5) (v := .ref st) (C := RX8) (T := TX8) (N := 11) hx hb hts inb_X8 hown hK hP 0 rfl rfl 0 (by decide) (hts _ bw_710) (fun _ h9 => h9) rfl dX8_open_36 ?_
        refine lv_iload_n hx hb dX8_open_39 rfl (lv_at hl 0 rfl) ?_
        refine lv_bipush (v := nI 14) hx hb dX8_open_40 (by decide) ?_
        refine rn_sub (a := k) (b := 14) hx hb dX8_open_42 (by omega) ?_
        refine rn_iald (i := k - 14) hx hb hK hP 1 0 rfl rfl (by omega) (by omega) dX8_open_43 ?_
        refine rn_iast (i := k) hx hb hK hP (hDa.to rfl) hS 1 0 rfl rfl (by omega) (by omega) dX8_open_44 (fun H locs hP _ hS => ?_)
        have hP : va_P E.1 vwCl [(xo, .inr (5, [.ref st, .ref sp, .ref th, .int (nI sn), .ref so, .ref sv, .ref pd, .int (nI ln), .int (nI ta), .int sg, .ref nu])), (st, .inl (E.2.1, 293, .inl (upd (opK g n k) k (opK g n k (k - 14)))))] H := hP
        refine rn_dec (a := k) (lv' := [(2, .int (nI (k - 1))), (0, .ref xo), (1, .int (nI p))]) hx hb dX8_open_45 hl (k := 0) rfl (by decide) (by omega) (by decide) rfl (fun ls hl => ?_)
        refine lv_goto (tgt := 17) hx hb dX8_open_48 (by decide) ?_
        have hP : va_P E.1 vwCl [(xo, .inr (5, [.ref st, .ref sp, .ref th, .int (nI sn), .ref so, .ref sv, .ref pd, .int (nI ln), .int (nI ta), .int sg, .ref nu])), (st, .inl (E.2.1, 293, .inl (opK g n (k - 1))))] H := by rw [opK_s g (by omega) (by omega)] at hP; exact hP
        have hl : lv_has ls 3 [(2, .int (nI (k - 1))), (0, .ref xo), (1, .int (nI p))] := lv_sub hl [0, 1, 2] rfl
        exact ih17 (k - 1) (by omega) (by omega) (by omega) _ _ hP hS _ hl
  have hP : va_P E.1 vwCl [(xo, .inr (5, [.ref st, .ref sp, .ref th, .int (nI sn), .ref so, .ref sv, .ref pd, .int (nI ln), .int (nI ta), .int sg, .ref nu])), (st, .inl (E.2.1, 293, .inl (opK g n ((13 + (14 * (n + 1))) - 1))))] s.heap := by rw [opK_i]; exact hP
  have hl : lv_has ls 3 [(2, .int (nI ((13 + (14 * (n + 1))) - 1))), (0, .ref xo), (1, .int (nI p))] := lv_sub hl [0, 1, 2] rfl
  exact loop17 _ ((13 + (14 * (n + 1))) - 1) (Nat.lt_succ_self _) (by omega) (by omega) _ _ hP hS _ hl

theorem cd_X8_shut : cdV RX8 yX8_shut cX8_shut 3 none 1 := ⟨⟨bw_815, bw_65, by decide, by decide, by decide +kernel⟩, bw_814, bw_17⟩
set_option maxHeartbeats 4000000 in
set_option maxRecDepth 100000 in
theorem c_X8_shut (l : Launch) (E : EV) (xo : Nat) (st : Nat) (sp : Nat) (th : Nat) (so : Nat) (sv : Nat) (pd : Nat) (nu : Nat) (sn : Nat) (ln : Nat) (ta : Nat) (sg : Int32) (g : Nat → Int32) (n : Nat) (p : Nat) (hf : g 4 = nI n) (hn : n ≤ 20) (hp : p < n) : rcV l E yX8_shut cX8_shut 3 0 [.ref xo, .int (nI p)] [(xo, .inr (5, [.ref st, .ref sp, .ref th, .int (nI sn), .ref so, .ref sv, .ref pd, .int (nI ln), .int (nI ta), .int sg, .ref nu])), (st, .inl (E.2.1, 293, .inl g))] [(xo, .inr (5, [.ref st, .ref sp, .ref th, .int (nI sn), .ref so, .ref sv, .ref pd, .int (nI ln), .int (nI ta), .int sg, .ref nu])), (st, .inl (E.2.1, 293, .inl (clM g n p)))] := by
  refine rcV_of (by decide) (Nat.le_of_ble_eq_true rfl) ?_
  intro pg e s m below meth c Q A ls S hP hD0 hE hA hl hret
  have hx := S.1
  have hb := S.2.1
  have hown := S.2.2.2.1
  have hts := S.2.2.2.2
  have hK := hE.1
  have hS : va_S A s.heap s.heap [] := va_S.rf
  have hDa : va_Da A [xo, st] := ⟨_, hD0, rfl⟩
  have hl : lv_has ls 3 [(0, .ref xo), (1, .int (nI p))] := hl
  refine lv_aload_n hx hb dX8_shut_0 rfl (lv_at hl 0 rfl) ?_
  refine va_get (D := E.1) (ci := 5) (v := .ref st) (C := RX8) (T := TX8) (N := 11) hx hb hts inb_X8 hown hK hP 0 rfl rfl 0 (by decide) (hts _ bw_710) (fun _ h9 => h9) rfl dX8_shut_1 ?_
  refine lv_iconst (v := nI 4) hx hb dX8_shut_4 (by decide) ?_
  refine lv_dup2_11 hx hb dX8_shut_5 rfl rfl ?_
  refine rn_iald (i := 4) hx hb hK hP 1 0 rfl rfl (by omega) (by omega) dX8_shut_6 ?_
  refine W.eq (congrArg (fun z => F0 m 7 ls (.int z :: [.int (nI 4), .ref st])) (show g 4 = nI n from hf)) ?_
  refine lv_iconst (v := nI 1) hx hb dX8_shut_7 (by decide) ?_
  refine rn_sub (a := n) (b := 1) hx hb dX8_shut_8 (by omega) ?_
  refine rn_iast (i := 4) hx hb hK hP (hDa.to rfl) hS 1 0 rfl rfl (by omega) (by omega) dX8_shut_9 (fun H locs hP _ hS => ?_)
  have hP : va_P E.1 vwCl [(xo, .inr (5, [.ref st, .ref sp, .ref th, .int (nI sn), .ref so, .ref sv, .ref pd, .int (nI ln), .int (nI ta), .int sg, .ref nu])), (st, .inl (E.2.1, 293, .inl (upd g 4 (nI (n - 1)))))] H := hP
  refine lv_bipush (v := nI 13) hx hb dX8_shut_10 (by decide) ?_
  refine lv_bipush (v := nI 14) hx hb dX8_shut_12 (by decide) ?_
  refine lv_iload_n hx hb dX8_shut_14 rfl (lv_at hl 1 rfl) ?_
  refine rn_mul (a := 14) (b := p) hx hb dX8_shut_15 ?_
  refine rn_add (a := 13) (b := 14 * p) hx hb dX8_shut_16 ?_
  refine lv_istore_n (lv' := [(2, .int (nI (13 + 14 * p))), (0, .ref xo), (1, .int (nI p))]) hx hb dX8_shut_17 rfl hl (by decide) rfl (fun ls hl => ?_)
  have loop18 : ∀ (fuel : Nat) (k : Nat), 14 * n - k < fuel → (13 + 14 * p ≤ k) → (k < 14 * n) → ∀ (H : Heap) (locs : List Loc), va_P E.1 vwCl [(xo, .inr (5, [.ref st, .ref sp, .ref th, .int (nI sn), .ref so, .ref sv, .ref pd, .int (nI ln), .int (nI ta), .int sg, .ref nu])), (st, .inl (E.2.1, 293, .inl (clK (upd g 4 (nI (n - 1))) p k)))] H → va_S A s.heap H locs → ∀ ls : Array Slot, lv_has ls 3 [(2, .int (nI k)), (0, .ref xo), (1, .int (nI p))] → W pg l e (rq 0) s m ([.ref xo, .int (nI p)] : List Value).toArray below meth c H locs 0 0 Q (F0 m 18 ls []) := by
    intro fuel
    induction fuel with
    | zero => intro k h9; exact absurd h9 (Nat.not_lt_zero _)
    | succ fuel ih18 =>
      intro k hfu18 hk1 hk2 H locs hP hS ls hl
      refine lv_iload_n hx hb dX8_shut_18 rfl (lv_at hl 0 rfl) ?_
      refine lv_bipush (v := nI 13) hx hb dX8_shut_19 (by decide) ?_
      refine lv_bipush (v := nI 14) hx hb dX8_shut_21 (by decide) ?_
      refine lv_aload_n hx hb dX8_shut_23 rfl (lv_at hl 1 rfl) ?_
      refine va_get (D := E.1) (ci := 5) (v := .ref st) (C := RX8) (T := TX8) (N := 11) hx hb hts inb_X8 hown hK hP 0 rfl rfl 0 (by decide) (hts _ bw_710) (fun _ h9 => h9) rfl dX8_shut_24 ?_
      refine lv_iconst (v := nI 4) hx hb dX8_shut_27 (by decide) ?_
      refine rn_iald (i := 4) hx hb hK hP 1 0 rfl rfl (by omega) (by omega) dX8_shut_28 ?_
      refine W.eq (congrArg (fun z => F0 m 29 ls (.int z :: [.int (nI 14), .int (nI 13), .int (nI k)])) (show (clK (upd g 4 (nI (n - 1))) p k) 4 = nI (n - 1) from ((clK_4 (upd g 4 (nI (n - 1))) p k).trans pk_us))) ?_
      refine rn_mul (a := 14) (b := n - 1) hx hb dX8_shut_29 ?_
      refine rn_add (a := 13) (b := 14 * (n - 1)) hx hb dX8_shut_30 ?_
      refine rn_icmp_ge (a := k) (b := 13 + (14 * (n - 1))) (tgt := 55) hx hb (by omega) (by omega) dX8_shut_31 (by decide) (fun c_1 => ?_) (fun c_1 => ?_)
      · exact hret _ _ _ _ _ (by rw [clK_e g (n := n) (by omega)]) hP hS dX8_shut_55
      · refine lv_aload_n hx hb dX8_shut_34 rfl (lv_at hl 1 rfl) ?_
        refine va_get (D := E.1) (ci := 5) (v := .ref st) (C := RX8) (T := TX8) (N := 11) hx hb hts inb_X8 hown hK hP 0 rfl rfl 0 (by decide) (hts _ bw_710) (fun _ h9 => h9) rfl dX8_shut_35 ?_
        refine lv_iload_n hx hb dX8_shut_38 rfl (lv_at hl 0 rfl) ?_
        refine lv_aload_n hx hb dX8_shut_39 rfl (lv_at hl 1 rfl) ?_
        refine va_get (D := E.1) (ci := 5) (v := .ref st) (C := RX8) (T := TX8) (N := 11) hx hb hts inb_X8 hown hK hP 0 rfl rfl 0 (by decide) (hts _ bw_710) (fun _ h9 => h9) rfl dX8_shut_40 ?_
        refine lv_iload_n hx hb dX8_shut_43 rfl (lv_at hl 0 rfl) ?_
        refine lv_bipush (v := nI 14) hx hb dX8_shut_44 (by decide) ?_
        refine rn_add (a := k) (b := 14) hx hb dX8_shut_46 ?_
        refine rn_iald (i := k + 14) hx hb hK hP 1 0 rfl rfl (by omega) (by omega) dX8_shut_47 ?_
        refine rn_iast (i := k) hx hb hK hP (hDa.to rfl) hS 1 0 rfl rfl (by omega) (by omega) dX8_shut_48 (fun H locs hP _ hS => ?_)
        have hP : va_P E.1 vwCl [(xo, .inr (5, [.ref st, .ref sp, .ref th, .int (nI sn), .ref so, .ref sv, .ref pd, .int (nI ln), .int (nI ta), .int sg, .ref nu])), (st, .inl (E.2.1, 293, .inl (upd (clK (upd g 4 (nI (n - 1))) p k) k ((clK (upd g 4 (nI (n - 1))) p k) (k + 14)))))] H := hP
        refine rn_inc (a := k) (d := 1) (lv' := [(2, .int (nI (k + 1))), (0, .ref xo), (1, .int (nI p))]) hx hb dX8_shut_49 hl (k := 0) rfl (by decide) (by decide) rfl (fun ls hl => ?_)
        refine lv_goto (tgt := 18) hx hb dX8_shut_52 (by decide) ?_
        have hP : va_P E.1 vwCl [(xo, .inr (5, [.ref st, .ref sp, .ref th, .int (nI sn), .ref so, .ref sv, .ref pd, .int (nI ln), .int (nI ta), .int sg, .ref nu])), (st, .inl (E.2.1, 293, .inl (clK (upd g 4 (nI (n - 1))) p (k + 1))))] H := by rw [clK_s _ (by omega)] at hP; exact hP
        have hl : lv_has ls 3 [(2, .int (nI (k + 1))), (0, .ref xo), (1, .int (nI p))] := lv_sub hl [0, 1, 2] rfl
        exact ih18 (k + 1) (by omega) (by omega) (by omega) _ _ hP hS _ hl
  have hP : va_P E.1 vwCl [(xo, .inr (5, [.ref st, .ref sp, .ref th, .int (nI sn), .ref so, .ref sv, .ref pd, .int (nI ln), .int (nI ta), .int sg, .ref nu])), (st, .inl (E.2.1, 293, .inl (clK (upd g 4 (nI (n - 1))) p (13 + 14 * p))))] H := by rw [clK_i]; exact hP
  have hl : lv_has ls 3 [(2, .int (nI (13 + 14 * p))), (0, .ref xo), (1, .int (nI p))] := lv_sub hl [0, 1, 2] rfl
  exact loop18 _ (13 + 14 * p) (Nat.lt_succ_self _) (by omega) (by omega) _ _ hP hS _ hl

theorem mIs_eq {g : Nat → Int32} {n : Nat} (hf : g 4 = nI n) (hn : n ≤ 20) (x : Int32) : mIs g x = hasS n x := by
  unfold mIs hasS mIw
  rw [hf]
  by_cases h0 : x < 0
  · rw [if_pos h0, if_pos (show x < nI 0 from h0)]
  · rw [if_neg h0, if_neg (show ¬ x < nI 0 from h0)]
    obtain ⟨i, hi, rfl⟩ := nI_of h0
    rcases Nat.eq_zero_or_pos n with e | e
    · subst e
      rw [if_pos (show nI 0 - nI 1 < nI i from by rw [Int32.lt_iff_toInt_lt, nI_toInt hi]; show (-1 : Int) < i; omega), if_pos (nI_le (Nat.zero_le i) hi)]
    · rw [pk_sub e]
      by_cases c : n ≤ i
      · rw [if_pos (nI_le c hi), if_pos (nI_lt (by omega) hi)]
      · rw [if_neg (nI_ge (by omega) (by omega)), if_neg (nI_nlt (by omega) (by omega))]
theorem mIs_of {g : Nat → Int32} {n : Nat} {x : Int32} (hf : g 4 = nI n) (hn : n ≤ 20) (h : ¬ mIs g x = 0) : ∃ i : Nat, i < n ∧ x = nI i := by
  rw [mIs_eq hf hn] at h
  exact hasS_of (by omega) h
theorem mIw_of {n : Nat} {x : Int32} (hn : n < 2 ^ 31) (h : ¬ mIw x (nI 0) (nI n) = 0) : ∃ i : Nat, i < n + 1 ∧ x = nI i := isW_of hn h
theorem mIc_of {x : Int32} (h : ¬ mIc x = 0) : ∃ i : Nat, i < 3 ∧ x = nI i := isC_of h
