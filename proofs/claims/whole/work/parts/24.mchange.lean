/-! the reference: what comes, lights, wishes, moves, splits, joins -/
theorem mTa_4 (g : Nat → Int32) (p : Nat) : mTa g p 4 = g 4 := (pk_un (by omega)).trans ((pk_un (by omega)).trans ((pk_un (by omega)).trans (pk_un (by omega))))
theorem nI_m1 {k : Nat} (h : 0 < k) : nI k + (-1) = nI (k - 1) := by
  rw [← i32_m1]; exact pk_sub h
theorem cd_X8_comes : cdV RX8 yX8_comes cX8_comes 7 (some .int) 5 := ⟨⟨bw_788, bw_65, by decide, by decide, by decide +kernel⟩, bw_787, bw_12⟩
def mAv (g : Nat → Int32) (n : Nat) (x : Int32) (ft : Int32) (re : Int32) (gr : Int32) (bl : Int32) : Int32 := if mIw x (nI 0) (nI n) = 0 then (-1) else if mIw ft (nI 1) (nI 99) = 0 then (-2) else if mIp re = 0 then (-2) else if mIp gr = 0 then (-2) else if mIp bl = 0 then (-2) else if n = 20 then (-4) else nI (n + 1)
def mAw (g : Nat → Int32) (n : Nat) (x : Int32) (ft : Int32) (re : Int32) (gr : Int32) (bl : Int32) : Nat → Int32 := if mIw x (nI 0) (nI n) = 0 then g else if mIw ft (nI 1) (nI 99) = 0 then g else if mIp re = 0 then g else if mIp gr = 0 then g else if mIp bl = 0 then g else if n = 20 then g else mTa (upd (upd (upd (upd (upd (upd (upd (upd (upd (upd (opM g n (ix x)) (13 + 14 * (ix x) + 0) ft) (13 + 14 * (ix x) + 1) re) (13 + 14 * (ix x) + 2) gr) (13 + 14 * (ix x) + 3) bl) (13 + 14 * (ix x) + 4) (nI 0)) (13 + 14 * (ix x) + 7) (nI 25)) (13 + 14 * (ix x) + 5) (nI 0)) (13 + 14 * (ix x) + 8) (nI 25)) (13 + 14 * (ix x) + 6) (nI 0)) (13 + 14 * (ix x) + 9) (nI 25)) (ix x)
set_option maxHeartbeats 4000000 in
set_option maxRecDepth 100000 in
theorem c_X8_comes (l : Launch) (E : EV) (xo : Nat) (st : Nat) (sp : Nat) (th : Nat) (so : Nat) (sv : Nat) (pd : Nat) (nu : Nat) (sn : Nat) (ln : Nat) (ta : Nat) (sg : Int32) (g : Nat → Int32) (n : Nat) (x : Int32) (ft : Int32) (re : Int32) (gr : Int32) (bl : Int32) (hf : g 4 = nI n) (hn : n ≤ 20) : rcI l E yX8_comes cX8_comes 7 .int 2 [.ref xo, .int x, .int ft, .int re, .int gr, .int bl] [(xo, .inr (5, [.ref st, .ref sp, .ref th, .int (nI sn), .ref so, .ref sv, .ref pd, .int (nI ln), .int (nI ta), .int sg, .ref nu])), (st, .inl (E.2.1, 293, .inl g))] (mAv g n x ft re gr bl) [(xo, .inr (5, [.ref st, .ref sp, .ref th, .int (nI sn), .ref so, .ref sv, .ref pd, .int (nI ln), .int (nI ta), .int sg, .ref nu])), (st, .inl (E.2.1, 293, .inl (mAw g n x ft re gr bl)))] := by
  refine rcI_of (by decide) (Nat.le_of_ble_eq_true rfl) ?_
  intro pg e s m below meth c Q A ls S hP hD0 hE hA hl hret
  have hx := S.1
  have hb := S.2.1
  have hown := S.2.2.2.1
  have hts := S.2.2.2.2
  have hK := hE.1
  have hS : va_S A s.heap s.heap [] := va_S.rf
  have hDa : va_Da A [xo, st] := ⟨_, hD0, rfl⟩
  have hl : lv_has ls 7 [(0, .ref xo), (1, .int x), (2, .int ft), (3, .int re), (4, .int gr), (5, .int bl)] := hl
  refine lv_iload_n hx hb dX8_comes_0 rfl (lv_at hl 1 rfl) ?_
  refine lv_iconst (v := nI 0) hx hb dX8_comes_1 (by decide) ?_
  refine lv_aload_n hx hb dX8_comes_2 rfl (lv_at hl 0 rfl) ?_
  refine va_get (D := E.1) (ci := 5) (v := .ref st) (C := RX8) (T := TX8) (N := 11) hx hb hts inb_X8 hown hK hP 0 rfl rfl 0 (by decide) (hts _ bw_710) (fun _ h9 => h9) rfl dX8_comes_3 ?_
  refine lv_iconst (v := nI 4) hx hb dX8_comes_6 (by decide) ?_
  refine rn_iald (i := 4) hx hb hK hP 1 0 rfl rfl (by omega) (by omega) dX8_comes_7 ?_
  refine W.eq (congrArg (fun z => F0 m 8 ls (.int z :: [.int (nI 0), .int x])) (show g 4 = nI n from hf)) ?_
  refine rwS3 (rest := []) S (c_X8_within l E x (nI 0) (nI n)) cd_X8_within bw_755 ⟨Nat.le_of_ble_eq_true rfl, Nat.le_of_ble_eq_true rfl⟩ ⟨Nat.zero_le _, Nat.zero_le _⟩ hP (hDa.to rfl) hE hA hS [] rfl rfl [] rfl rfl (Nat.le_of_ble_eq_true rfl) hl.1 dX8_comes_8 (fun H locs hP _ hS => ?_)
  have hP : va_P E.1 vwCl [(xo, .inr (5, [.ref st, .ref sp, .ref th, .int (nI sn), .ref so, .ref sv, .ref pd, .int (nI ln), .int (nI ta), .int sg, .ref nu])), (st, .inl (E.2.1, 293, .inl g))] H := hP
  refine lv_if_ne (tgt := 16) hx hb dX8_comes_11 (by decide) (fun c_1 => ?_) (fun c_1 => ?_)
  · obtain ⟨p, h9_p, rfl⟩ : ∃ p : Nat, p < n + 1 ∧ x = nI p := (mIw_of (by omega) c_1)
    refine lv_iload_n hx hb dX8_comes_16 rfl (lv_at hl 2 rfl) ?_
    refine lv_iconst (v := nI 1) hx hb dX8_comes_17 (by decide) ?_
    refine lv_bipush (v := nI 99) hx hb dX8_comes_18 (by decide) ?_
    refine rwS3 (rest := []) S (c_X8_within l E ft (nI 1) (nI 99)) cd_X8_within bw_755 ⟨Nat.le_of_ble_eq_true rfl, Nat.le_of_ble_eq_true rfl⟩ ⟨Nat.zero_le _, Nat.zero_le _⟩ hP (hDa.to rfl) hE hA hS [] rfl rfl [] rfl rfl (Nat.le_of_ble_eq_true rfl) hl.1 dX8_comes_20 (fun H locs hP _ hS => ?_)
    have hP : va_P E.1 vwCl [(xo, .inr (5, [.ref st, .ref sp, .ref th, .int (nI sn), .ref so, .ref sv, .ref pd, .int (nI ln), .int (nI ta), .int sg, .ref nu])), (st, .inl (E.2.1, 293, .inl g))] H := hP
    refine lv_if_eq (tgt := 49) hx hb dX8_comes_23 (by decide) (fun c_2 => ?_) (fun c_2 => ?_)
    · refine lv_bipush (v := (-2)) hx hb dX8_comes_49 (by decide) ?_
      exact hret _ _ _ _ _ _ (by first | rw [mAv, ix_nI (show p < 2 ^ 31 by omega), if_neg c_1, if_pos c_2] | rw [mAv, if_neg c_1, if_pos c_2] | simp only [mAv, ix_nI (show p < 2 ^ 31 by omega), if_neg c_1, if_pos c_2]) (by first | rw [mAw, ix_nI (show p < 2 ^ 31 by omega), if_neg c_1, if_pos c_2] | rw [mAw, if_neg c_1, if_pos c_2] | simp only [mAw, ix_nI (show p < 2 ^ 31 by omega), if_neg c_1, if_pos c_2]) rfl hP hS dX8_comes_51
    · refine lv_iload_n hx hb dX8_comes_26 rfl (lv_at hl 3 rfl) ?_
      refine rwS1 (rest := []) S (c_X8_isPoints l E re) cd_X8_isPoints bw_789 ⟨Nat.le_of_ble_eq_true rfl, Nat.le_of_ble_eq_true rfl⟩ ⟨Nat.zero_le _, Nat.zero_le _⟩ hP (hDa.to rfl) hE hA hS [] rfl rfl [] rfl rfl (Nat.le_of_ble_eq_true rfl) hl.1 dX8_comes_27 (fun H locs hP _ hS => ?_)
      have hP : va_P E.1 vwCl [(xo, .inr (5, [.ref st, .ref sp, .ref th, .int (nI sn), .ref so, .ref sv, .ref pd, .int (nI ln), .int (nI ta), .int sg, .ref nu])), (st, .inl (E.2.1, 293, .inl g))] H := hP
      refine lv_if_eq (tgt := 49) hx hb dX8_comes_30 (by decide) (fun c_3 => ?_) (fun c_3 => ?_)
      · refine lv_bipush (v := (-2)) hx hb dX8_comes_49 (by decide) ?_
        exact hret _ _ _ _ _ _ (by first | rw [mAv, ix_nI (show p < 2 ^ 31 by omega), if_neg c_1, if_neg c_2, if_pos c_3] | rw [mAv, if_neg c_1, if_neg c_2, if_pos c_3] | simp only [mAv, ix_nI (show p < 2 ^ 31 by omega), if_neg c_1, if_neg c_2, if_pos c_3]) (by first | rw [mAw, ix_nI (show p < 2 ^ 31 by omega), if_neg c_1, if_neg c_2, if_pos c_3] | rw [mAw, if_neg c_1, if_neg c_2, if_pos c_3] | simp only [mAw, ix_nI (show p < 2 ^ 31 by omega), if_neg c_1, if_neg c_2, if_pos c_3]) rfl hP hS dX8_comes_51
      · refine lv_iload hx hb dX8_comes_33 (lv_at hl 4 rfl) ?_
        refine rwS1 (rest := []) S (c_X8_isPoints l E gr) cd_X8_isPoints bw_789 ⟨Nat.le_of_ble_eq_true rfl, Nat.le_of_ble_eq_true rfl⟩ ⟨Nat.zero_le _, Nat.zero_le _⟩ hP (hDa.to rfl) hE hA hS [] rfl rfl [] rfl rfl (Nat.le_of_ble_eq_true rfl) hl.1 dX8_comes_35 (fun H locs hP _ hS => ?_)
        have hP : va_P E.1 vwCl [(xo, .inr (5, [.ref st, .ref sp, .ref th, .int (nI sn), .ref so, .ref sv, .ref pd, .int (nI ln), .int (nI ta), .int sg, .ref nu])), (st, .inl (E.2.1, 293, .inl g))] H := hP
        refine lv_if_eq (tgt := 49) hx hb dX8_comes_38 (by decide) (fun c_4 => ?_) (fun c_4 => ?_)
        · refine lv_bipush (v := (-2)) hx hb dX8_comes_49 (by decide) ?_
          exact hret _ _ _ _ _ _ (by first | rw [mAv, ix_nI (show p < 2 ^ 31 by omega), if_neg c_1, if_neg c_2, if_neg c_3, if_pos c_4] | rw [mAv, if_neg c_1, if_neg c_2, if_neg c_3, if_pos c_4] | simp only [mAv, ix_nI (show p < 2 ^ 31 by omega), if_neg c_1, if_neg c_2, if_neg c_3, if_pos c_4]) (by first | rw [mAw, ix_nI (show p < 2 ^ 31 by omega), if_neg c_1, if_neg c_2, if_neg c_3, if_pos c_4] | rw [mAw, if_neg c_1, if_neg c_2, if_neg c_3, if_pos c_4] | simp only [mAw, ix_nI (show p < 2 ^ 31 by omega), if_neg c_1, if_neg c_2, if_neg c_3, if_pos c_4]) rfl hP hS dX8_comes_51
        · refine lv_iload hx hb dX8_comes_41 (lv_at hl 5 rfl) ?_
          refine rwS1 (rest := []) S (c_X8_isPoints l E bl) cd_X8_isPoints bw_789 ⟨Nat.le_of_ble_eq_true rfl, Nat.le_of_ble_eq_true rfl⟩ ⟨Nat.zero_le _, Nat.zero_le _⟩ hP (hDa.to rfl) hE hA hS [] rfl rfl [] rfl rfl (Nat.le_of_ble_eq_true rfl) hl.1 dX8_comes_43 (fun H locs hP _ hS => ?_)
          have hP : va_P E.1 vwCl [(xo, .inr (5, [.ref st, .ref sp, .ref th, .int (nI sn), .ref so, .ref sv, .ref pd, .int (nI ln), .int (nI ta), .int sg, .ref nu])), (st, .inl (E.2.1, 293, .inl g))] H := hP
          refine lv_if_ne (tgt := 52) hx hb dX8_comes_46 (by decide) (fun c_5 => ?_) (fun c_5 => ?_)
          · refine lv_aload_n hx hb dX8_comes_52 rfl (lv_at hl 0 rfl) ?_
            refine va_get (D := E.1) (ci := 5) (v := .ref st) (C := RX8) (T := TX8) (N := 11) hx hb hts inb_X8 hown hK hP 0 rfl rfl 0 (by decide) (hts _ bw_710) (fun _ h9 => h9) rfl dX8_comes_53 ?_
            refine lv_iconst (v := nI 4) hx hb dX8_comes_56 (by decide) ?_
            refine rn_iald (i := 4) hx hb hK hP 1 0 rfl rfl (by omega) (by omega) dX8_comes_57 ?_
            refine W.eq (congrArg (fun z => F0 m 58 ls (.int z :: [])) (show g 4 = nI n from hf)) ?_
            refine lv_bipush (v := nI 20) hx hb dX8_comes_58 (by decide) ?_
            refine rn_icmp_ne (a := n) (b := 20) (tgt := 66) hx hb (by omega) (by omega) dX8_comes_60 (by decide) (fun c_6 => ?_) (fun c_6 => ?_)
            · refine lv_aload_n hx hb dX8_comes_66 rfl (lv_at hl 0 rfl) ?_
              refine lv_iload_n hx hb dX8_comes_67 rfl (lv_at hl 1 rfl) ?_
              refine rwVv1 (rest := []) S (c_X8_open l E xo st sp th so sv pd nu sn ln ta sg g n p hf (by omega) (by omega)) cd_X8_open bw_792 ⟨Nat.le_of_ble_eq_true rfl, Nat.le_of_ble_eq_true rfl⟩ ⟨Nat.zero_le _, Nat.zero_le _⟩ hP (hDa.to rfl) hE hA hS [0, 1] rfl rfl [xo, st] rfl rfl (ci := 5) rfl (q0 := 0) rfl (Nat.le_of_ble_eq_true rfl) hl.1 dX8_comes_68 (fun H locs hP _ hS => ?_)
              have hP : va_P E.1 vwCl [(xo, .inr (5, [.ref st, .ref sp, .ref th, .int (nI sn), .ref so, .ref sv, .ref pd, .int (nI ln), .int (nI ta), .int sg, .ref nu])), (st, .inl (E.2.1, 293, .inl (opM g n p)))] H := hP
              refine lv_aload_n hx hb dX8_comes_71 rfl (lv_at hl 0 rfl) ?_
              refine lv_iload_n hx hb dX8_comes_72 rfl (lv_at hl 1 rfl) ?_
              refine lv_iconst (v := nI 0) hx hb dX8_comes_73 (by decide) ?_
              refine lv_iload_n hx hb dX8_comes_74 rfl (lv_at hl 2 rfl) ?_
              refine rwVv3 (rest := []) S (c_X8_setOf l E xo st sp th so sv pd nu sn ln ta sg (opM g n p) p 0 ft (by omega) (by omega)) cd_X8_setOf bw_796 ⟨Nat.le_of_ble_eq_true rfl, Nat.le_of_ble_eq_true rfl⟩ ⟨Nat.zero_le _, Nat.zero_le _⟩ hP (hDa.to rfl) hE hA hS [0, 1] rfl rfl [xo, st] rfl rfl (ci := 5) rfl (q0 := 0) rfl (Nat.le_of_ble_eq_true rfl) hl.1 dX8_comes_75 (fun H locs hP _ hS => ?_)
              have hP : va_P E.1 vwCl [(xo, .inr (5, [.ref st, .ref sp, .ref th, .int (nI sn), .ref so, .ref sv, .ref pd, .int (nI ln), .int (nI ta), .int sg, .ref nu])), (st, .inl (E.2.1, 293, .inl (upd (opM g n p) (13 + 14 * p + 0) ft)))] H := hP
              refine lv_aload_n hx hb dX8_comes_78 rfl (lv_at hl 0 rfl) ?_
              refine lv_iload_n hx hb dX8_comes_79 rfl (lv_at hl 1 rfl) ?_
              refine lv_iconst (v := nI 1) hx hb dX8_comes_80 (by decide) ?_
              refine lv_iload_n hx hb dX8_comes_81 rfl (lv_at hl 3 rfl) ?_
              refine rwVv3 (rest := []) S (c_X8_setOf l E xo st sp th so sv pd nu sn ln ta sg (upd (opM g n p) (13 + 14 * p + 0) ft) p 1 re (by omega) (by omega)) cd_X8_setOf bw_796 ⟨Nat.le_of_ble_eq_true rfl, Nat.le_of_ble_eq_true rfl⟩ ⟨Nat.zero_le _, Nat.zero_le _⟩ hP (hDa.to rfl) hE hA hS [0, 1] rfl rfl [xo, st] rfl rfl (ci := 5) rfl (q0 := 0) rfl (Nat.le_of_ble_eq_true rfl) hl.1 dX8_comes_82 (fun H locs hP _ hS => ?_)
              have hP : va_P E.1 vwCl [(xo, .inr (5, [.ref st, .ref sp, .ref th, .int (nI sn), .ref so, .ref sv, .ref pd, .int (nI ln), .int (nI ta), .int sg, .ref nu])), (st, .inl (E.2.1, 293, .inl (upd (upd (opM g n p) (13 + 14 * p + 0) ft) (13 + 14 * p + 1) re)))] H := hP
              refine lv_aload_n hx hb dX8_comes_85 rfl (lv_at hl 0 rfl) ?_
              refine lv_iload_n hx hb dX8_comes_86 rfl (lv_at hl 1 rfl) ?_
              refine lv_iconst (v := nI 2) hx hb dX8_comes_87 (by decide) ?_
              refine lv_iload hx hb dX8_comes_88 (lv_at hl 4 rfl) ?_
              refine rwVv3 (rest := []) S (c_X8_setOf l E xo st sp th so sv pd nu sn ln ta sg (upd (upd (opM g n p) (13 + 14 * p + 0) ft) (13 + 14 * p + 1) re) p 2 gr (by omega) (by omega)) cd_X8_setOf bw_796 ⟨Nat.le_of_ble_eq_true rfl, Nat.le_of_ble_eq_true rfl⟩ ⟨Nat.zero_le _, Nat.zero_le _⟩ hP (hDa.to rfl) hE hA hS [0, 1] rfl rfl [xo, st] rfl rfl (ci := 5) rfl (q0 := 0) rfl (Nat.le_of_ble_eq_true rfl) hl.1 dX8_comes_90 (fun H locs hP _ hS => ?_)
              have hP : va_P E.1 vwCl [(xo, .inr (5, [.ref st, .ref sp, .ref th, .int (nI sn), .ref so, .ref sv, .ref pd, .int (nI ln), .int (nI ta), .int sg, .ref nu])), (st, .inl (E.2.1, 293, .inl (upd (upd (upd (opM g n p) (13 + 14 * p + 0) ft) (13 + 14 * p + 1) re) (13 + 14 * p + 2) gr)))] H := hP
              refine lv_aload_n hx hb dX8_comes_93 rfl (lv_at hl 0 rfl) ?_
              refine lv_iload_n hx hb dX8_comes_94 rfl (lv_at hl 1 rfl) ?_
              refine lv_iconst (v := nI 3) hx hb dX8_comes_95 (by decide) ?_
              refine lv_iload hx hb dX8_comes_96 (lv_at hl 5 rfl) ?_
              refine rwVv3 (rest := []) S (c_X8_setOf l E xo st sp th so sv pd nu sn ln ta sg (upd (upd (upd (opM g n p) (13 + 14 * p + 0) ft) (13 + 14 * p + 1) re) (13 + 14 * p + 2) gr) p 3 bl (by omega) (by omega)) cd_X8_setOf bw_796 ⟨Nat.le_of_ble_eq_true rfl, Nat.le_of_ble_eq_true rfl⟩ ⟨Nat.zero_le _, Nat.zero_le _⟩ hP (hDa.to rfl) hE hA hS [0, 1] rfl rfl [xo, st] rfl rfl (ci := 5) rfl (q0 := 0) rfl (Nat.le_of_ble_eq_true rfl) hl.1 dX8_comes_98 (fun H locs hP _ hS => ?_)
              have hP : va_P E.1 vwCl [(xo, .inr (5, [.ref st, .ref sp, .ref th, .int (nI sn), .ref so, .ref sv, .ref pd, .int (nI ln), .int (nI ta), .int sg, .ref nu])), (st, .inl (E.2.1, 293, .inl (upd (upd (upd (upd (opM g n p) (13 + 14 * p + 0) ft) (13 + 14 * p + 1) re) (13 + 14 * p + 2) gr) (13 + 14 * p + 3) bl)))] H := hP
              refine lv_iconst (v := nI 0) hx hb dX8_comes_101 (by decide) ?_
              refine lv_istore (lv' := [(6, .int (nI 0)), (0, .ref xo), (1, .int (nI p)), (2, .int ft), (3, .int re), (4, .int gr), (5, .int bl)]) hx hb dX8_comes_102 hl (by decide) rfl (fun ls hl => ?_)
              refine lv_iload hx hb dX8_comes_104 (lv_at hl 0 rfl) ?_
              refine lv_iconst (v := nI 3) hx hb dX8_comes_106 (by decide) ?_
              refine rn_icmp_ge (a := 0) (b := 3) (tgt := 138) hx hb (by omega) (by omega) dX8_comes_107 (by decide) (fun c_7 => absurd c_7 (by omega)) (fun c_7 => ?_)
              refine lv_aload_n hx hb dX8_comes_110 rfl (lv_at hl 1 rfl) ?_
              refine lv_iload_n hx hb dX8_comes_111 rfl (lv_at hl 2 rfl) ?_
              refine lv_iconst (v := nI 4) hx hb dX8_comes_112 (by decide) ?_
              refine lv_iload hx hb dX8_comes_113 (lv_at hl 0 rfl) ?_
              refine rn_add (a := 4) (b := 0) hx hb dX8_comes_115 ?_
              refine lv_iconst (v := nI 0) hx hb dX8_comes_116 (by decide) ?_
              refine rwVv3 (rest := []) S (c_X8_setOf l E xo st sp th so sv pd nu sn ln ta sg (upd (upd (upd (upd (opM g n p) (13 + 14 * p + 0) ft) (13 + 14 * p + 1) re) (13 + 14 * p + 2) gr) (13 + 14 * p + 3) bl) p 4 (nI 0) (by omega) (by omega)) cd_X8_setOf bw_796 ⟨Nat.le_of_ble_eq_true rfl, Nat.le_of_ble_eq_true rfl⟩ ⟨Nat.zero_le _, Nat.zero_le _⟩ hP (hDa.to rfl) hE hA hS [0, 1] rfl rfl [xo, st] rfl rfl (ci := 5) rfl (q0 := 0) rfl (Nat.le_of_ble_eq_true rfl) hl.1 dX8_comes_117 (fun H locs hP _ hS => ?_)
              have hP : va_P E.1 vwCl [(xo, .inr (5, [.ref st, .ref sp, .ref th, .int (nI sn), .ref so, .ref sv, .ref pd, .int (nI ln), .int (nI ta), .int sg, .ref nu])), (st, .inl (E.2.1, 293, .inl (upd (upd (upd (upd (upd (opM g n p) (13 + 14 * p + 0) ft) (13 + 14 * p + 1) re) (13 + 14 * p + 2) gr) (13 + 14 * p + 3) bl) (13 + 14 * p + 4) (nI 0))))] H := hP
              refine lv_aload_n hx hb dX8_comes_120 rfl (lv_at hl 1 rfl) ?_
              refine lv_iload_n hx hb dX8_comes_121 rfl (lv_at hl 2 rfl) ?_
              refine lv_bipush (v := nI 7) hx hb dX8_comes_122 (by decide) ?_
              refine lv_iload hx hb dX8_comes_124 (lv_at hl 0 rfl) ?_
              refine rn_add (a := 7) (b := 0) hx hb dX8_comes_126 ?_
              refine lv_bipush (v := nI 25) hx hb dX8_comes_127 (by decide) ?_
              refine rwVv3 (rest := []) S (c_X8_setOf l E xo st sp th so sv pd nu sn ln ta sg (upd (upd (upd (upd (upd (opM g n p) (13 + 14 * p + 0) ft) (13 + 14 * p + 1) re) (13 + 14 * p + 2) gr) (13 + 14 * p + 3) bl) (13 + 14 * p + 4) (nI 0)) p 7 (nI 25) (by omega) (by omega)) cd_X8_setOf bw_796 ⟨Nat.le_of_ble_eq_true rfl, Nat.le_of_ble_eq_true rfl⟩ ⟨Nat.zero_le _, Nat.zero_le _⟩ hP (hDa.to rfl) hE hA hS [0, 1] rfl rfl [xo, st] rfl rfl (ci := 5) rfl (q0 := 0) rfl (Nat.le_of_ble_eq_true rfl) hl.1 dX8_comes_129 (fun H locs hP _ hS => ?_)
              have hP : va_P E.1 vwCl [(xo, .inr (5, [.ref st, .ref sp, .ref th, .int (nI sn), .ref so, .ref sv, .ref pd, .int (nI ln), .int (nI ta), .int sg, .ref nu])), (st, .inl (E.2.1, 293, .inl (upd (upd (upd (upd (upd (upd (opM g n p) (13 + 14 * p + 0) ft) (13 + 14 * p + 1) re) (13 + 14 * p + 2) gr) (13 + 14 * p + 3) bl) (13 + 14 * p + 4) (nI 0)) (13 + 14 * p + 7) (nI 25))))] H := hP
              refine rn_inc (a := 0) (d := 1) (lv' := [(6, .int (nI 1)), (0, .ref xo), (1, .int (nI p)), (2, .int ft), (3, .int re), (4, .int gr), (5, .int bl)]) hx hb dX8_comes_132 hl (k := 0) rfl (by decide) (by decide) rfl (fun ls hl => ?_)
              refine lv_goto (tgt := 104) hx hb dX8_comes_135 (by decide) ?_
              refine lv_iload hx hb dX8_comes_104 (lv_at hl 0 rfl) ?_
              refine lv_iconst (v := nI 3) hx hb dX8_comes_106 (by decide) ?_
              refine rn_icmp_ge (a := 1) (b := 3) (tgt := 138) hx hb (by omega) (by omega) dX8_comes_107 (by decide) (fun c_8 => absurd c_8 (by omega)) (fun c_8 => ?_)
              refine lv_aload_n hx hb dX8_comes_110 rfl (lv_at hl 1 rfl) ?_
              refine lv_iload_n hx hb dX8_comes_111 rfl (lv_at hl 2 rfl) ?_
              refine lv_iconst (v := nI 4) hx hb dX8_comes_112 (by decide) ?_
              refine lv_iload hx hb dX8_comes_113 (lv_at hl 0 rfl) ?_
              refine rn_add (a := 4) (b := 1) hx hb dX8_comes_115 ?_
              refine lv_iconst (v := nI 0) hx hb dX8_comes_116 (by decide) ?_
              refine rwVv3 (rest := []) S (c_X8_setOf l E xo st sp th so sv pd nu sn ln ta sg (upd (upd (upd (upd (upd (upd (opM g n p) (13 + 14 * p + 0) ft) (13 + 14 * p + 1) re) (13 + 14 * p + 2) gr) (13 + 14 * p + 3) bl) (13 + 14 * p + 4) (nI 0)) (13 + 14 * p + 7) (nI 25)) p 5 (nI 0) (by omega) (by omega)) cd_X8_setOf bw_796 ⟨Nat.le_of_ble_eq_true rfl, Nat.le_of_ble_eq_true rfl⟩ ⟨Nat.zero_le _, Nat.zero_le _⟩ hP (hDa.to rfl) hE hA hS [0, 1] rfl rfl [xo, st] rfl rfl (ci := 5) rfl (q0 := 0) rfl (Nat.le_of_ble_eq_true rfl) hl.1 dX8_comes_117 (fun H locs hP _ hS => ?_)
              have hP : va_P E.1 vwCl [(xo, .inr (5, [.ref st, .ref sp, .ref th, .int (nI sn), .ref so, .ref sv, .ref pd, .int (nI ln), .int (nI ta), .int sg, .ref nu])), (st, .inl (E.2.1, 293, .inl (upd (upd (upd (upd (upd (upd (upd (opM g n p) (13 + 14 * p + 0) ft) (13 + 14 * p + 1) re) (13 + 14 * p + 2) gr) (13 + 14 * p + 3) bl) (13 + 14 * p + 4) (nI 0)) (13 + 14 * p + 7) (nI 25)) (13 + 14 * p + 5) (nI 0))))] H := hP
              refine lv_aload_n hx hb dX8_comes_120 rfl (lv_at hl 1 rfl) ?_
              refine lv_iload_n hx hb dX8_comes_121 rfl (lv_at hl 2 rfl) ?_
              refine lv_bipush (v := nI 7) hx hb dX8_comes_122 (by decide) ?_
              refine lv_iload hx hb dX8_comes_124 (lv_at hl 0 rfl) ?_
              refine rn_add (a := 7) (b := 1) hx hb dX8_comes_126 ?_
              refine lv_bipush (v := nI 25) hx hb dX8_comes_127 (by decide) ?_
              refine rwVv3 (rest := []) S (c_X8_setOf l E xo st sp th so sv pd nu sn ln ta sg (upd (upd (upd (upd (upd (upd (upd (opM g n p) (13 + 14 * p + 0) ft) (13 + 14 * p + 1) re) (13 + 14 * p + 2) gr) (13 + 14 * p + 3) bl) (13 + 14 * p + 4) (nI 0)) (13 + 14 * p + 7) (nI 25)) (13 + 14 * p + 5) (nI 0)) p 8 (nI 25) (by omega) (by omega)) cd_X8_setOf bw_796 ⟨Nat.le_of_ble_eq_true rfl, Nat.le_of_ble_eq_true rfl⟩ ⟨Nat.zero_le _, Nat.zero_le _⟩ hP (hDa.to rfl) hE hA hS [0, 1] rfl rfl [xo, st] rfl rfl (ci := 5) rfl (q0 := 0) rfl (Nat.le_of_ble_eq_true rfl) hl.1 dX8_comes_129 (fun H locs hP _ hS => ?_)
              have hP : va_P E.1 vwCl [(xo, .inr (5, [.ref st, .ref sp, .ref th, .int (nI sn), .ref so, .ref sv, .ref pd, .int (nI ln), .int (nI ta), .int sg, .ref nu])), (st, .inl (E.2.1, 293, .inl (upd (upd (upd (upd (upd (upd (upd (upd (opM g n p) (13 + 14 * p + 0) ft) (13 + 14 * p + 1) re) (13 + 14 * p + 2) gr) (13 + 14 * p + 3) bl) (13 + 14 * p + 4) (nI 0)) (13 + 14 * p + 7) (nI 25)) (13 + 14 * p + 5) (nI 0)) (13 + 14 * p + 8) (nI 25))))] H := hP
              refine rn_inc (a := 1) (d := 1) (lv' := [(6, .int (nI 2)), (0, .ref xo), (1, .int (nI p)), (2, .int ft), (3, .int re), (4, .int gr), (5, .int bl)]) hx hb dX8_comes_132 hl (k := 0) rfl (by decide) (by decide) rfl (fun ls hl => ?_)
              refine lv_goto (tgt := 104) hx hb dX8_comes_135 (by decide) ?_
              refine lv_iload hx hb dX8_comes_104 (lv_at hl 0 rfl) ?_
              refine lv_iconst (v := nI 3) hx hb dX8_comes_106 (by decide) ?_
              refine rn_icmp_ge (a := 2) (b := 3) (tgt := 138) hx hb (by omega) (by omega) dX8_comes_107 (by decide) (fun c_9 => absurd c_9 (by omega)) (fun c_9 => ?_)
              refine lv_aload_n hx hb dX8_comes_110 rfl (lv_at hl 1 rfl) ?_
              refine lv_iload_n hx hb dX8_comes_111 rfl (lv_at hl 2 rfl) ?_
              refine lv_iconst (v := nI 4) hx hb dX8_comes_112 (by decide) ?_
              refine lv_iload hx hb dX8_comes_113 (lv_at hl 0 rfl) ?_
              refine rn_add (a := 4) (b := 2) hx hb dX8_comes_115 ?_
              refine lv_iconst (v := nI 0) hx hb dX8_comes_116 (by decide) ?_
              refine rwVv3 (rest := []) S (c_X8_setOf l E xo st sp th so sv pd nu sn ln ta sg (upd (upd (upd (upd (upd (upd (upd (upd (opM g n p) (13 + 14 * p + 0) ft) (13 + 14 * p + 1) re) (13 + 14 * p + 2) gr) (13 + 14 * p + 3) bl) (13 + 14 * p + 4) (nI 0)) (13 + 14 * p + 7) (nI 25)) (13 + 14 * p + 5) (nI 0)) (13 + 14 * p + 8) (nI 25)) p 6 (nI 0) (by omega) (by omega)) cd_X8_setOf bw_796 ⟨Nat.le_of_ble_eq_true rfl, Nat.le_of_ble_eq_true rfl⟩ ⟨Nat.zero_le _, Nat.zero_le _⟩ hP (hDa.to rfl) hE hA hS [0, 1] rfl rfl [xo, st] rfl rfl (ci := 5) rfl (q0 := 0) rfl (Nat.le_of_ble_eq_true rfl) hl.1 dX8_comes_117 (fun H locs hP _ hS => ?_)
              have hP : va_P E.1 vwCl [(xo, .inr (5, [.ref st, .ref sp, .ref th, .int (nI sn), .ref so, .ref sv, .ref pd, .int (nI ln), .int (nI ta), .int sg, .ref nu])), (st, .inl (E.2.1, 293, .inl (upd (upd (upd (upd (upd (upd (upd (upd (upd (opM g n p) (13 + 14 * p + 0) ft) (13 + 14 * p + 1) re) (13 + 14 * p + 2) gr) (13 + 14 * p + 3) bl) (13 + 14 * p + 4) (nI 0)) (13 + 14 * p + 7) (nI 25)) (13 + 14 * p + 5) (nI 0)) (13 + 14 * p + 8) (nI 25)) (13 + 14 * p + 6) (nI 0))))] H := hP
              refine lv_aload_n hx hb dX8_comes_120 rfl (lv_at hl 1 rfl) ?_
              refine lv_iload_n hx hb dX8_comes_121 rfl (lv_at hl 2 rfl) ?_
              refine lv_bipush (v := nI 7) hx hb dX8_comes_122 (by decide) ?_
              refine lv_iload hx hb dX8_comes_124 (lv_at hl 0 rfl) ?_
              refine rn_add (a := 7) (b := 2) hx hb dX8_comes_126 ?_
              refine lv_bipush (v := nI 25) hx hb dX8_comes_127 (by decide) ?_
              refine rwVv3 (rest := []) S (c_X8_setOf l E xo st sp th so sv pd nu sn ln ta sg (upd (upd (upd (upd (upd (upd (upd (upd (upd (opM g n p) (13 + 14 * p + 0) ft) (13 + 14 * p + 1) re) (13 + 14 * p + 2) gr) (13 + 14 * p + 3) bl) (13 + 14 * p + 4) (nI 0)) (13 + 14 * p + 7) (nI 25)) (13 + 14 * p + 5) (nI 0)) (13 + 14 * p + 8) (nI 25)) (13 + 14 * p + 6) (nI 0)) p 9 (nI 25) (by omega) (by omega)) cd_X8_setOf bw_796 ⟨Nat.le_of_ble_eq_true rfl, Nat.le_of_ble_eq_true rfl⟩ ⟨Nat.zero_le _, Nat.zero_le _⟩ hP (hDa.to rfl) hE hA hS [0, 1] rfl rfl [xo, st] rfl rfl (ci := 5) rfl (q0 := 0) rfl (Nat.le_of_ble_eq_true rfl) hl.1 dX8_comes_129 (fun H locs hP _ hS => ?_)
              have hP : va_P E.1 vwCl [(xo, .inr (5, [.ref st, .ref sp, .ref th, .int (nI sn), .ref so, .ref sv, .ref pd, .int (nI ln), .int (nI ta), .int sg, .ref nu])), (st, .inl (E.2.1, 293, .inl (upd (upd (upd (upd (upd (upd (upd (upd (upd (upd (opM g n p) (13 + 14 * p + 0) ft) (13 + 14 * p + 1) re) (13 + 14 * p + 2) gr) (13 + 14 * p + 3) bl) (13 + 14 * p + 4) (nI 0)) (13 + 14 * p + 7) (nI 25)) (13 + 14 * p + 5) (nI 0)) (13 + 14 * p + 8) (nI 25)) (13 + 14 * p + 6) (nI 0)) (13 + 14 * p + 9) (nI 25))))] H := hP
              refine rn_inc (a := 2) (d := 1) (lv' := [(6, .int (nI 3)), (0, .ref xo), (1, .int (nI p)), (2, .int ft), (3, .int re), (4, .int gr), (5, .int bl)]) hx hb dX8_comes_132 hl (k := 0) rfl (by decide) (by decide) rfl (fun ls hl => ?_)
              refine lv_goto (tgt := 104) hx hb dX8_comes_135 (by decide) ?_
              refine lv_iload hx hb dX8_comes_104 (lv_at hl 0 rfl) ?_
              refine lv_iconst (v := nI 3) hx hb dX8_comes_106 (by decide) ?_
              refine rn_icmp_ge (a := 3) (b := 3) (tgt := 138) hx hb (by omega) (by omega) dX8_comes_107 (by decide) (fun c_10 => ?_) (fun c_10 => absurd c_10 (by omega))
              refine lv_aload_n hx hb dX8_comes_138 rfl (lv_at hl 1 rfl) ?_
              refine lv_iload_n hx hb dX8_comes_139 rfl (lv_at hl 2 rfl) ?_
              refine rwVv1 (rest := []) S (c_X8_takeAnswer l E xo st sp th so sv pd nu sn ln ta sg (upd (upd (upd (upd (upd (upd (upd (upd (upd (upd (opM g n p) (13 + 14 * p + 0) ft) (13 + 14 * p + 1) re) (13 + 14 * p + 2) gr) (13 + 14 * p + 3) bl) (13 + 14 * p + 4) (nI 0)) (13 + 14 * p + 7) (nI 25)) (13 + 14 * p + 5) (nI 0)) (13 + 14 * p + 8) (nI 25)) (13 + 14 * p + 6) (nI 0)) (13 + 14 * p + 9) (nI 25)) p (by omega)) cd_X8_takeAnswer bw_800 ⟨Nat.le_of_ble_eq_true rfl, Nat.le_of_ble_eq_true rfl⟩ ⟨Nat.zero_le _, Nat.zero_le _⟩ hP (hDa.to rfl) hE hA hS [0, 1] rfl rfl [xo, st] rfl rfl (ci := 5) rfl (q0 := 0) rfl (Nat.le_of_ble_eq_true rfl) hl.1 dX8_comes_140 (fun H locs hP _ hS => ?_)
              have hP : va_P E.1 vwCl [(xo, .inr (5, [.ref st, .ref sp, .ref th, .int (nI sn), .ref so, .ref sv, .ref pd, .int (nI ln), .int (nI ta), .int sg, .ref nu])), (st, .inl (E.2.1, 293, .inl (mTa (upd (upd (upd (upd (upd (upd (upd (upd (upd (upd (opM g n p) (13 + 14 * p + 0) ft) (13 + 14 * p + 1) re) (13 + 14 * p + 2) gr) (13 + 14 * p + 3) bl) (13 + 14 * p + 4) (nI 0)) (13 + 14 * p + 7) (nI 25)) (13 + 14 * p + 5) (nI 0)) (13 + 14 * p + 8) (nI 25)) (13 + 14 * p + 6) (nI 0)) (13 + 14 * p + 9) (nI 25)) p)))] H := hP
              refine lv_aload_n hx hb dX8_comes_143 rfl (lv_at hl 1 rfl) ?_
              refine va_get (D := E.1) (ci := 5) (v := .ref st) (C := RX8) (T := TX8) (N := 11) hx hb hts inb_X8 hown hK hP 0 rfl rfl 0 (by decide) (hts _ bw_710) (fun _ h9 => h9) rfl dX8_comes_144 ?_
              refine lv_iconst (v := nI 4) hx hb dX8_comes_147 (by decide) ?_
              refine rn_iald (i := 4) hx hb hK hP 1 0 rfl rfl (by omega) (by omega) dX8_comes_148 ?_
              refine W.eq (congrArg (fun z => F0 m 149 ls (.int z :: [])) (show (mTa (upd (upd (upd (upd (upd (upd (upd (upd (upd (upd (opM g n p) (13 + 14 * p + 0) ft) (13 + 14 * p + 1) re) (13 + 14 * p + 2) gr) (13 + 14 * p + 3) bl) (13 + 14 * p + 4) (nI 0)) (13 + 14 * p + 7) (nI 25)) (13 + 14 * p + 5) (nI 0)) (13 + 14 * p + 8) (nI 25)) (13 + 14 * p + 6) (nI 0)) (13 + 14 * p + 9) (nI 25)) p) 4 = nI (n + 1) from ((mTa_4 (upd (upd (upd (upd (upd (upd (upd (upd (upd (upd (opM g n p) (13 + 14 * p + 0) ft) (13 + 14 * p + 1) re) (13 + 14 * p + 2) gr) (13 + 14 * p + 3) bl) (13 + 14 * p + 4) (nI 0)) (13 + 14 * p + 7) (nI 25)) (13 + 14 * p + 5) (nI 0)) (13 + 14 * p + 8) (nI 25)) (13 + 14 * p + 6) (nI 0)) (13 + 14 * p + 9) (nI 25)) p).trans ((pk_un (by omega)).trans ((pk_un (by omega)).trans ((pk_un (by omega)).trans ((pk_un (by omega)).trans ((pk_un (by omega)).trans ((pk_un (by omega)).trans ((pk_un (by omega)).trans ((pk_un (by omega)).trans ((pk_un (by omega)).trans ((pk_un (by omega)).trans (opM_4 _ _ _)))))))))))))) ?_
              exact hret _ _ _ _ _ _ (by first | rw [mAv, ix_nI (show p < 2 ^ 31 by omega), if_neg c_1, if_neg c_2, if_neg c_3, if_neg c_4, if_neg c_5, if_neg c_6] | rw [mAv, if_neg c_1, if_neg c_2, if_neg c_3, if_neg c_4, if_neg c_5, if_neg c_6] | simp only [mAv, ix_nI (show p < 2 ^ 31 by omega), if_neg c_1, if_neg c_2, if_neg c_3, if_neg c_4, if_neg c_5, if_neg c_6]) (by first | rw [mAw, ix_nI (show p < 2 ^ 31 by omega), if_neg c_1, if_neg c_2, if_neg c_3, if_neg c_4, if_neg c_5, if_neg c_6] | rw [mAw, if_neg c_1, if_neg c_2, if_neg c_3, if_neg c_4, if_neg c_5, if_neg c_6] | simp only [mAw, ix_nI (show p < 2 ^ 31 by omega), if_neg c_1, if_neg c_2, if_neg c_3, if_neg c_4, if_neg c_5, if_neg c_6]) rfl hP hS dX8_comes_149
            · refine lv_bipush (v := (-4)) hx hb dX8_comes_63 (by decide) ?_
              exact hret _ _ _ _ _ _ (by first | rw [mAv, ix_nI (show p < 2 ^ 31 by omega), if_neg c_1, if_neg c_2, if_neg c_3, if_neg c_4, if_neg c_5, if_pos c_6] | rw [mAv, if_neg c_1, if_neg c_2, if_neg c_3, if_neg c_4, if_neg c_5, if_pos c_6] | simp only [mAv, ix_nI (show p < 2 ^ 31 by omega), if_neg c_1, if_neg c_2, if_neg c_3, if_neg c_4, if_neg c_5, if_pos c_6]) (by first | rw [mAw, ix_nI (show p < 2 ^ 31 by omega), if_neg c_1, if_neg c_2, if_neg c_3, if_neg c_4, if_neg c_5, if_pos c_6] | rw [mAw, if_neg c_1, if_neg c_2, if_neg c_3, if_neg c_4, if_neg c_5, if_pos c_6] | simp only [mAw, ix_nI (show p < 2 ^ 31 by omega), if_neg c_1, if_neg c_2, if_neg c_3, if_neg c_4, if_neg c_5, if_pos c_6]) rfl hP hS dX8_comes_65
          · refine lv_bipush (v := (-2)) hx hb dX8_comes_49 (by decide) ?_
            exact hret _ _ _ _ _ _ (by first | rw [mAv, ix_nI (show p < 2 ^ 31 by omega), if_neg c_1, if_neg c_2, if_neg c_3, if_neg c_4, if_pos c_5] | rw [mAv, if_neg c_1, if_neg c_2, if_neg c_3, if_neg c_4, if_pos c_5] | simp only [mAv, ix_nI (show p < 2 ^ 31 by omega), if_neg c_1, if_neg c_2, if_neg c_3, if_neg c_4, if_pos c_5]) (by first | rw [mAw, ix_nI (show p < 2 ^ 31 by omega), if_neg c_1, if_neg c_2, if_neg c_3, if_neg c_4, if_pos c_5] | rw [mAw, if_neg c_1, if_neg c_2, if_neg c_3, if_neg c_4, if_pos c_5] | simp only [mAw, ix_nI (show p < 2 ^ 31 by omega), if_neg c_1, if_neg c_2, if_neg c_3, if_neg c_4, if_pos c_5]) rfl hP hS dX8_comes_51
  · refine lv_iconst (v := (-1)) hx hb dX8_comes_14 (by decide) ?_
    exact hret _ _ _ _ _ _ (by rw [mAv, if_pos c_1]) (by rw [mAw, if_pos c_1]) rfl hP hS dX8_comes_15

theorem cd_X8_lights : cdV RX8 yX8_lights cX8_lights 5 (some .int) 3 := ⟨⟨bw_823, bw_65, by decide, by decide, by decide +kernel⟩, bw_822, bw_18⟩
def mLv (g : Nat → Int32) (n : Nat) (x : Int32) (y : Int32) (z : Int32) : Int32 := if mIs g x = 0 then (-1) else if mIc y = 0 then (-2) else if mIp z = 0 then (-2) else g (13 + 14 * (ix x) + (7 + (ix y)))
def mLw (g : Nat → Int32) (n : Nat) (x : Int32) (y : Int32) (z : Int32) : Nat → Int32 := if mIs g x = 0 then g else if mIc y = 0 then g else if mIp z = 0 then g else upd g (13 + 14 * (ix x) + (7 + (ix y))) z
set_option maxHeartbeats 4000000 in
set_option maxRecDepth 100000 in
theorem c_X8_lights (l : Launch) (E : EV) (xo : Nat) (st : Nat) (sp : Nat) (th : Nat) (so : Nat) (sv : Nat) (pd : Nat) (nu : Nat) (sn : Nat) (ln : Nat) (ta : Nat) (sg : Int32) (g : Nat → Int32) (n : Nat) (x : Int32) (y : Int32) (z : Int32) (hf : g 4 = nI n) (hn : n ≤ 20) : rcI l E yX8_lights cX8_lights 5 .int 2 [.ref xo, .int x, .int y, .int z] [(xo, .inr (5, [.ref st, .ref sp, .ref th, .int (nI sn), .ref so, .ref sv, .ref pd, .int (nI ln), .int (nI ta), .int sg, .ref nu])), (st, .inl (E.2.1, 293, .inl g))] (mLv g n x y z) [(xo, .inr (5, [.ref st, .ref sp, .ref th, .int (nI sn), .ref so, .ref sv, .ref pd, .int (nI ln), .int (nI ta), .int sg, .ref nu])), (st, .inl (E.2.1, 293, .inl (mLw g n x y z)))] := by
  refine rcI_of (by decide) (Nat.le_of_ble_eq_true rfl) ?_
  intro pg e s m below meth c Q A ls S hP hD0 hE hA hl hret
  have hx := S.1
  have hb := S.2.1
  have hown := S.2.2.2.1
  have hts := S.2.2.2.2
  have hK := hE.1
  have hS : va_S A s.heap s.heap [] := va_S.rf
  have hDa : va_Da A [xo, st] := ⟨_, hD0, rfl⟩
  have hl : lv_has ls 5 [(0, .ref xo), (1, .int x), (2, .int y), (3, .int z)] := hl
  refine lv_aload_n hx hb dX8_lights_0 rfl (lv_at hl 0 rfl) ?_
  refine lv_iload_n hx hb dX8_lights_1 rfl (lv_at hl 1 rfl) ?_
  refine rwV1 (rest := []) S (c_X8_isShot l E xo st sp th so sv pd nu sn ln ta sg g x) cd_X8_isShot bw_808 ⟨Nat.le_of_ble_eq_true rfl, Nat.le_of_ble_eq_true rfl⟩ ⟨Nat.zero_le _, Nat.zero_le _⟩ hP (hDa.to rfl) hE hA hS [0, 1] rfl rfl [xo, st] rfl rfl (ci := 5) rfl (q0 := 0) rfl (Nat.le_of_ble_eq_true rfl) hl.1 dX8_lights_2 (fun H locs hP _ hS => ?_)
  have hP : va_P E.1 vwCl [(xo, .inr (5, [.ref st, .ref sp, .ref th, .int (nI sn), .ref so, .ref sv, .ref pd, .int (nI ln), .int (nI ta), .int sg, .ref nu])), (st, .inl (E.2.1, 293, .inl g))] H := hP
  refine lv_if_ne (tgt := 10) hx hb dX8_lights_5 (by decide) (fun c_1 => ?_) (fun c_1 => ?_)
  · obtain ⟨p, h9_p, rfl⟩ : ∃ p : Nat, p < n ∧ x = nI p := (mIs_of hf hn c_1)
    refine lv_iload_n hx hb dX8_lights_10 rfl (lv_at hl 2 rfl) ?_
    refine rwS1 (rest := []) S (c_X8_isColour l E y) cd_X8_isColour bw_824 ⟨Nat.le_of_ble_eq_true rfl, Nat.le_of_ble_eq_true rfl⟩ ⟨Nat.zero_le _, Nat.zero_le _⟩ hP (hDa.to rfl) hE hA hS [] rfl rfl [] rfl rfl (Nat.le_of_ble_eq_true rfl) hl.1 dX8_lights_11 (fun H locs hP _ hS => ?_)
    have hP : va_P E.1 vwCl [(xo, .inr (5, [.ref st, .ref sp, .ref th, .int (nI sn), .ref so, .ref sv, .ref pd, .int (nI ln), .int (nI ta), .int sg, .ref nu])), (st, .inl (E.2.1, 293, .inl g))] H := hP
    refine lv_if_eq (tgt := 24) hx hb dX8_lights_14 (by decide) (fun c_2 => ?_) (fun c_2 => ?_)
    · refine lv_bipush (v := (-2)) hx hb dX8_lights_24 (by decide) ?_
      exact hret _ _ _ _ _ _ (by first | rw [mLv, ix_nI (show p < 2 ^ 31 by omega), if_neg c_1, if_pos c_2] | rw [mLv, if_neg c_1, if_pos c_2] | simp only [mLv, ix_nI (show p < 2 ^ 31 by omega), if_neg c_1, if_pos c_2]) (by first | rw [mLw, ix_nI (show p < 2 ^ 31 by omega), if_neg c_1, if_pos c_2] | rw [mLw, if_neg c_1, if_pos c_2] | simp only [mLw, ix_nI (show p < 2 ^ 31 by omega), if_neg c_1, if_pos c_2]) rfl hP hS dX8_lights_26
    · obtain ⟨co, h9_co, rfl⟩ : ∃ co : Nat, co < 3 ∧ y = nI co := (mIc_of c_2)
      refine lv_iload_n hx hb dX8_lights_17 rfl (lv_at hl 3 rfl) ?_
      refine rwS1 (rest := []) S (c_X8_isPoints l E z) cd_X8_isPoints bw_789 ⟨Nat.le_of_ble_eq_true rfl, Nat.le_of_ble_eq_true rfl⟩ ⟨Nat.zero_le _, Nat.zero_le _⟩ hP (hDa.to rfl) hE hA hS [] rfl rfl [] rfl rfl (Nat.le_of_ble_eq_true rfl) hl.1 dX8_lights_18 (fun H locs hP _ hS => ?_)
      have hP : va_P E.1 vwCl [(xo, .inr (5, [.ref st, .ref sp, .ref th, .int (nI sn), .ref so, .ref sv, .ref pd, .int (nI ln), .int (nI ta), .int sg, .ref nu])), (st, .inl (E.2.1, 293, .inl g))] H := hP
      refine lv_if_ne (tgt := 27) hx hb dX8_lights_21 (by decide) (fun c_3 => ?_) (fun c_3 => ?_)
      · refine lv_aload_n hx hb dX8_lights_27 rfl (lv_at hl 0 rfl) ?_
        refine lv_iload_n hx hb dX8_lights_28 rfl (lv_at hl 1 rfl) ?_
        refine lv_bipush (v := nI 7) hx hb dX8_lights_29 (by decide) ?_
        refine lv_iload_n hx hb dX8_lights_31 rfl (lv_at hl 2 rfl) ?_
        refine rn_add (a := 7) (b := co) hx hb dX8_lights_32 ?_
        refine rwV2 (rest := []) S (c_X8_of14 l E xo st sp th so sv pd nu sn ln ta sg g p (7 + co) (by omega) (by omega)) cd_X8_of14 bw_827 ⟨Nat.le_of_ble_eq_true rfl, Nat.le_of_ble_eq_true rfl⟩ ⟨Nat.zero_le _, Nat.zero_le _⟩ hP (hDa.to rfl) hE hA hS [0, 1] rfl rfl [xo, st] rfl rfl (ci := 5) rfl (q0 := 0) rfl (Nat.le_of_ble_eq_true rfl) hl.1 dX8_lights_33 (fun H locs hP _ hS => ?_)
        have hP : va_P E.1 vwCl [(xo, .inr (5, [.ref st, .ref sp, .ref th, .int (nI sn), .ref so, .ref sv, .ref pd, .int (nI ln), .int (nI ta), .int sg, .ref nu])), (st, .inl (E.2.1, 293, .inl g))] H := hP
        refine lv_istore (lv' := [(4, .int (g (13 + 14 * p + (7 + co)))), (0, .ref xo), (1, .int (nI p)), (2, .int (nI co)), (3, .int z)]) hx hb dX8_lights_36 hl (by decide) rfl (fun ls hl => ?_)
        refine lv_aload_n hx hb dX8_lights_38 rfl (lv_at hl 1 rfl) ?_
        refine lv_iload_n hx hb dX8_lights_39 rfl (lv_at hl 2 rfl) ?_
        refine lv_bipush (v := nI 7) hx hb dX8_lights_40 (by decide) ?_
        refine lv_iload_n hx hb dX8_lights_42 rfl (lv_at hl 3 rfl) ?_
        refine rn_add (a := 7) (b := co) hx hb dX8_lights_43 ?_
        refine lv_iload_n hx hb dX8_lights_44 rfl (lv_at hl 4 rfl) ?_
        refine rwVv3 (rest := []) S (c_X8_setOf l E xo st sp th so sv pd nu sn ln ta sg g p (7 + co) z (by omega) (by omega)) cd_X8_setOf bw_796 ⟨Nat.le_of_ble_eq_true rfl, Nat.le_of_ble_eq_true rfl⟩ ⟨Nat.zero_le _, Nat.zero_le _⟩ hP (hDa.to rfl) hE hA hS [0, 1] rfl rfl [xo, st] rfl rfl (ci := 5) rfl (q0 := 0) rfl (Nat.le_of_ble_eq_true rfl) hl.1 dX8_lights_45 (fun H locs hP _ hS => ?_)
        have hP : va_P E.1 vwCl [(xo, .inr (5, [.ref st, .ref sp, .ref th, .int (nI sn), .ref so, .ref sv, .ref pd, .int (nI ln), .int (nI ta), .int sg, .ref nu])), (st, .inl (E.2.1, 293, .inl (upd g (13 + 14 * p + (7 + co)) z)))] H := hP
        refine lv_iload hx hb dX8_lights_48 (lv_at hl 0 rfl) ?_
        exact hret _ _ _ _ _ _ (by first | rw [mLv, ix_nI (show p < 2 ^ 31 by omega), ix_nI (show co < 2 ^ 31 by omega), if_neg c_1, if_neg c_2, if_neg c_3] | rw [mLv, if_neg c_1, if_neg c_2, if_neg c_3] | simp only [mLv, ix_nI (show p < 2 ^ 31 by omega), ix_nI (show co < 2 ^ 31 by omega), if_neg c_1, if_neg c_2, if_neg c_3]) (by first | rw [mLw, ix_nI (show p < 2 ^ 31 by omega), ix_nI (show co < 2 ^ 31 by omega), if_neg c_1, if_neg c_2, if_neg c_3] | rw [mLw, if_neg c_1, if_neg c_2, if_neg c_3] | simp only [mLw, ix_nI (show p < 2 ^ 31 by omega), ix_nI (show co < 2 ^ 31 by omega), if_neg c_1, if_neg c_2, if_neg c_3]) rfl hP hS dX8_lights_50
      · refine lv_bipush (v := (-2)) hx hb dX8_lights_24 (by decide) ?_
        exact hret _ _ _ _ _ _ (by first | rw [mLv, ix_nI (show p < 2 ^ 31 by omega), ix_nI (show co < 2 ^ 31 by omega), if_neg c_1, if_neg c_2, if_pos c_3] | rw [mLv, if_neg c_1, if_neg c_2, if_pos c_3] | simp only [mLv, ix_nI (show p < 2 ^ 31 by omega), ix_nI (show co < 2 ^ 31 by omega), if_neg c_1, if_neg c_2, if_pos c_3]) (by first | rw [mLw, ix_nI (show p < 2 ^ 31 by omega), ix_nI (show co < 2 ^ 31 by omega), if_neg c_1, if_neg c_2, if_pos c_3] | rw [mLw, if_neg c_1, if_neg c_2, if_pos c_3] | simp only [mLw, ix_nI (show p < 2 ^ 31 by omega), ix_nI (show co < 2 ^ 31 by omega), if_neg c_1, if_neg c_2, if_pos c_3]) rfl hP hS dX8_lights_26
  · refine lv_iconst (v := (-1)) hx hb dX8_lights_8 (by decide) ?_
    exact hret _ _ _ _ _ _ (by rw [mLv, if_pos c_1]) (by rw [mLw, if_pos c_1]) rfl hP hS dX8_lights_9

theorem cd_X8_wishes : cdV RX8 yX8_wishes cX8_wishes 5 (some .int) 3 := ⟨⟨bw_838, bw_65, by decide, by decide, by decide +kernel⟩, bw_837, bw_20⟩
def mWv (g : Nat → Int32) (n : Nat) (x : Int32) (y : Int32) (z : Int32) : Int32 := if mIs g x = 0 then (-1) else if mIc y = 0 then (-2) else if mIw z (-10) (nI 10) = 0 then (-2) else g (13 + 14 * (ix x) + (4 + (ix y))) + (nI 10)
def mWw (g : Nat → Int32) (n : Nat) (x : Int32) (y : Int32) (z : Int32) : Nat → Int32 := if mIs g x = 0 then g else if mIc y = 0 then g else if mIw z (-10) (nI 10) = 0 then g else upd g (13 + 14 * (ix x) + (4 + (ix y))) z
set_option maxHeartbeats 4000000 in
set_option maxRecDepth 100000 in
theorem c_X8_wishes (l : Launch) (E : EV) (xo : Nat) (st : Nat) (sp : Nat) (th : Nat) (so : Nat) (sv : Nat) (pd : Nat) (nu : Nat) (sn : Nat) (ln : Nat) (ta : Nat) (sg : Int32) (g : Nat → Int32) (n : Nat) (x : Int32) (y : Int32) (z : Int32) (hf : g 4 = nI n) (hn : n ≤ 20) : rcI l E yX8_wishes cX8_wishes 5 .int 2 [.ref xo, .int x, .int y, .int z] [(xo, .inr (5, [.ref st, .ref sp, .ref th, .int (nI sn), .ref so, .ref sv, .ref pd, .int (nI ln), .int (nI ta), .int sg, .ref nu])), (st, .inl (E.2.1, 293, .inl g))] (mWv g n x y z) [(xo, .inr (5, [.ref st, .ref sp, .ref th, .int (nI sn), .ref so, .ref sv, .ref pd, .int (nI ln), .int (nI ta), .int sg, .ref nu])), (st, .inl (E.2.1, 293, .inl (mWw g n x y z)))] := by
  refine rcI_of (by decide) (Nat.le_of_ble_eq_true rfl) ?_
  intro pg e s m below meth c Q A ls S hP hD0 hE hA hl hret
  have hx := S.1
  have hb := S.2.1
  have hown := S.2.2.2.1
  have hts := S.2.2.2.2
  have hK := hE.1
  have hS : va_S A s.heap s.heap [] := va_S.rf
  have hDa : va_Da A [xo, st] := ⟨_, hD0, rfl⟩
  have hl : lv_has ls 5 [(0, .ref xo), (1, .int x), (2, .int y), (3, .int z)] := hl
  refine lv_aload_n hx hb dX8_wishes_0 rfl (lv_at hl 0 rfl) ?_
  refine lv_iload_n hx hb dX8_wishes_1 rfl (lv_at hl 1 rfl) ?_
  refine rwV1 (rest := []) S (c_X8_isShot l E xo st sp th so sv pd nu sn ln ta sg g x) cd_X8_isShot bw_808 ⟨Nat.le_of_ble_eq_true rfl, Nat.le_of_ble_eq_true rfl⟩ ⟨Nat.zero_le _, Nat.zero_le _⟩ hP (hDa.to rfl) hE hA hS [0, 1] rfl rfl [xo, st] rfl rfl (ci := 5) rfl (q0 := 0) rfl (Nat.le_of_ble_eq_true rfl) hl.1 dX8_wishes_2 (fun H locs hP _ hS => ?_)
  have hP : va_P E.1 vwCl [(xo, .inr (5, [.ref st, .ref sp, .ref th, .int (nI sn), .ref so, .ref sv, .ref pd, .int (nI ln), .int (nI ta), .int sg, .ref nu])), (st, .inl (E.2.1, 293, .inl g))] H := hP
  refine lv_if_ne (tgt := 10) hx hb dX8_wishes_5 (by decide) (fun c_1 => ?_) (fun c_1 => ?_)
  · obtain ⟨p, h9_p, rfl⟩ : ∃ p : Nat, p < n ∧ x = nI p := (mIs_of hf hn c_1)
    refine lv_iload_n hx hb dX8_wishes_10 rfl (lv_at hl 2 rfl) ?_
    refine rwS1 (rest := []) S (c_X8_isColour l E y) cd_X8_isColour bw_824 ⟨Nat.le_of_ble_eq_true rfl, Nat.le_of_ble_eq_true rfl⟩ ⟨Nat.zero_le _, Nat.zero_le _⟩ hP (hDa.to rfl) hE hA hS [] rfl rfl [] rfl rfl (Nat.le_of_ble_eq_true rfl) hl.1 dX8_wishes_11 (fun H locs hP _ hS => ?_)
    have hP : va_P E.1 vwCl [(xo, .inr (5, [.ref st, .ref sp, .ref th, .int (nI sn), .ref so, .ref sv, .ref pd, .int (nI ln), .int (nI ta), .int sg, .ref nu])), (st, .inl (E.2.1, 293, .inl g))] H := hP
    refine lv_if_eq (tgt := 28) hx hb dX8_wishes_14 (by decide) (fun c_2 => ?_) (fun c_2 => ?_)
    · refine lv_bipush (v := (-2)) hx hb dX8_wishes_28 (by decide) ?_
      exact hret _ _ _ _ _ _ (by first | rw [mWv, ix_nI (show p < 2 ^ 31 by omega), if_neg c_1, if_pos c_2] | rw [mWv, if_neg c_1, if_pos c_2] | simp only [mWv, ix_nI (show p < 2 ^ 31 by omega), if_neg c_1, if_pos c_2]) (by first | rw [mWw, ix_nI (show p < 2 ^ 31 by omega), if_neg c_1, if_pos c_2] | rw [mWw, if_neg c_1, if_pos c_2] | simp only [mWw, ix_nI (show p < 2 ^ 31 by omega), if_neg c_1, if_pos c_2]) rfl hP hS dX8_wishes_30
    · obtain ⟨co, h9_co, rfl⟩ : ∃ co : Nat, co < 3 ∧ y = nI co := (mIc_of c_2)
      refine lv_iload_n hx hb dX8_wishes_17 rfl (lv_at hl 3 rfl) ?_
      refine lv_bipush (v := (-10)) hx hb dX8_wishes_18 (by decide) ?_
      refine lv_bipush (v := nI 10) hx hb dX8_wishes_20 (by decide) ?_
      refine rwS3 (rest := []) S (c_X8_within l E z (-10) (nI 10)) cd_X8_within bw_755 ⟨Nat.le_of_ble_eq_true rfl, Nat.le_of_ble_eq_true rfl⟩ ⟨Nat.zero_le _, Nat.zero_le _⟩ hP (hDa.to rfl) hE hA hS [] rfl rfl [] rfl rfl (Nat.le_of_ble_eq_true rfl) hl.1 dX8_wishes_22 (fun H locs hP _ hS => ?_)
      have hP : va_P E.1 vwCl [(xo, .inr (5, [.ref st, .ref sp, .ref th, .int (nI sn), .ref so, .ref sv, .ref pd, .int (nI ln), .int (nI ta), .int sg, .ref nu])), (st, .inl (E.2.1, 293, .inl g))] H := hP
      refine lv_if_ne (tgt := 31) hx hb dX8_wishes_25 (by decide) (fun c_3 => ?_) (fun c_3 => ?_)
      · refine lv_aload_n hx hb dX8_wishes_31 rfl (lv_at hl 0 rfl) ?_
        refine lv_iload_n hx hb dX8_wishes_32 rfl (lv_at hl 1 rfl) ?_
        refine lv_iconst (v := nI 4) hx hb dX8_wishes_33 (by decide) ?_
        refine lv_iload_n hx hb dX8_wishes_34 rfl (lv_at hl 2 rfl) ?_
        refine rn_add (a := 4) (b := co) hx hb dX8_wishes_35 ?_
        refine rwV2 (rest := []) S (c_X8_of14 l E xo st sp th so sv pd nu sn ln ta sg g p (4 + co) (by omega) (by omega)) cd_X8_of14 bw_827 ⟨Nat.le_of_ble_eq_true rfl, Nat.le_of_ble_eq_true rfl⟩ ⟨Nat.zero_le _, Nat.zero_le _⟩ hP (hDa.to rfl) hE hA hS [0, 1] rfl rfl [xo, st] rfl rfl (ci := 5) rfl (q0 := 0) rfl (Nat.le_of_ble_eq_true rfl) hl.1 dX8_wishes_36 (fun H locs hP _ hS => ?_)
        have hP : va_P E.1 vwCl [(xo, .inr (5, [.ref st, .ref sp, .ref th, .int (nI sn), .ref so, .ref sv, .ref pd, .int (nI ln), .int (nI ta), .int sg, .ref nu])), (st, .inl (E.2.1, 293, .inl g))] H := hP
        refine lv_istore (lv' := [(4, .int (g (13 + 14 * p + (4 + co)))), (0, .ref xo), (1, .int (nI p)), (2, .int (nI co)), (3, .int z)]) hx hb dX8_wishes_39 hl (by decide) rfl (fun ls hl => ?_)
        refine lv_aload_n hx hb dX8_wishes_41 rfl (lv_at hl 1 rfl) ?_
        refine lv_iload_n hx hb dX8_wishes_42 rfl (lv_at hl 2 rfl) ?_
        refine lv_iconst (v := nI 4) hx hb dX8_wishes_43 (by decide) ?_
        refine lv_iload_n hx hb dX8_wishes_44 rfl (lv_at hl 3 rfl) ?_
        refine rn_add (a := 4) (b := co) hx hb dX8_wishes_45 ?_
        refine lv_iload_n hx hb dX8_wishes_46 rfl (lv_at hl 4 rfl) ?_
        refine rwVv3 (rest := []) S (c_X8_setOf l E xo st sp th so sv pd nu sn ln ta sg g p (4 + co) z (by omega) (by omega)) cd_X8_setOf bw_796 ⟨Nat.le_of_ble_eq_true rfl, Nat.le_of_ble_eq_true rfl⟩ ⟨Nat.zero_le _, Nat.zero_le _⟩ hP (hDa.to rfl) hE hA hS [0, 1] rfl rfl [xo, st] rfl rfl (ci := 5) rfl (q0 := 0) rfl (Nat.le_of_ble_eq_true rfl) hl.1 dX8_wishes_47 (fun H locs hP _ hS => ?_)
        have hP : va_P E.1 vwCl [(xo, .inr (5, [.ref st, .ref sp, .ref th, .int (nI sn), .ref so, .ref sv, .ref pd, .int (nI ln), .int (nI ta), .int sg, .ref nu])), (st, .inl (E.2.1, 293, .inl (upd g (13 + 14 * p + (4 + co)) z)))] H := hP
        refine lv_iload hx hb dX8_wishes_50 (lv_at hl 0 rfl) ?_
        refine lv_bipush (v := nI 10) hx hb dX8_wishes_52 (by decide) ?_
        refine lv_iadd hx hb dX8_wishes_54 ?_
        exact hret _ _ _ _ _ _ (by first | rw [mWv, ix_nI (show p < 2 ^ 31 by omega), ix_nI (show co < 2 ^ 31 by omega), if_neg c_1, if_neg c_2, if_neg c_3] | rw [mWv, if_neg c_1, if_neg c_2, if_neg c_3] | simp only [mWv, ix_nI (show p < 2 ^ 31 by omega), ix_nI (show co < 2 ^ 31 by omega), if_neg c_1, if_neg c_2, if_neg c_3]) (by first | rw [mWw, ix_nI (show p < 2 ^ 31 by omega), ix_nI (show co < 2 ^ 31 by omega), if_neg c_1, if_neg c_2, if_neg c_3] | rw [mWw, if_neg c_1, if_neg c_2, if_neg c_3] | simp only [mWw, ix_nI (show p < 2 ^ 31 by omega), ix_nI (show co < 2 ^ 31 by omega), if_neg c_1, if_neg c_2, if_neg c_3]) rfl hP hS dX8_wishes_55
      · refine lv_bipush (v := (-2)) hx hb dX8_wishes_28 (by decide) ?_
        exact hret _ _ _ _ _ _ (by first | rw [mWv, ix_nI (show p < 2 ^ 31 by omega), ix_nI (show co < 2 ^ 31 by omega), if_neg c_1, if_neg c_2, if_pos c_3] | rw [mWv, if_neg c_1, if_neg c_2, if_pos c_3] | simp only [mWv, ix_nI (show p < 2 ^ 31 by omega), ix_nI (show co < 2 ^ 31 by omega), if_neg c_1, if_neg c_2, if_pos c_3]) (by first | rw [mWw, ix_nI (show p < 2 ^ 31 by omega), ix_nI (show co < 2 ^ 31 by omega), if_neg c_1, if_neg c_2, if_pos c_3] | rw [mWw, if_neg c_1, if_neg c_2, if_pos c_3] | simp only [mWw, ix_nI (show p < 2 ^ 31 by omega), ix_nI (show co < 2 ^ 31 by omega), if_neg c_1, if_neg c_2, if_pos c_3]) rfl hP hS dX8_wishes_30
  · refine lv_iconst (v := (-1)) hx hb dX8_wishes_8 (by decide) ?_
    exact hret _ _ _ _ _ _ (by rw [mWv, if_pos c_1]) (by rw [mWw, if_pos c_1]) rfl hP hS dX8_wishes_9

theorem cd_X8_exchange : cdV RX8 yX8_exchange cX8_exchange 5 none 2 := ⟨⟨bw_850, bw_65, by decide, by decide, by decide +kernel⟩, bw_849, bw_22⟩
set_option maxHeartbeats 4000000 in
set_option maxRecDepth 100000 in
theorem c_X8_exchange (l : Launch) (E : EV) (xo : Nat) (st : Nat) (sp : Nat) (th : Nat) (so : Nat) (sv : Nat) (pd : Nat) (nu : Nat) (sn : Nat) (ln : Nat) (ta : Nat) (sg : Int32) (g : Nat → Int32) (a : Nat) (b : Nat) (h1 : a < 20) (h2 : b < 20) (hne : a ≠ b) : rcV l E yX8_exchange cX8_exchange 5 1 [.ref xo, .int (nI a), .int (nI b)] [(xo, .inr (5, [.ref st, .ref sp, .ref th, .int (nI sn), .ref so, .ref sv, .ref pd, .int (nI ln), .int (nI ta), .int sg, .ref nu])), (st, .inl (E.2.1, 293, .inl g))] [(xo, .inr (5, [.ref st, .ref sp, .ref th, .int (nI sn), .ref so, .ref sv, .ref pd, .int (nI ln), .int (nI ta), .int sg, .ref nu])), (st, .inl (E.2.1, 293, .inl (swN g a b 14)))] := by
  refine rcV_of (by decide) (Nat.le_of_ble_eq_true rfl) ?_
  intro pg e s m below meth c Q A ls S hP hD0 hE hA hl hret
  have hx := S.1
  have hb := S.2.1
  have hown := S.2.2.2.1
  have hts := S.2.2.2.2
  have hK := hE.1
  have hS : va_S A s.heap s.heap [] := va_S.rf
  have hDa : va_Da A [xo, st] := ⟨_, hD0, rfl⟩
  have hl : lv_has ls 5 [(0, .ref xo), (1, .int (nI a)), (2, .int (nI b))] := hl
  refine lv_iconst (v := nI 0) hx hb dX8_exchange_0 (by decide) ?_
  refine lv_istore_n (lv' := [(3, .int (nI 0)), (0, .ref xo), (1, .int (nI a)), (2, .int (nI b))]) hx hb dX8_exchange_1 rfl hl (by decide) rfl (fun ls hl => ?_)
  have loop2 : ∀ (fuel : Nat) (j : Nat), 14 - j < fuel → (j ≤ 14) → ∀ (H : Heap) (locs : List Loc), va_P E.1 vwCl [(xo, .inr (5, [.ref st, .ref sp, .ref th, .int (nI sn), .ref so, .ref sv, .ref pd, .int (nI ln), .int (nI ta), .int sg, .ref nu])), (st, .inl (E.2.1, 293, .inl (swN g a b j)))] H → va_S A s.heap H locs → ∀ ls : Array Slot, lv_has ls 5 [(3, .int (nI j)), (0, .ref xo), (1, .int (nI a)), (2, .int (nI b))] → W pg l e (rq 1) s m ([.ref xo, .int (nI a), .int (nI b)] : List Value).toArray below meth c H locs 0 0 Q (F0 m 2 ls []) := by
    intro fuel
    induction fuel with
    | zero => intro j h9; exact absurd h9 (Nat.not_lt_zero _)
    | succ fuel ih2 =>
      intro j hfu2 hj H locs hP hS ls hl
      refine lv_iload_n hx hb dX8_exchange_2 rfl (lv_at hl 0 rfl) ?_
      refine lv_bipush (v := nI 14) hx hb dX8_exchange_3 (by decide) ?_
      refine rn_icmp_ge (a := j) (b := 14) (tgt := 42) hx hb (by omega) (by omega) dX8_exchange_5 (by decide) (fun c_1 => ?_) (fun c_1 => ?_)
      · exact hret _ _ _ _ _ (by rw [show j = 14 by omega]) hP hS dX8_exchange_42
      · refine lv_aload_n hx hb dX8_exchange_8 rfl (lv_at hl 1 rfl) ?_
        refine lv_iload_n hx hb dX8_exchange_9 rfl (lv_at hl 2 rfl) ?_
        refine lv_iload_n hx hb dX8_exchange_10 rfl (lv_at hl 0 rfl) ?_
        refine rwV2 (rest := []) S (c_X8_of14 l E xo st sp th so sv pd nu sn ln ta sg (swN g a b j) a j h1 (by omega)) cd_X8_of14 bw_827 ⟨Nat.le_of_ble_eq_true rfl, Nat.le_of_ble_eq_true rfl⟩ ⟨Nat.zero_le _, Nat.zero_le _⟩ hP (hDa.to rfl) hE hA hS [0, 1] rfl rfl [xo, st] rfl rfl (ci := 5) rfl (q0 := 0) rfl (Nat.le_of_ble_eq_true rfl) hl.1 dX8_exchange_11 (fun H locs hP _ hS => ?_)
        have hP : va_P E.1 vwCl [(xo, .inr (5, [.ref st, .ref sp, .ref th, .int (nI sn), .ref so, .ref sv, .ref pd, .int (nI ln), .int (nI ta), .int sg, .ref nu])), (st, .inl (E.2.1, 293, .inl (swN g a b j)))] H := hP
        refine lv_istore (lv' := [(4, .int ((swN g a b j) (13 + 14 * a + j))), (3, .int (nI j)), (0, .ref xo), (1, .int (nI a)), (2, .int (nI b))]) hx hb dX8_exchange_14 hl (by decide) rfl (fun ls hl => ?_)
        refine lv_aload_n hx hb dX8_exchange_16 rfl (lv_at hl 2 rfl) ?_
        refine lv_iload_n hx hb dX8_exchange_17 rfl (lv_at hl 3 rfl) ?_
        refine lv_iload_n hx hb dX8_exchange_18 rfl (lv_at hl 1 rfl) ?_
        refine lv_aload_n hx hb dX8_exchange_19 rfl (lv_at hl 2 rfl) ?_
        refine lv_iload_n hx hb dX8_exchange_20 rfl (lv_at hl 4 rfl) ?_
        refine lv_iload_n hx hb dX8_exchange_21 rfl (lv_at hl 1 rfl) ?_
        refine rwV2 (rest := [.int (nI j), .int (nI a), .ref xo]) S (c_X8_of14 l E xo st sp th so sv pd nu sn ln ta sg (swN g a b j) b j h2 (by omega)) cd_X8_of14 bw_827 ⟨Nat.le_of_ble_eq_true rfl, Nat.le_of_ble_eq_true rfl⟩ ⟨Nat.zero_le _, Nat.zero_le _⟩ hP (hDa.to rfl) hE hA hS [0, 1] rfl rfl [xo, st] rfl rfl (ci := 5) rfl (q0 := 0) rfl (Nat.le_of_ble_eq_true rfl) hl.1 dX8_exchange_22 (fun H locs hP _ hS => ?_)
        have hP : va_P E.1 vwCl [(xo, .inr (5, [.ref st, .ref sp, .ref th, .int (nI sn), .ref so, .ref sv, .ref pd, .int (nI ln), .int (nI ta), .int sg, .ref nu])), (st, .inl (E.2.1, 293, .inl (swN g a b j)))] H := hP
        refine rwVv3 (rest := []) S (c_X8_setOf l E xo st sp th so sv pd nu sn ln ta sg (swN g a b j) a j ((swN g a b j) (13 + 14 * b + j)) h1 (by omega)) cd_X8_setOf bw_796 ⟨Nat.le_of_ble_eq_true rfl, Nat.le_of_ble_eq_true rfl⟩ ⟨Nat.zero_le _, Nat.zero_le _⟩ hP (hDa.to rfl) hE hA hS [0, 1] rfl rfl [xo, st] rfl rfl (ci := 5) rfl (q0 := 0) rfl (Nat.le_of_ble_eq_true rfl) hl.1 dX8_exchange_25 (fun H locs hP _ hS => ?_)
        have hP : va_P E.1 vwCl [(xo, .inr (5, [.ref st, .ref sp, .ref th, .int (nI sn), .ref so, .ref sv, .ref pd, .int (nI ln), .int (nI ta), .int sg, .ref nu])), (st, .inl (E.2.1, 293, .inl (upd (swN g a b j) (13 + 14 * a + j) ((swN g a b j) (13 + 14 * b + j)))))] H := hP
        refine lv_aload_n hx hb dX8_exchange_28 rfl (lv_at hl 2 rfl) ?_
        refine lv_iload_n hx hb dX8_exchange_29 rfl (lv_at hl 4 rfl) ?_
        refine lv_iload_n hx hb dX8_exchange_30 rfl (lv_at hl 1 rfl) ?_
        refine lv_iload hx hb dX8_exchange_31 (lv_at hl 0 rfl) ?_
        refine rwVv3 (rest := []) S (c_X8_setOf l E xo st sp th so sv pd nu sn ln ta sg (upd (swN g a b j) (13 + 14 * a + j) ((swN g a b j) (13 + 14 * b + j))) b j ((swN g a b j) (13 + 14 * a + j)) h2 (by omega)) cd_X8_setOf bw_796 ⟨Nat.le_of_ble_eq_true rfl, Nat.le_of_ble_eq_true rfl⟩ ⟨Nat.zero_le _, Nat.zero_le _⟩ hP (hDa.to rfl) hE hA hS [0, 1] rfl rfl [xo, st] rfl rfl (ci := 5) rfl (q0 := 0) rfl (Nat.le_of_ble_eq_true rfl) hl.1 dX8_exchange_33 (fun H locs hP _ hS => ?_)
        have hP : va_P E.1 vwCl [(xo, .inr (5, [.ref st, .ref sp, .ref th, .int (nI sn), .ref so, .ref sv, .ref pd, .int (nI ln), .int (nI ta), .int sg, .ref nu])), (st, .inl (E.2.1, 293, .inl (upd (upd (swN g a b j) (13 + 14 * a + j) ((swN g a b j) (13 + 14 * b + j))) (13 + 14 * b + j) ((swN g a b j) (13 + 14 * a + j)))))] H := hP
        refine rn_inc (a := j) (d := 1) (lv' := [(3, .int (nI (j + 1))), (4, .int ((swN g a b j) (13 + 14 * a + j))), (0, .ref xo), (1, .int (nI a)), (2, .int (nI b))]) hx hb dX8_exchange_36 hl (k := 1) rfl (by decide) (by decide) rfl (fun ls hl => ?_)
        refine lv_goto (tgt := 2) hx hb dX8_exchange_39 (by decide) ?_
        have hP : va_P E.1 vwCl [(xo, .inr (5, [.ref st, .ref sp, .ref th, .int (nI sn), .ref so, .ref sv, .ref pd, .int (nI ln), .int (nI ta), .int sg, .ref nu])), (st, .inl (E.2.1, 293, .inl (swN g a b (j + 1))))] H := by rw [swN_s g hne (by omega)] at hP; exact hP
        have hl : lv_has ls 5 [(3, .int (nI (j + 1))), (0, .ref xo), (1, .int (nI a)), (2, .int (nI b))] := lv_sub hl [0, 2, 3, 4] rfl
        exact ih2 (j + 1) (by omega) (by omega) _ _ hP hS _ hl
  have hP : va_P E.1 vwCl [(xo, .inr (5, [.ref st, .ref sp, .ref th, .int (nI sn), .ref so, .ref sv, .ref pd, .int (nI ln), .int (nI ta), .int sg, .ref nu])), (st, .inl (E.2.1, 293, .inl (swN g a b 0)))] s.heap := by rw [swN_0]; exact hP
  have hl : lv_has ls 5 [(3, .int (nI 0)), (0, .ref xo), (1, .int (nI a)), (2, .int (nI b))] := lv_sub hl [0, 1, 2, 3] rfl
  exact loop2 _ 0 (Nat.lt_succ_self _) (by omega) _ _ hP hS _ hl

theorem cd_X8_moves : cdV RX8 yX8_moves cX8_moves 5 (some .int) 2 := ⟨⟨bw_846, bw_65, by decide, by decide, by decide +kernel⟩, bw_845, bw_21⟩
def mMv (g : Nat → Int32) (n : Nat) (x : Int32) (y : Int32) : Int32 := if mIs g x = 0 then (-1) else if mIs g y = 0 then (-1) else if (ix x) ≤ (ix y) then mAb (nI ((ix y) - (ix x))) else mAb (nI (ix y) - (nI (ix x)))
def mMw (g : Nat → Int32) (n : Nat) (x : Int32) (y : Int32) : Nat → Int32 := if mIs g x = 0 then g else if mIs g y = 0 then g else if (ix x) ≤ (ix y) then mvU g (ix x) ((ix y) - (ix x)) else mvD g (ix x) ((ix x) - (ix y))
set_option maxHeartbeats 4000000 in
set_option maxRecDepth 100000 in
theorem c_X8_moves (l : Launch) (E : EV) (xo : Nat) (st : Nat) (sp : Nat) (th : Nat) (so : Nat) (sv : Nat) (pd : Nat) (nu : Nat) (sn : Nat) (ln : Nat) (ta : Nat) (sg : Int32) (g : Nat → Int32) (n : Nat) (x : Int32) (y : Int32) (hf : g 4 = nI n) (hn : n ≤ 20) : rcI l E yX8_moves cX8_moves 5 .int 2 [.ref xo, .int x, .int y] [(xo, .inr (5, [.ref st, .ref sp, .ref th, .int (nI sn), .ref so, .ref sv, .ref pd, .int (nI ln), .int (nI ta), .int sg, .ref nu])), (st, .inl (E.2.1, 293, .inl g))] (mMv g n x y) [(xo, .inr (5, [.ref st, .ref sp, .ref th, .int (nI sn), .ref so, .ref sv, .ref pd, .int (nI ln), .int (nI ta), .int sg, .ref nu])), (st, .inl (E.2.1, 293, .inl (mMw g n x y)))] := by
  refine rcI_of (by decide) (Nat.le_of_ble_eq_true rfl) ?_
  intro pg e s m below meth c Q A ls S hP hD0 hE hA hl hret
  have hx := S.1
  have hb := S.2.1
  have hown := S.2.2.2.1
  have hts := S.2.2.2.2
  have hK := hE.1
  have hS : va_S A s.heap s.heap [] := va_S.rf
  have hDa : va_Da A [xo, st] := ⟨_, hD0, rfl⟩
  have hl : lv_has ls 5 [(0, .ref xo), (1, .int x), (2, .int y)] := hl
  refine lv_aload_n hx hb dX8_moves_0 rfl (lv_at hl 0 rfl) ?_
  refine lv_iload_n hx hb dX8_moves_1 rfl (lv_at hl 1 rfl) ?_
  refine rwV1 (rest := []) S (c_X8_isShot l E xo st sp th so sv pd nu sn ln ta sg g x) cd_X8_isShot bw_808 ⟨Nat.le_of_ble_eq_true rfl, Nat.le_of_ble_eq_true rfl⟩ ⟨Nat.zero_le _, Nat.zero_le _⟩ hP (hDa.to rfl) hE hA hS [0, 1] rfl rfl [xo, st] rfl rfl (ci := 5) rfl (q0 := 0) rfl (Nat.le_of_ble_eq_true rfl) hl.1 dX8_moves_2 (fun H locs hP _ hS => ?_)
  have hP : va_P E.1 vwCl [(xo, .inr (5, [.ref st, .ref sp, .ref th, .int (nI sn), .ref so, .ref sv, .ref pd, .int (nI ln), .int (nI ta), .int sg, .ref nu])), (st, .inl (E.2.1, 293, .inl g))] H := hP
  refine lv_if_eq (tgt := 16) hx hb dX8_moves_5 (by decide) (fun c_1 => ?_) (fun c_1 => ?_)
  · refine lv_iconst (v := (-1)) hx hb dX8_moves_16 (by decide) ?_
    exact hret _ _ _ _ _ _ (by rw [mMv, if_pos c_1]) (by rw [mMw, if_pos c_1]) rfl hP hS dX8_moves_17
  · obtain ⟨p, h9_p, rfl⟩ : ∃ p : Nat, p < n ∧ x = nI p := (mIs_of hf hn c_1)
    refine lv_aload_n hx hb dX8_moves_8 rfl (lv_at hl 0 rfl) ?_
    refine lv_iload_n hx hb dX8_moves_9 rfl (lv_at hl 2 rfl) ?_
    refine rwV1 (rest := []) S (c_X8_isShot l E xo st sp th so sv pd nu sn ln ta sg g y) cd_X8_isShot bw_808 ⟨Nat.le_of_ble_eq_true rfl, Nat.le_of_ble_eq_true rfl⟩ ⟨Nat.zero_le _, Nat.zero_le _⟩ hP (hDa.to rfl) hE hA hS [0, 1] rfl rfl [xo, st] rfl rfl (ci := 5) rfl (q0 := 0) rfl (Nat.le_of_ble_eq_true rfl) hl.1 dX8_moves_10 (fun H locs hP _ hS => ?_)
    have hP : va_P E.1 vwCl [(xo, .inr (5, [.ref st, .ref sp, .ref th, .int (nI sn), .ref so, .ref sv, .ref pd, .int (nI ln), .int (nI ta), .int sg, .ref nu])), (st, .inl (E.2.1, 293, .inl g))] H := hP
    refine lv_if_ne (tgt := 18) hx hb dX8_moves_13 (by decide) (fun c_2 => ?_) (fun c_2 => ?_)
    · obtain ⟨q, h9_q, rfl⟩ : ∃ q : Nat, q < n ∧ y = nI q := (mIs_of hf hn c_2)
      refine lv_iload_n hx hb dX8_moves_18 rfl (lv_at hl 2 rfl) ?_
      refine lv_iload_n hx hb dX8_moves_19 rfl (lv_at hl 1 rfl) ?_
      refine rn_icmp_ge (a := q) (b := p) (tgt := 27) hx hb (by omega) (by omega) dX8_moves_20 (by decide) (fun c_3 => ?_) (fun c_3 => ?_)
      · refine lv_iconst (v := nI 1) hx hb dX8_moves_27 (by decide) ?_
        refine lv_istore_n (lv' := [(3, .int (nI 1)), (0, .ref xo), (1, .int (nI p)), (2, .int (nI q))]) hx hb dX8_moves_28 rfl hl (by decide) rfl (fun ls hl => ?_)
        refine lv_iload_n hx hb dX8_moves_29 rfl (lv_at hl 2 rfl) ?_
        refine lv_istore (lv' := [(4, .int (nI p)), (3, .int (nI 1)), (0, .ref xo), (1, .int (nI p)), (2, .int (nI q))]) hx hb dX8_moves_30 hl (by decide) rfl (fun ls hl => ?_)
        have loop32_3 : ∀ (fuel : Nat) (d : Nat), q - p - d < fuel → (d ≤ q - p) → ∀ (H : Heap) (locs : List Loc), va_P E.1 vwCl [(xo, .inr (5, [.ref st, .ref sp, .ref th, .int (nI sn), .ref so, .ref sv, .ref pd, .int (nI ln), .int (nI ta), .int sg, .ref nu])), (st, .inl (E.2.1, 293, .inl (mvU g p d)))] H → va_S A s.heap H locs → ∀ ls : Array Slot, lv_has ls 5 [(4, .int (nI (p + d))), (3, .int (nI 1)), (0, .ref xo), (1, .int (nI p)), (2, .int (nI q))] → W pg l e (rq 2) s m ([.ref xo, .int (nI p), .int (nI q)] : List Value).toArray below meth c H locs 0 0 Q (F0 m 32 ls []) := by
          intro fuel
          induction fuel with
          | zero => intro d h9; exact absurd h9 (Nat.not_lt_zero _)
          | succ fuel ih32 =>
            intro d hfu32 hd H locs hP hS ls hl
            refine lv_iload hx hb dX8_moves_32 (lv_at hl 0 rfl) ?_
            refine lv_iload_n hx hb dX8_moves_34 rfl (lv_at hl 4 rfl) ?_
            refine rn_icmp_eq (a := p + d) (b := q) (tgt := 57) hx hb (by omega) (by omega) dX8_moves_35 (by decide) (fun c_4 => ?_) (fun c_4 => ?_)
            · have hex : q - p = d := by omega
              subst hex
              refine lv_iload_n hx hb dX8_moves_57 rfl (lv_at hl 4 rfl) ?_
              refine lv_iload_n hx hb dX8_moves_58 rfl (lv_at hl 3 rfl) ?_
              refine rn_sub (a := q) (b := p) hx hb dX8_moves_59 (by omega) ?_
              refine rwS1 (rest := []) S (c_X8_sizeOf l E (nI (q - p))) cd_X8_sizeOf bw_851 ⟨Nat.le_of_ble_eq_true rfl, Nat.le_of_ble_eq_true rfl⟩ ⟨Nat.zero_le _, Nat.zero_le _⟩ hP (hDa.to rfl) hE hA hS [] rfl rfl [] rfl rfl (Nat.le_of_ble_eq_true rfl) hl.1 dX8_moves_60 (fun H locs hP _ hS => ?_)
              have hP : va_P E.1 vwCl [(xo, .inr (5, [.ref st, .ref sp, .ref th, .int (nI sn), .ref so, .ref sv, .ref pd, .int (nI ln), .int (nI ta), .int sg, .ref nu])), (st, .inl (E.2.1, 293, .inl (mvU g p (q - p))))] H := hP
              exact hret _ _ _ _ _ _ (by first | rw [mMv, ix_nI (show p < 2 ^ 31 by omega), ix_nI (show q < 2 ^ 31 by omega), if_neg c_1, if_neg c_2, if_pos c_3] | rw [mMv, if_neg c_1, if_neg c_2, if_pos c_3] | simp only [mMv, ix_nI (show p < 2 ^ 31 by omega), ix_nI (show q < 2 ^ 31 by omega), if_neg c_1, if_neg c_2, if_pos c_3]) (by first | rw [mMw, ix_nI (show p < 2 ^ 31 by omega), ix_nI (show q < 2 ^ 31 by omega), if_neg c_1, if_neg c_2, if_pos c_3] | rw [mMw, if_neg c_1, if_neg c_2, if_pos c_3] | simp only [mMw, ix_nI (show p < 2 ^ 31 by omega), ix_nI (show q < 2 ^ 31 by omega), if_neg c_1, if_neg c_2, if_pos c_3]) rfl hP hS dX8_moves_63
            · refine lv_aload_n hx hb dX8_moves_38 rfl (lv_at hl 2 rfl) ?_
              refine lv_iload hx hb dX8_moves_39 (lv_at hl 0 rfl) ?_
              refine lv_iload hx hb dX8_moves_41 (lv_at hl 0 rfl) ?_
              refine lv_iload_n hx hb dX8_moves_43 rfl (lv_at hl 1 rfl) ?_
              refine rn_add (a := p + d) (b := 1) hx hb dX8_moves_44 ?_
              refine rwVv2 (rest := []) S (c_X8_exchange l E xo st sp th so sv pd nu sn ln ta sg (mvU g p d) (p + d) (p + d + 1) (by omega) (by omega) (by omega)) cd_X8_exchange bw_847 ⟨Nat.le_of_ble_eq_true rfl, Nat.le_of_ble_eq_true rfl⟩ ⟨Nat.zero_le _, Nat.zero_le _⟩ hP (hDa.to rfl) hE hA hS [0, 1] rfl rfl [xo, st] rfl rfl (ci := 5) rfl (q0 := 0) rfl (Nat.le_of_ble_eq_true rfl) hl.1 dX8_moves_45 (fun H locs hP _ hS => ?_)
              have hP : va_P E.1 vwCl [(xo, .inr (5, [.ref st, .ref sp, .ref th, .int (nI sn), .ref so, .ref sv, .ref pd, .int (nI ln), .int (nI ta), .int sg, .ref nu])), (st, .inl (E.2.1, 293, .inl (swN (mvU g p d) (p + d) (p + d + 1) 14)))] H := hP
              refine lv_iload hx hb dX8_moves_48 (lv_at hl 0 rfl) ?_
              refine lv_iload_n hx hb dX8_moves_50 rfl (lv_at hl 1 rfl) ?_
              refine rn_add (a := p + d) (b := 1) hx hb dX8_moves_51 ?_
              refine lv_istore (lv' := [(4, .int (nI (p + d + 1))), (3, .int (nI 1)), (0, .ref xo), (1, .int (nI p)), (2, .int (nI q))]) hx hb dX8_moves_52 hl (by decide) rfl (fun ls hl => ?_)
              refine lv_goto (tgt := 32) hx hb dX8_moves_54 (by decide) ?_
              have hP : va_P E.1 vwCl [(xo, .inr (5, [.ref st, .ref sp, .ref th, .int (nI sn), .ref so, .ref sv, .ref pd, .int (nI ln), .int (nI ta), .int sg, .ref nu])), (st, .inl (E.2.1, 293, .inl (mvU g p (d + 1))))] H := by exact hP
              have hl : lv_has ls 5 [(4, .int (nI (p + (d + 1)))), (3, .int (nI 1)), (0, .ref xo), (1, .int (nI p)), (2, .int (nI q))] := lv_sub hl [0, 1, 2, 3, 4] rfl
              exact ih32 (d + 1) (by omega) (by omega) _ _ hP hS _ hl
        have hP : va_P E.1 vwCl [(xo, .inr (5, [.ref st, .ref sp, .ref th, .int (nI sn), .ref so, .ref sv, .ref pd, .int (nI ln), .int (nI ta), .int sg, .ref nu])), (st, .inl (E.2.1, 293, .inl (mvU g p 0)))] H := by exact hP
        have hl : lv_has ls 5 [(4, .int (nI (p + 0))), (3, .int (nI 1)), (0, .ref xo), (1, .int (nI p)), (2, .int (nI q))] := lv_sub hl [0, 1, 2, 3, 4] rfl
        exact loop32_3 _ 0 (Nat.lt_succ_self _) (by omega) _ _ hP hS _ hl
      · refine lv_iconst (v := (-1)) hx hb dX8_moves_23 (by decide) ?_
        refine lv_goto (tgt := 28) hx hb dX8_moves_24 (by decide) ?_
        refine lv_istore_n (lv' := [(3, .int (-1)), (0, .ref xo), (1, .int (nI p)), (2, .int (nI q))]) hx hb dX8_moves_28 rfl hl (by decide) rfl (fun ls hl => ?_)
        refine lv_iload_n hx hb dX8_moves_29 rfl (lv_at hl 2 rfl) ?_
        refine lv_istore (lv' := [(4, .int (nI p)), (3, .int (-1)), (0, .ref xo), (1, .int (nI p)), (2, .int (nI q))]) hx hb dX8_moves_30 hl (by decide) rfl (fun ls hl => ?_)
        have loop32_4 : ∀ (fuel : Nat) (t : Nat), p - q - t < fuel → (t ≤ p - q) → ∀ (H : Heap) (locs : List Loc), va_P E.1 vwCl [(xo, .inr (5, [.ref st, .ref sp, .ref th, .int (nI sn), .ref so, .ref sv, .ref pd, .int (nI ln), .int (nI ta), .int sg, .ref nu])), (st, .inl (E.2.1, 293, .inl (mvD g p t)))] H → va_S A s.heap H locs → ∀ ls : Array Slot, lv_has ls 5 [(4, .int (nI (p - t))), (3, .int (-1)), (0, .ref xo), (1, .int (nI p)), (2, .int (nI q))] → W pg l e (rq 2) s m ([.ref xo, .int (nI p), .int (nI q)] : List Value).toArray below meth c H locs 0 0 Q (F0 m 32 ls []) := by
          intro fuel
          induction fuel with
          | zero => intro t h9; exact absurd h9 (Nat.not_lt_zero _)
          | succ fuel ih32 =>
            intro t hfu32 ht H locs hP hS ls hl
            refine lv_iload hx hb dX8_moves_32 (lv_at hl 0 rfl) ?_
            refine lv_iload_n hx hb dX8_moves_34 rfl (lv_at hl 4 rfl) ?_
            refine rn_icmp_eq (a := p - t) (b := q) (tgt := 57) hx hb (by omega) (by omega) dX8_moves_35 (by decide) (fun c_5 => ?_) (fun c_5 => ?_)
            · have hex : p - q = t := by omega
              subst hex
              refine lv_iload_n hx hb dX8_moves_57 rfl (lv_at hl 4 rfl) ?_
              refine lv_iload_n hx hb dX8_moves_58 rfl (lv_at hl 3 rfl) ?_
              refine lv_isub hx hb dX8_moves_59 ?_
              refine rwS1 (rest := []) S (c_X8_sizeOf l E (nI q - (nI p))) cd_X8_sizeOf bw_851 ⟨Nat.le_of_ble_eq_true rfl, Nat.le_of_ble_eq_true rfl⟩ ⟨Nat.zero_le _, Nat.zero_le _⟩ hP (hDa.to rfl) hE hA hS [] rfl rfl [] rfl rfl (Nat.le_of_ble_eq_true rfl) hl.1 dX8_moves_60 (fun H locs hP _ hS => ?_)
              have hP : va_P E.1 vwCl [(xo, .inr (5, [.ref st, .ref sp, .ref th, .int (nI sn), .ref so, .ref sv, .ref pd, .int (nI ln), .int (nI ta), .int sg, .ref nu])), (st, .inl (E.2.1, 293, .inl (mvD g p (p - q))))] H := hP
              exact hret _ _ _ _ _ _ (by first | rw [mMv, ix_nI (show p < 2 ^ 31 by omega), ix_nI (show q < 2 ^ 31 by omega), if_neg c_1, if_neg c_2, if_neg c_3] | rw [mMv, if_neg c_1, if_neg c_2, if_neg c_3] | simp only [mMv, ix_nI (show p < 2 ^ 31 by omega), ix_nI (show q < 2 ^ 31 by omega), if_neg c_1, if_neg c_2, if_neg c_3]) (by first | rw [mMw, ix_nI (show p < 2 ^ 31 by omega), ix_nI (show q < 2 ^ 31 by omega), if_neg c_1, if_neg c_2, if_neg c_3] | rw [mMw, if_neg c_1, if_neg c_2, if_neg c_3] | simp only [mMw, ix_nI (show p < 2 ^ 31 by omega), ix_nI (show q < 2 ^ 31 by omega), if_neg c_1, if_neg c_2, if_neg c_3]) rfl hP hS dX8_moves_63
            · refine lv_aload_n hx hb dX8_moves_38 rfl (lv_at hl 2 rfl) ?_
              refine lv_iload hx hb dX8_moves_39 (lv_at hl 0 rfl) ?_
              refine lv_iload hx hb dX8_moves_41 (lv_at hl 0 rfl) ?_
              refine lv_iload_n hx hb dX8_moves_43 rfl (lv_at hl 1 rfl) ?_
              refine lv_iadd hx hb dX8_moves_44 ?_
              refine W.eq (congrArg (fun z => F0 m 45 ls (.int z :: [.int (nI (p - t)), .ref xo])) (show nI (p - t) + (-1) = nI (p - t - 1) from nI_m1 (by omega))) ?_
              refine rwVv2 (rest := []) S (c_X8_exchange l E xo st sp th so sv pd nu sn ln ta sg (mvD g p t) (p - t) (p - t - 1) (by omega) (by omega) (by omega)) cd_X8_exchange bw_847 ⟨Nat.le_of_ble_eq_true rfl, Nat.le_of_ble_eq_true rfl⟩ ⟨Nat.zero_le _, Nat.zero_le _⟩ hP (hDa.to rfl) hE hA hS [0, 1] rfl rfl [xo, st] rfl rfl (ci := 5) rfl (q0 := 0) rfl (Nat.le_of_ble_eq_true rfl) hl.1 dX8_moves_45 (fun H locs hP _ hS => ?_)
              have hP : va_P E.1 vwCl [(xo, .inr (5, [.ref st, .ref sp, .ref th, .int (nI sn), .ref so, .ref sv, .ref pd, .int (nI ln), .int (nI ta), .int sg, .ref nu])), (st, .inl (E.2.1, 293, .inl (swN (mvD g p t) (p - t) (p - t - 1) 14)))] H := hP
              refine lv_iload hx hb dX8_moves_48 (lv_at hl 0 rfl) ?_
              refine lv_iload_n hx hb dX8_moves_50 rfl (lv_at hl 1 rfl) ?_
              refine lv_iadd hx hb dX8_moves_51 ?_
              refine W.eq (congrArg (fun z => F0 m 52 ls (.int z :: [])) (show nI (p - t) + (-1) = nI (p - t - 1) from nI_m1 (by omega))) ?_
              refine lv_istore (lv' := [(4, .int (nI (p - t - 1))), (3, .int (-1)), (0, .ref xo), (1, .int (nI p)), (2, .int (nI q))]) hx hb dX8_moves_52 hl (by decide) rfl (fun ls hl => ?_)
              refine lv_goto (tgt := 32) hx hb dX8_moves_54 (by decide) ?_
              have hP : va_P E.1 vwCl [(xo, .inr (5, [.ref st, .ref sp, .ref th, .int (nI sn), .ref so, .ref sv, .ref pd, .int (nI ln), .int (nI ta), .int sg, .ref nu])), (st, .inl (E.2.1, 293, .inl (mvD g p (t + 1))))] H := by exact hP
              have hl : lv_has ls 5 [(4, .int (nI (p - (t + 1)))), (3, .int (-1)), (0, .ref xo), (1, .int (nI p)), (2, .int (nI q))] := lv_sub hl [0, 1, 2, 3, 4] rfl
              exact ih32 (t + 1) (by omega) (by omega) _ _ hP hS _ hl
        have hP : va_P E.1 vwCl [(xo, .inr (5, [.ref st, .ref sp, .ref th, .int (nI sn), .ref so, .ref sv, .ref pd, .int (nI ln), .int (nI ta), .int sg, .ref nu])), (st, .inl (E.2.1, 293, .inl (mvD g p 0)))] H := by exact hP
        have hl : lv_has ls 5 [(4, .int (nI (p - 0))), (3, .int (-1)), (0, .ref xo), (1, .int (nI p)), (2, .int (nI q))] := lv_sub hl [0, 1, 2, 3, 4] rfl
        exact loop32_4 _ 0 (Nat.lt_succ_self _) (by omega) _ _ hP hS _ hl
    · refine lv_iconst (v := (-1)) hx hb dX8_moves_16 (by decide) ?_
      exact hret _ _ _ _ _ _ (by first | rw [mMv, ix_nI (show p < 2 ^ 31 by omega), if_neg c_1, if_pos c_2] | rw [mMv, if_neg c_1, if_pos c_2] | simp only [mMv, ix_nI (show p < 2 ^ 31 by omega), if_neg c_1, if_pos c_2]) (by first | rw [mMw, ix_nI (show p < 2 ^ 31 by omega), if_neg c_1, if_pos c_2] | rw [mMw, if_neg c_1, if_pos c_2] | simp only [mMw, ix_nI (show p < 2 ^ 31 by omega), if_neg c_1, if_pos c_2]) rfl hP hS dX8_moves_17

theorem cd_X8_splits : cdV RX8 yX8_splits cX8_splits 3 (some .int) 2 := ⟨⟨bw_861, bw_65, by decide, by decide, by decide +kernel⟩, bw_860, bw_23⟩
def mPv (g : Nat → Int32) (n : Nat) (x : Int32) (z : Int32) : Int32 := if mIs g x = 0 then (-1) else if mIw z (nI 1) (nI 98) = 0 then (-2) else if z < g (13 + 14 * (ix x) + 0) then if n = 20 then (-4) else nI (n + 1) else (-5)
def mPw (g : Nat → Int32) (n : Nat) (x : Int32) (z : Int32) : Nat → Int32 := if mIs g x = 0 then g else if mIw z (nI 1) (nI 98) = 0 then g else if z < g (13 + 14 * (ix x) + 0) then if n = 20 then g else mTa (mTa (upd (upd (opM g n (ix x)) (13 + 14 * ((ix x) + 1) + 0) ((opM g n (ix x)) (13 + 14 * (ix x) + 0) - z)) (13 + 14 * (ix x) + 0) z) (ix x)) ((ix x) + 1) else g
set_option maxHeartbeats 4000000 in
set_option maxRecDepth 100000 in
theorem c_X8_splits (l : Launch) (E : EV) (xo : Nat) (st : Nat) (sp : Nat) (th : Nat) (so : Nat) (sv : Nat) (pd : Nat) (nu : Nat) (sn : Nat) (ln : Nat) (ta : Nat) (sg : Int32) (g : Nat → Int32) (n : Nat) (x : Int32) (z : Int32) (hf : g 4 = nI n) (hn : n ≤ 20) : rcI l E yX8_splits cX8_splits 3 .int 2 [.ref xo, .int x, .int z] [(xo, .inr (5, [.ref st, .ref sp, .ref th, .int (nI sn), .ref so, .ref sv, .ref pd, .int (nI ln), .int (nI ta), .int sg, .ref nu])), (st, .inl (E.2.1, 293, .inl g))] (mPv g n x z) [(xo, .inr (5, [.ref st, .ref sp, .ref th, .int (nI sn), .ref so, .ref sv, .ref pd, .int (nI ln), .int (nI ta), .int sg, .ref nu])), (st, .inl (E.2.1, 293, .inl (mPw g n x z)))] := by
  refine rcI_of (by decide) (Nat.le_of_ble_eq_true rfl) ?_
  intro pg e s m below meth c Q A ls S hP hD0 hE hA hl hret
  have hx := S.1
  have hb := S.2.1
  have hown := S.2.2.2.1
  have hts := S.2.2.2.2
  have hK := hE.1
  have hS : va_S A s.heap s.heap [] := va_S.rf
  have hDa : va_Da A [xo, st] := ⟨_, hD0, rfl⟩
  have hl : lv_has ls 3 [(0, .ref xo), (1, .int x), (2, .int z)] := hl
  refine lv_aload_n hx hb dX8_splits_0 rfl (lv_at hl 0 rfl) ?_
  refine lv_iload_n hx hb dX8_splits_1 rfl (lv_at hl 1 rfl) ?_
  refine rwV1 (rest := []) S (c_X8_isShot l E xo st sp th so sv pd nu sn ln ta sg g x) cd_X8_isShot bw_808 ⟨Nat.le_of_ble_eq_true rfl, Nat.le_of_ble_eq_true rfl⟩ ⟨Nat.zero_le _, Nat.zero_le _⟩ hP (hDa.to rfl) hE hA hS [0, 1] rfl rfl [xo, st] rfl rfl (ci := 5) rfl (q0 := 0) rfl (Nat.le_of_ble_eq_true rfl) hl.1 dX8_splits_2 (fun H locs hP _ hS => ?_)
  have hP : va_P E.1 vwCl [(xo, .inr (5, [.ref st, .ref sp, .ref th, .int (nI sn), .ref so, .ref sv, .ref pd, .int (nI ln), .int (nI ta), .int sg, .ref nu])), (st, .inl (E.2.1, 293, .inl g))] H := hP
  refine lv_if_ne (tgt := 10) hx hb dX8_splits_5 (by decide) (fun c_1 => ?_) (fun c_1 => ?_)
  · obtain ⟨p, h9_p, rfl⟩ : ∃ p : Nat, p < n ∧ x = nI p := (mIs_of hf hn c_1)
    refine lv_iload_n hx hb dX8_splits_10 rfl (lv_at hl 2 rfl) ?_
    refine lv_iconst (v := nI 1) hx hb dX8_splits_11 (by decide) ?_
    refine lv_bipush (v := nI 98) hx hb dX8_splits_12 (by decide) ?_
    refine rwS3 (rest := []) S (c_X8_within l E z (nI 1) (nI 98)) cd_X8_within bw_755 ⟨Nat.le_of_ble_eq_true rfl, Nat.le_of_ble_eq_true rfl⟩ ⟨Nat.zero_le _, Nat.zero_le _⟩ hP (hDa.to rfl) hE hA hS [] rfl rfl [] rfl rfl (Nat.le_of_ble_eq_true rfl) hl.1 dX8_splits_14 (fun H locs hP _ hS => ?_)
    have hP : va_P E.1 vwCl [(xo, .inr (5, [.ref st, .ref sp, .ref th, .int (nI sn), .ref so, .ref sv, .ref pd, .int (nI ln), .int (nI ta), .int sg, .ref nu])), (st, .inl (E.2.1, 293, .inl g))] H := hP
    refine lv_if_ne (tgt := 23) hx hb dX8_splits_17 (by decide) (fun c_2 => ?_) (fun c_2 => ?_)
    · refine lv_aload_n hx hb dX8_splits_23 rfl (lv_at hl 0 rfl) ?_
      refine lv_iload_n hx hb dX8_splits_24 rfl (lv_at hl 1 rfl) ?_
      refine lv_iconst (v := nI 0) hx hb dX8_splits_25 (by decide) ?_
      refine rwV2 (rest := []) S (c_X8_of14 l E xo st sp th so sv pd nu sn ln ta sg g p 0 (by omega) (by omega)) cd_X8_of14 bw_827 ⟨Nat.le_of_ble_eq_true rfl, Nat.le_of_ble_eq_true rfl⟩ ⟨Nat.zero_le _, Nat.zero_le _⟩ hP (hDa.to rfl) hE hA hS [0, 1] rfl rfl [xo, st] rfl rfl (ci := 5) rfl (q0 := 0) rfl (Nat.le_of_ble_eq_true rfl) hl.1 dX8_splits_26 (fun H locs hP _ hS => ?_)
      have hP : va_P E.1 vwCl [(xo, .inr (5, [.ref st, .ref sp, .ref th, .int (nI sn), .ref so, .ref sv, .ref pd, .int (nI ln), .int (nI ta), .int sg, .ref nu])), (st, .inl (E.2.1, 293, .inl g))] H := hP
      refine lv_iload_n hx hb dX8_splits_29 rfl (lv_at hl 2 rfl) ?_
      refine lv_icmp_gt (tgt := 36) hx hb dX8_splits_30 (by decide) (fun c_3 => ?_) (fun c_3 => ?_)
      · refine lv_aload_n hx hb dX8_splits_36 rfl (lv_at hl 0 rfl) ?_
        refine va_get (D := E.1) (ci := 5) (v := .ref st) (C := RX8) (T := TX8) (N := 11) hx hb hts inb_X8 hown hK hP 0 rfl rfl 0 (by decide) (hts _ bw_710) (fun _ h9 => h9) rfl dX8_splits_37 ?_
        refine lv_iconst (v := nI 4) hx hb dX8_splits_40 (by decide) ?_
        refine rn_iald (i := 4) hx hb hK hP 1 0 rfl rfl (by omega) (by omega) dX8_splits_41 ?_
        refine W.eq (congrArg (fun z => F0 m 42 ls (.int z :: [])) (show g 4 = nI n from hf)) ?_
        refine lv_bipush (v := nI 20) hx hb dX8_splits_42 (by decide) ?_
        refine rn_icmp_ne (a := n) (b := 20) (tgt := 50) hx hb (by omega) (by omega) dX8_splits_44 (by decide) (fun c_4 => ?_) (fun c_4 => ?_)
        · refine lv_aload_n hx hb dX8_splits_50 rfl (lv_at hl 0 rfl) ?_
          refine lv_iload_n hx hb dX8_splits_51 rfl (lv_at hl 1 rfl) ?_
          refine rwVv1 (rest := []) S (c_X8_open l E xo st sp th so sv pd nu sn ln ta sg g n p hf (by omega) (by omega)) cd_X8_open bw_792 ⟨Nat.le_of_ble_eq_true rfl, Nat.le_of_ble_eq_true rfl⟩ ⟨Nat.zero_le _, Nat.zero_le _⟩ hP (hDa.to rfl) hE hA hS [0, 1] rfl rfl [xo, st] rfl rfl (ci := 5) rfl (q0 := 0) rfl (Nat.le_of_ble_eq_true rfl) hl.1 dX8_splits_52 (fun H locs hP _ hS => ?_)
          have hP : va_P E.1 vwCl [(xo, .inr (5, [.ref st, .ref sp, .ref th, .int (nI sn), .ref so, .ref sv, .ref pd, .int (nI ln), .int (nI ta), .int sg, .ref nu])), (st, .inl (E.2.1, 293, .inl (opM g n p)))] H := hP
          refine lv_aload_n hx hb dX8_splits_55 rfl (lv_at hl 0 rfl) ?_
          refine lv_iload_n hx hb dX8_splits_56 rfl (lv_at hl 1 rfl) ?_
          refine lv_iconst (v := nI 1) hx hb dX8_splits_57 (by decide) ?_
          refine rn_add (a := p) (b := 1) hx hb dX8_splits_58 ?_
          refine lv_iconst (v := nI 0) hx hb dX8_splits_59 (by decide) ?_
          refine lv_aload_n hx hb dX8_splits_60 rfl (lv_at hl 0 rfl) ?_
          refine lv_iload_n hx hb dX8_splits_61 rfl (lv_at hl 1 rfl) ?_
          refine lv_iconst (v := nI 0) hx hb dX8_splits_62 (by decide) ?_
          refine rwV2 (rest := [.int (nI 0), .int (nI (p + 1)), .ref xo]) S (c_X8_of14 l E xo st sp th so sv pd nu sn ln ta sg (opM g n p) p 0 (by omega) (by omega)) cd_X8_of14 bw_827 ⟨Nat.le_of_ble_eq_true rfl, Nat.le_of_ble_eq_true rfl⟩ ⟨Nat.zero_le _, Nat.zero_le _⟩ hP (hDa.to rfl) hE hA hS [0, 1] rfl rfl [xo, st] rfl rfl (ci := 5) rfl (q0 := 0) rfl (Nat.le_of_ble_eq_true rfl) hl.1 dX8_splits_63 (fun H locs hP _ hS => ?_)
          have hP : va_P E.1 vwCl [(xo, .inr (5, [.ref st, .ref sp, .ref th, .int (nI sn), .ref so, .ref sv, .ref pd, .int (nI ln), .int (nI ta), .int sg, .ref nu])), (st, .inl (E.2.1, 293, .inl (opM g n p)))] H := hP
          refine lv_iload_n hx hb dX8_splits_66 rfl (lv_at hl 2 rfl) ?_
          refine lv_isub hx hb dX8_splits_67 ?_
          refine rwVv3 (rest := []) S (c_X8_setOf l E xo st sp th so sv pd nu sn ln ta sg (opM g n p) (p + 1) 0 ((opM g n p) (13 + 14 * p + 0) - z) (by omega) (by omega)) cd_X8_setOf bw_796 ⟨Nat.le_of_ble_eq_true rfl, Nat.le_of_ble_eq_true rfl⟩ ⟨Nat.zero_le _, Nat.zero_le _⟩ hP (hDa.to rfl) hE hA hS [0, 1] rfl rfl [xo, st] rfl rfl (ci := 5) rfl (q0 := 0) rfl (Nat.le_of_ble_eq_true rfl) hl.1 dX8_splits_68 (fun H locs hP _ hS => ?_)
          have hP : va_P E.1 vwCl [(xo, .inr (5, [.ref st, .ref sp, .ref th, .int (nI sn), .ref so, .ref sv, .ref pd, .int (nI ln), .int (nI ta), .int sg, .ref nu])), (st, .inl (E.2.1, 293, .inl (upd (opM g n p) (13 + 14 * (p + 1) + 0) ((opM g n p) (13 + 14 * p + 0) - z))))] H := hP
          refine lv_aload_n hx hb dX8_splits_71 rfl (lv_at hl 0 rfl) ?_
          refine lv_iload_n hx hb dX8_splits_72 rfl (lv_at hl 1 rfl) ?_
          refine lv_iconst (v := nI 0) hx hb dX8_splits_73 (by decide) ?_
          refine lv_iload_n hx hb dX8_splits_74 rfl (lv_at hl 2 rfl) ?_
          refine rwVv3 (rest := []) S (c_X8_setOf l E xo st sp th so sv pd nu sn ln ta sg (upd (opM g n p) (13 + 14 * (p + 1) + 0) ((opM g n p) (13 + 14 * p + 0) - z)) p 0 z (by omega) (by omega)) cd_X8_setOf bw_796 ⟨Nat.le_of_ble_eq_true rfl, Nat.le_of_ble_eq_true rfl⟩ ⟨Nat.zero_le _, Nat.zero_le _⟩ hP (hDa.to rfl) hE hA hS [0, 1] rfl rfl [xo, st] rfl rfl (ci := 5) rfl (q0 := 0) rfl (Nat.le_of_ble_eq_true rfl) hl.1 dX8_splits_75 (fun H locs hP _ hS => ?_)
          have hP : va_P E.1 vwCl [(xo, .inr (5, [.ref st, .ref sp, .ref th, .int (nI sn), .ref so, .ref sv, .ref pd, .int (nI ln), .int (nI ta), .int sg, .ref nu])), (st, .inl (E.2.1, 293, .inl (upd (upd (opM g n p) (13 + 14 * (p + 1) + 0) ((opM g n p) (13 + 14 * p + 0) - z)) (13 + 14 * p + 0) z)))] H := hP
          refine lv_aload_n hx hb dX8_splits_78 rfl (lv_at hl 0 rfl) ?_
          refine lv_iload_n hx hb dX8_splits_79 rfl (lv_at hl 1 rfl) ?_
          refine rwVv1 (rest := []) S (c_X8_takeAnswer l E xo st sp th so sv pd nu sn ln ta sg (upd (upd (opM g n p) (13 + 14 * (p + 1) + 0) ((opM g n p) (13 + 14 * p + 0) - z)) (13 + 14 * p + 0) z) p (by omega)) cd_X8_takeAnswer bw_800 ⟨Nat.le_of_ble_eq_true rfl, Nat.le_of_ble_eq_true rfl⟩ ⟨Nat.zero_le _, Nat.zero_le _⟩ hP (hDa.to rfl) hE hA hS [0, 1] rfl rfl [xo, st] rfl rfl (ci := 5) rfl (q0 := 0) rfl (Nat.le_of_ble_eq_true rfl) hl.1 dX8_splits_80 (fun H locs hP _ hS => ?_)
          have hP : va_P E.1 vwCl [(xo, .inr (5, [.ref st, .ref sp, .ref th, .int (nI sn), .ref so, .ref sv, .ref pd, .int (nI ln), .int (nI ta), .int sg, .ref nu])), (st, .inl (E.2.1, 293, .inl (mTa (upd (upd (opM g n p) (13 + 14 * (p + 1) + 0) ((opM g n p) (13 + 14 * p + 0) - z)) (13 + 14 * p + 0) z) p)))] H := hP
          refine lv_aload_n hx hb dX8_splits_83 rfl (lv_at hl 0 rfl) ?_
          refine lv_iload_n hx hb dX8_splits_84 rfl (lv_at hl 1 rfl) ?_
          refine lv_iconst (v := nI 1) hx hb dX8_splits_85 (by decide) ?_
          refine rn_add (a := p) (b := 1) hx hb dX8_splits_86 ?_
          refine rwVv1 (rest := []) S (c_X8_takeAnswer l E xo st sp th so sv pd nu sn ln ta sg (mTa (upd (upd (opM g n p) (13 + 14 * (p + 1) + 0) ((opM g n p) (13 + 14 * p + 0) - z)) (13 + 14 * p + 0) z) p) (p + 1) (by omega)) cd_X8_takeAnswer bw_800 ⟨Nat.le_of_ble_eq_true rfl, Nat.le_of_ble_eq_true rfl⟩ ⟨Nat.zero_le _, Nat.zero_le _⟩ hP (hDa.to rfl) hE hA hS [0, 1] rfl rfl [xo, st] rfl rfl (ci := 5) rfl (q0 := 0) rfl (Nat.le_of_ble_eq_true rfl) hl.1 dX8_splits_87 (fun H locs hP _ hS => ?_)
          have hP : va_P E.1 vwCl [(xo, .inr (5, [.ref st, .ref sp, .ref th, .int (nI sn), .ref so, .ref sv, .ref pd, .int (nI ln), .int (nI ta), .int sg, .ref nu])), (st, .inl (E.2.1, 293, .inl (mTa (mTa (upd (upd (opM g n p) (13 + 14 * (p + 1) + 0) ((opM g n p) (13 + 14 * p + 0) - z)) (13 + 14 * p + 0) z) p) (p + 1))))] H := hP
          refine lv_aload_n hx hb dX8_splits_90 rfl (lv_at hl 0 rfl) ?_
          refine va_get (D := E.1) (ci := 5) (v := .ref st) (C := RX8) (T := TX8) (N := 11) hx hb hts inb_X8 hown hK hP 0 rfl rfl 0 (by decide) (hts _ bw_710) (fun _ h9 => h9) rfl dX8_splits_91 ?_
          refine lv_iconst (v := nI 4) hx hb dX8_splits_94 (by decide) ?_
          refine rn_iald (i := 4) hx hb hK hP 1 0 rfl rfl (by omega) (by omega) dX8_splits_95 ?_
          refine W.eq (congrArg (fun z => F0 m 96 ls (.int z :: [])) (show (mTa (mTa (upd (upd (opM g n p) (13 + 14 * (p + 1) + 0) ((opM g n p) (13 + 14 * p + 0) - z)) (13 + 14 * p + 0) z) p) (p + 1)) 4 = nI (n + 1) from ((mTa_4 (mTa (upd (upd (opM g n p) (13 + 14 * (p + 1) + 0) ((opM g n p) (13 + 14 * p + 0) - z)) (13 + 14 * p + 0) z) p) (p + 1)).trans ((mTa_4 (upd (upd (opM g n p) (13 + 14 * (p + 1) + 0) ((opM g n p) (13 + 14 * p + 0) - z)) (13 + 14 * p + 0) z) p).trans ((pk_un (by omega)).trans ((pk_un (by omega)).trans (opM_4 _ _ _))))))) ?_
          exact hret _ _ _ _ _ _ (by first | rw [mPv, ix_nI (show p < 2 ^ 31 by omega), if_neg c_1, if_neg c_2, if_pos c_3, if_neg c_4] | rw [mPv, if_neg c_1, if_neg c_2, if_pos c_3, if_neg c_4] | simp only [mPv, ix_nI (show p < 2 ^ 31 by omega), if_neg c_1, if_neg c_2, if_pos c_3, if_neg c_4]) (by first | rw [mPw, ix_nI (show p < 2 ^ 31 by omega), if_neg c_1, if_neg c_2, if_pos c_3, if_neg c_4] | rw [mPw, if_neg c_1, if_neg c_2, if_pos c_3, if_neg c_4] | simp only [mPw, ix_nI (show p < 2 ^ 31 by omega), if_neg c_1, if_neg c_2, if_pos c_3, if_neg c_4]) rfl hP hS dX8_splits_96
        · refine lv_bipush (v := (-4)) hx hb dX8_splits_47 (by decide) ?_
          exact hret _ _ _ _ _ _ (by first | rw [mPv, ix_nI (show p < 2 ^ 31 by omega), if_neg c_1, if_neg c_2, if_pos c_3, if_pos c_4] | rw [mPv, if_neg c_1, if_neg c_2, if_pos c_3, if_pos c_4] | simp only [mPv, ix_nI (show p < 2 ^ 31 by omega), if_neg c_1, if_neg c_2, if_pos c_3, if_pos c_4]) (by first | rw [mPw, ix_nI (show p < 2 ^ 31 by omega), if_neg c_1, if_neg c_2, if_pos c_3, if_pos c_4] | rw [mPw, if_neg c_1, if_neg c_2, if_pos c_3, if_pos c_4] | simp only [mPw, ix_nI (show p < 2 ^ 31 by omega), if_neg c_1, if_neg c_2, if_pos c_3, if_pos c_4]) rfl hP hS dX8_splits_49
      · refine lv_bipush (v := (-5)) hx hb dX8_splits_33 (by decide) ?_
        exact hret _ _ _ _ _ _ (by first | rw [mPv, ix_nI (show p < 2 ^ 31 by omega), if_neg c_1, if_neg c_2, if_neg c_3] | rw [mPv, if_neg c_1, if_neg c_2, if_neg c_3] | simp only [mPv, ix_nI (show p < 2 ^ 31 by omega), if_neg c_1, if_neg c_2, if_neg c_3]) (by first | rw [mPw, ix_nI (show p < 2 ^ 31 by omega), if_neg c_1, if_neg c_2, if_neg c_3] | rw [mPw, if_neg c_1, if_neg c_2, if_neg c_3] | simp only [mPw, ix_nI (show p < 2 ^ 31 by omega), if_neg c_1, if_neg c_2, if_neg c_3]) rfl hP hS dX8_splits_35
    · refine lv_bipush (v := (-2)) hx hb dX8_splits_20 (by decide) ?_
      exact hret _ _ _ _ _ _ (by first | rw [mPv, ix_nI (show p < 2 ^ 31 by omega), if_neg c_1, if_pos c_2] | rw [mPv, if_neg c_1, if_pos c_2] | simp only [mPv, ix_nI (show p < 2 ^ 31 by omega), if_neg c_1, if_pos c_2]) (by first | rw [mPw, ix_nI (show p < 2 ^ 31 by omega), if_neg c_1, if_pos c_2] | rw [mPw, if_neg c_1, if_pos c_2] | simp only [mPw, ix_nI (show p < 2 ^ 31 by omega), if_neg c_1, if_pos c_2]) rfl hP hS dX8_splits_22
  · refine lv_iconst (v := (-1)) hx hb dX8_splits_8 (by decide) ?_
    exact hret _ _ _ _ _ _ (by rw [mPv, if_pos c_1]) (by rw [mPw, if_pos c_1]) rfl hP hS dX8_splits_9

theorem cd_X8_areAlike : cdV RX8 yX8_areAlike cX8_areAlike 4 (some .boolean) 1 := ⟨⟨bw_873, bw_65, by decide, by decide, by decide +kernel⟩, bw_872, bw_25⟩
def mAl (g : Nat → Int32) (p : Nat) : Int32 := if g (13 + 14 * p + 1) = g (13 + 14 * (p + 1) + 1) then if g (13 + 14 * p + 2) = g (13 + 14 * (p + 1) + 2) then if g (13 + 14 * p + 3) = g (13 + 14 * (p + 1) + 3) then nI 1 else nI 0 else nI 0 else nI 0
theorem mAl_z (g : Nat → Int32) (p : Nat) : narrow .boolean (.int (mAl g p)) = .int (mAl g p) := by
  unfold mAl
  repeat' split
  all_goals first | decide | rfl
set_option maxHeartbeats 4000000 in
set_option maxRecDepth 100000 in
theorem c_X8_areAlike (l : Launch) (E : EV) (xo : Nat) (st : Nat) (sp : Nat) (th : Nat) (so : Nat) (sv : Nat) (pd : Nat) (nu : Nat) (sn : Nat) (ln : Nat) (ta : Nat) (sg : Int32) (g : Nat → Int32) (p : Nat) (hp : p < 19) : rcI l E yX8_areAlike cX8_areAlike 4 .boolean 1 [.ref xo, .int (nI p)] [(xo, .inr (5, [.ref st, .ref sp, .ref th, .int (nI sn), .ref so, .ref sv, .ref pd, .int (nI ln), .int (nI ta), .int sg, .ref nu])), (st, .inl (E.2.1, 293, .inl g))] (mAl g p) [(xo, .inr (5, [.ref st, .ref sp, .ref th, .int (nI sn), .ref so, .ref sv, .ref pd, .int (nI ln), .int (nI ta), .int sg, .ref nu])), (st, .inl (E.2.1, 293, .inl g))] := by
  refine rcI_of (by decide) (Nat.le_of_ble_eq_true rfl) ?_
  intro pg e s m below meth c Q A ls S hP hD0 hE hA hl hret
  have hx := S.1
  have hb := S.2.1
  have hown := S.2.2.2.1
  have hts := S.2.2.2.2
  have hK := hE.1
  have hS : va_S A s.heap s.heap [] := va_S.rf
  have hDa : va_Da A [xo, st] := ⟨_, hD0, rfl⟩
  have hl : lv_has ls 4 [(0, .ref xo), (1, .int (nI p))] := hl
  refine lv_iconst (v := nI 1) hx hb dX8_areAlike_0 (by decide) ?_
  refine lv_istore_n (lv' := [(2, .int (nI 1)), (0, .ref xo), (1, .int (nI p))]) hx hb dX8_areAlike_1 rfl hl (by decide) rfl (fun ls hl => ?_)
  refine lv_iconst (v := nI 0) hx hb dX8_areAlike_2 (by decide) ?_
  refine lv_istore_n (lv' := [(3, .int (nI 0)), (2, .int (nI 1)), (0, .ref xo), (1, .int (nI p))]) hx hb dX8_areAlike_3 rfl hl (by decide) rfl (fun ls hl => ?_)
  refine lv_iload_n hx hb dX8_areAlike_4 rfl (lv_at hl 0 rfl) ?_
  refine lv_iconst (v := nI 3) hx hb dX8_areAlike_5 (by decide) ?_
  refine rn_icmp_ge (a := 0) (b := 3) (tgt := 46) hx hb (by omega) (by omega) dX8_areAlike_6 (by decide) (fun c_1 => absurd c_1 (by omega)) (fun c_1 => ?_)
  refine lv_iload_n hx hb dX8_areAlike_9 rfl (lv_at hl 1 rfl) ?_
  refine lv_if_eq (tgt := 38) hx hb dX8_areAlike_10 (by decide) (fun c9 => by first | exact absurd c9 (by decide) | exact absurd (by decide) c9) (fun _ => ?_)
  refine lv_aload_n hx hb dX8_areAlike_13 rfl (lv_at hl 2 rfl) ?_
  refine lv_iload_n hx hb dX8_areAlike_14 rfl (lv_at hl 3 rfl) ?_
  refine lv_iconst (v := nI 1) hx hb dX8_areAlike_15 (by decide) ?_
  refine lv_iload_n hx hb dX8_areAlike_16 rfl (lv_at hl 0 rfl) ?_
  refine rn_add (a := 1) (b := 0) hx hb dX8_areAlike_17 ?_
  refine rwV2 (rest := []) S (c_X8_of14 l E xo st sp th so sv pd nu sn ln ta sg g p 1 (by omega) (by omega)) cd_X8_of14 bw_827 ⟨Nat.le_of_ble_eq_true rfl, Nat.le_of_ble_eq_true rfl⟩ ⟨Nat.zero_le _, Nat.zero_le _⟩ hP (hDa.to rfl) hE hA hS [0, 1] rfl rfl [xo, st] rfl rfl (ci := 5) rfl (q0 := 0) rfl (Nat.le_of_ble_eq_true rfl) hl.1 dX8_areAlike_18 (fun H locs hP _ hS => ?_)
  have hP : va_P E.1 vwCl [(xo, .inr (5, [.ref st, .ref sp, .ref th, .int (nI sn), .ref so, .ref sv, .ref pd, .int (nI ln), .int (nI ta), .int sg, .ref nu])), (st, .inl (E.2.1, 293, .inl g))] H := hP
  refine lv_aload_n hx hb dX8_areAlike_21 rfl (lv_at hl 2 rfl) ?_
  refine lv_iload_n hx hb dX8_areAlike_22 rfl (lv_at hl 3 rfl) ?_
  refine lv_iconst (v := nI 1) hx hb dX8_areAlike_23 (by decide) ?_
  refine rn_add (a := p) (b := 1) hx hb dX8_areAlike_24 ?_
  refine lv_iconst (v := nI 1) hx hb dX8_areAlike_25 (by decide) ?_
  refine lv_iload_n hx hb dX8_areAlike_26 rfl (lv_at hl 0 rfl) ?_
  refine rn_add (a := 1) (b := 0) hx hb dX8_areAlike_27 ?_
  refine rwV2 (rest := [.int (g (13 + 14 * p + 1))]) S (c_X8_of14 l E xo st sp th so sv pd nu sn ln ta sg g (p + 1) 1 (by omega) (by omega)) cd_X8_of14 bw_827 ⟨Nat.le_of_ble_eq_true rfl, Nat.le_of_ble_eq_true rfl⟩ ⟨Nat.zero_le _, Nat.zero_le _⟩ hP (hDa.to rfl) hE hA hS [0, 1] rfl rfl [xo, st] rfl rfl (ci := 5) rfl (q0 := 0) rfl (Nat.le_of_ble_eq_true rfl) hl.1 dX8_areAlike_28 (fun H locs hP _ hS => ?_)
  have hP : va_P E.1 vwCl [(xo, .inr (5, [.ref st, .ref sp, .ref th, .int (nI sn), .ref so, .ref sv, .ref pd, .int (nI ln), .int (nI ta), .int sg, .ref nu])), (st, .inl (E.2.1, 293, .inl g))] H := hP
  refine lv_icmp_ne (tgt := 38) hx hb dX8_areAlike_31 (by decide) (fun c_2 => ?_) (fun c_2 => ?_)
  · refine lv_iconst (v := nI 0) hx hb dX8_areAlike_38 (by decide) ?_
    refine lv_istore_n (lv' := [(2, .int (nI 0)), (3, .int (nI 0)), (0, .ref xo), (1, .int (nI p))]) hx hb dX8_areAlike_39 rfl hl (by decide) rfl (fun ls hl => ?_)
    refine rn_inc (a := 0) (d := 1) (lv' := [(3, .int (nI 1)), (2, .int (nI 0)), (0, .ref xo), (1, .int (nI p))]) hx hb dX8_areAlike_40 hl (k := 1) rfl (by decide) (by decide) rfl (fun ls hl => ?_)
    refine lv_goto (tgt := 4) hx hb dX8_areAlike_43 (by decide) ?_
    refine lv_iload_n hx hb dX8_areAlike_4 rfl (lv_at hl 0 rfl) ?_
    refine lv_iconst (v := nI 3) hx hb dX8_areAlike_5 (by decide) ?_
    refine rn_icmp_ge (a := 1) (b := 3) (tgt := 46) hx hb (by omega) (by omega) dX8_areAlike_6 (by decide) (fun c_3 => absurd c_3 (by omega)) (fun c_3 => ?_)
    refine lv_iload_n hx hb dX8_areAlike_9 rfl (lv_at hl 1 rfl) ?_
    refine lv_if_eq (tgt := 38) hx hb dX8_areAlike_10 (by decide) (fun _ => ?_) (fun c9 => by first | exact absurd (by decide) c9 | exact absurd c9 (by decide))
    refine lv_iconst (v := nI 0) hx hb dX8_areAlike_38 (by decide) ?_
    refine lv_istore_n (lv' := [(2, .int (nI 0)), (3, .int (nI 1)), (0, .ref xo), (1, .int (nI p))]) hx hb dX8_areAlike_39 rfl hl (by decide) rfl (fun ls hl => ?_)
    refine rn_inc (a := 1) (d := 1) (lv' := [(3, .int (nI 2)), (2, .int (nI 0)), (0, .ref xo), (1, .int (nI p))]) hx hb dX8_areAlike_40 hl (k := 1) rfl (by decide) (by decide) rfl (fun ls hl => ?_)
    refine lv_goto (tgt := 4) hx hb dX8_areAlike_43 (by decide) ?_
    refine lv_iload_n hx hb dX8_areAlike_4 rfl (lv_at hl 0 rfl) ?_
    refine lv_iconst (v := nI 3) hx hb dX8_areAlike_5 (by decide) ?_
    refine rn_icmp_ge (a := 2) (b := 3) (tgt := 46) hx hb (by omega) (by omega) dX8_areAlike_6 (by decide) (fun c_4 => absurd c_4 (by omega)) (fun c_4 => ?_)
    refine lv_iload_n hx hb dX8_areAlike_9 rfl (lv_at hl 1 rfl) ?_
    refine lv_if_eq (tgt := 38) hx hb dX8_areAlike_10 (by decide) (fun _ => ?_) (fun c9 => by first | exact absurd (by decide) c9 | exact absurd c9 (by decide))
    refine lv_iconst (v := nI 0) hx hb dX8_areAlike_38 (by decide) ?_
    refine lv_istore_n (lv' := [(2, .int (nI 0)), (3, .int (nI 2)), (0, .ref xo), (1, .int (nI p))]) hx hb dX8_areAlike_39 rfl hl (by decide) rfl (fun ls hl => ?_)
    refine rn_inc (a := 2) (d := 1) (lv' := [(3, .int (nI 3)), (2, .int (nI 0)), (0, .ref xo), (1, .int (nI p))]) hx hb dX8_areAlike_40 hl (k := 1) rfl (by decide) (by decide) rfl (fun ls hl => ?_)
    refine lv_goto (tgt := 4) hx hb dX8_areAlike_43 (by decide) ?_
    refine lv_iload_n hx hb dX8_areAlike_4 rfl (lv_at hl 0 rfl) ?_
    refine lv_iconst (v := nI 3) hx hb dX8_areAlike_5 (by decide) ?_
    refine rn_icmp_ge (a := 3) (b := 3) (tgt := 46) hx hb (by omega) (by omega) dX8_areAlike_6 (by decide) (fun c_5 => ?_) (fun c_5 => absurd c_5 (by omega))
    refine lv_iload_n hx hb dX8_areAlike_46 rfl (lv_at hl 1 rfl) ?_
    exact hret _ _ _ _ _ _ (by rw [mAl, if_neg c_2]) rfl (by decide) hP hS dX8_areAlike_47
  · refine lv_iconst (v := nI 1) hx hb dX8_areAlike_34 (by decide) ?_
    refine lv_goto (tgt := 39) hx hb dX8_areAlike_35 (by decide) ?_
    refine lv_istore_n (lv' := [(2, .int (nI 1)), (3, .int (nI 0)), (0, .ref xo), (1, .int (nI p))]) hx hb dX8_areAlike_39 rfl hl (by decide) rfl (fun ls hl => ?_)
    refine rn_inc (a := 0) (d := 1) (lv' := [(3, .int (nI 1)), (2, .int (nI 1)), (0, .ref xo), (1, .int (nI p))]) hx hb dX8_areAlike_40 hl (k := 1) rfl (by decide) (by decide) rfl (fun ls hl => ?_)
    refine lv_goto (tgt := 4) hx hb dX8_areAlike_43 (by decide) ?_
    refine lv_iload_n hx hb dX8_areAlike_4 rfl (lv_at hl 0 rfl) ?_
    refine lv_iconst (v := nI 3) hx hb dX8_areAlike_5 (by decide) ?_
    refine rn_icmp_ge (a := 1) (b := 3) (tgt := 46) hx hb (by omega) (by omega) dX8_areAlike_6 (by decide) (fun c_6 => absurd c_6 (by omega)) (fun c_6 => ?_)
    refine lv_iload_n hx hb dX8_areAlike_9 rfl (lv_at hl 1 rfl) ?_
    refine lv_if_eq (tgt := 38) hx hb dX8_areAlike_10 (by decide) (fun c9 => by first | exact absurd c9 (by decide) | exact absurd (by decide) c9) (fun _ => ?_)
    refine lv_aload_n hx hb dX8_areAlike_13 rfl (lv_at hl 2 rfl) ?_
    refine lv_iload_n hx hb dX8_areAlike_14 rfl (lv_at hl 3 rfl) ?_
    refine lv_iconst (v := nI 1) hx hb dX8_areAlike_15 (by decide) ?_
    refine lv_iload_n hx hb dX8_areAlike_16 rfl (lv_at hl 0 rfl) ?_
    refine rn_add (a := 1) (b := 1) hx hb dX8_areAlike_17 ?_
    refine rwV2 (rest := []) S (c_X8_of14 l E xo st sp th so sv pd nu sn ln ta sg g p 2 (by omega) (by omega)) cd_X8_of14 bw_827 ⟨Nat.le_of_ble_eq_true rfl, Nat.le_of_ble_eq_true rfl⟩ ⟨Nat.zero_le _, Nat.zero_le _⟩ hP (hDa.to rfl) hE hA hS [0, 1] rfl rfl [xo, st] rfl rfl (ci := 5) rfl (q0 := 0) rfl (Nat.le_of_ble_eq_true rfl) hl.1 dX8_areAlike_18 (fun H locs hP _ hS => ?_)
    have hP : va_P E.1 vwCl [(xo, .inr (5, [.ref st, .ref sp, .ref th, .int (nI sn), .ref so, .ref sv, .ref pd, .int (nI ln), .int (nI ta), .int sg, .ref nu])), (st, .inl (E.2.1, 293, .inl g))] H := hP
    refine lv_aload_n hx hb dX8_areAlike_21 rfl (lv_at hl 2 rfl) ?_
    refine lv_iload_n hx hb dX8_areAlike_22 rfl (lv_at hl 3 rfl) ?_
    refine lv_iconst (v := nI 1) hx hb dX8_areAlike_23 (by decide) ?_
    refine rn_add (a := p) (b := 1) hx hb dX8_areAlike_24 ?_
    refine lv_iconst (v := nI 1) hx hb dX8_areAlike_25 (by decide) ?_
    refine lv_iload_n hx hb dX8_areAlike_26 rfl (lv_at hl 0 rfl) ?_
    refine rn_add (a := 1) (b := 1) hx hb dX8_areAlike_27 ?_
    refine rwV2 (rest := [.int (g (13 + 14 * p + 2))]) S (c_X8_of14 l E xo st sp th so sv pd nu sn ln ta sg g (p + 1) 2 (by omega) (by omega)) cd_X8_of14 bw_827 ⟨Nat.le_of_ble_eq_true rfl, Nat.le_of_ble_eq_true rfl⟩ ⟨Nat.zero_le _, Nat.zero_le _⟩ hP (hDa.to rfl) hE hA hS [0, 1] rfl rfl [xo, st] rfl rfl (ci := 5) rfl (q0 := 0) rfl (Nat.le_of_ble_eq_true rfl) hl.1 dX8_areAlike_28 (fun H locs hP _ hS => ?_)
    have hP : va_P E.1 vwCl [(xo, .inr (5, [.ref st, .ref sp, .ref th, .int (nI sn), .ref so, .ref sv, .ref pd, .int (nI ln), .int (nI ta), .int sg, .ref nu])), (st, .inl (E.2.1, 293, .inl g))] H := hP
    refine lv_icmp_ne (tgt := 38) hx hb dX8_areAlike_31 (by decide) (fun c_7 => ?_) (fun c_7 => ?_)
    · refine lv_iconst (v := nI 0) hx hb dX8_areAlike_38 (by decide) ?_
      refine lv_istore_n (lv' := [(2, .int (nI 0)), (3, .int (nI 1)), (0, .ref xo), (1, .int (nI p))]) hx hb dX8_areAlike_39 rfl hl (by decide) rfl (fun ls hl => ?_)
      refine rn_inc (a := 1) (d := 1) (lv' := [(3, .int (nI 2)), (2, .int (nI 0)), (0, .ref xo), (1, .int (nI p))]) hx hb dX8_areAlike_40 hl (k := 1) rfl (by decide) (by decide) rfl (fun ls hl => ?_)
      refine lv_goto (tgt := 4) hx hb dX8_areAlike_43 (by decide) ?_
      refine lv_iload_n hx hb dX8_areAlike_4 rfl (lv_at hl 0 rfl) ?_
      refine lv_iconst (v := nI 3) hx hb dX8_areAlike_5 (by decide) ?_
      refine rn_icmp_ge (a := 2) (b := 3) (tgt := 46) hx hb (by omega) (by omega) dX8_areAlike_6 (by decide) (fun c_8 => absurd c_8 (by omega)) (fun c_8 => ?_)
      refine lv_iload_n hx hb dX8_areAlike_9 rfl (lv_at hl 1 rfl) ?_
      refine lv_if_eq (tgt := 38) hx hb dX8_areAlike_10 (by decide) (fun _ => ?_) (fun c9 => by first | exact absurd (by decide) c9 | exact absurd c9 (by decide))
      refine lv_iconst (v := nI 0) hx hb dX8_areAlike_38 (by decide) ?_
      refine lv_istore_n (lv' := [(2, .int (nI 0)), (3, .int (nI 2)), (0, .ref xo), (1, .int (nI p))]) hx hb dX8_areAlike_39 rfl hl (by decide) rfl (fun ls hl => ?_)
      refine rn_inc (a := 2) (d := 1) (lv' := [(3, .int (nI 3)), (2, .int (nI 0)), (0, .ref xo), (1, .int (nI p))]) hx hb dX8_areAlike_40 hl (k := 1) rfl (by decide) (by decide) rfl (fun ls hl => ?_)
      refine lv_goto (tgt := 4) hx hb dX8_areAlike_43 (by decide) ?_
      refine lv_iload_n hx hb dX8_areAlike_4 rfl (lv_at hl 0 rfl) ?_
      refine lv_iconst (v := nI 3) hx hb dX8_areAlike_5 (by decide) ?_
      refine rn_icmp_ge (a := 3) (b := 3) (tgt := 46) hx hb (by omega) (by omega) dX8_areAlike_6 (by decide) (fun c_9 => ?_) (fun c_9 => absurd c_9 (by omega))
      refine lv_iload_n hx hb dX8_areAlike_46 rfl (lv_at hl 1 rfl) ?_
      exact hret _ _ _ _ _ _ (by rw [mAl, if_pos c_2, if_neg c_7]) rfl (by decide) hP hS dX8_areAlike_47
    · refine lv_iconst (v := nI 1) hx hb dX8_areAlike_34 (by decide) ?_
      refine lv_goto (tgt := 39) hx hb dX8_areAlike_35 (by decide) ?_
      refine lv_istore_n (lv' := [(2, .int (nI 1)), (3, .int (nI 1)), (0, .ref xo), (1, .int (nI p))]) hx hb dX8_areAlike_39 rfl hl (by decide) rfl (fun ls hl => ?_)
      refine rn_inc (a := 1) (d := 1) (lv' := [(3, .int (nI 2)), (2, .int (nI 1)), (0, .ref xo), (1, .int (nI p))]) hx hb dX8_areAlike_40 hl (k := 1) rfl (by decide) (by decide) rfl (fun ls hl => ?_)
      refine lv_goto (tgt := 4) hx hb dX8_areAlike_43 (by decide) ?_
      refine lv_iload_n hx hb dX8_areAlike_4 rfl (lv_at hl 0 rfl) ?_
      refine lv_iconst (v := nI 3) hx hb dX8_areAlike_5 (by decide) ?_
      refine rn_icmp_ge (a := 2) (b := 3) (tgt := 46) hx hb (by omega) (by omega) dX8_areAlike_6 (by decide) (fun c_10 => absurd c_10 (by omega)) (fun c_10 => ?_)
      refine lv_iload_n hx hb dX8_areAlike_9 rfl (lv_at hl 1 rfl) ?_
      refine lv_if_eq (tgt := 38) hx hb dX8_areAlike_10 (by decide) (fun c9 => by first | exact absurd c9 (by decide) | exact absurd (by decide) c9) (fun _ => ?_)
      refine lv_aload_n hx hb dX8_areAlike_13 rfl (lv_at hl 2 rfl) ?_
      refine lv_iload_n hx hb dX8_areAlike_14 rfl (lv_at hl 3 rfl) ?_
      refine lv_iconst (v := nI 1) hx hb dX8_areAlike_15 (by decide) ?_
      refine lv_iload_n hx hb dX8_areAlike_16 rfl (lv_at hl 0 rfl) ?_
      refine rn_add (a := 1) (b := 2) hx hb dX8_areAlike_17 ?_
      refine rwV2 (rest := []) S (c_X8_of14 l E xo st sp th so sv pd nu sn ln ta sg g p 3 (by omega) (by omega)) cd_X8_of14 bw_827 ⟨Nat.le_of_ble_eq_true rfl, Nat.le_of_ble_eq_true rfl⟩ ⟨Nat.zero_le _, Nat.zero_le _⟩ hP (hDa.to rfl) hE hA hS [0, 1] rfl rfl [xo, st] rfl rfl (ci := 5) rfl (q0 := 0) rfl (Nat.le_of_ble_eq_true rfl) hl.1 dX8_areAlike_18 (fun H locs hP _ hS => ?_)
      have hP : va_P E.1 vwCl [(xo, .inr (5, [.ref st, .ref sp, .ref th, .int (nI sn), .ref so, .ref sv, .ref pd, .int (nI ln), .int (nI ta), .int sg, .ref nu])), (st, .inl (E.2.1, 293, .inl g))] H := hP
      refine lv_aload_n hx hb dX8_areAlike_21 rfl (lv_at hl 2 rfl) ?_
      refine lv_iload_n hx hb dX8_areAlike_22 rfl (lv_at hl 3 rfl) ?_
      refine lv_iconst (v := nI 1) hx hb dX8_areAlike_23 (by decide) ?_
      refine rn_add (a := p) (b := 1) hx hb dX8_areAlike_24 ?_
      refine lv_iconst (v := nI 1) hx hb dX8_areAlike_25 (by decide) ?_
      refine lv_iload_n hx hb dX8_areAlike_26 rfl (lv_at hl 0 rfl) ?_
      refine rn_add (a := 1) (b := 2) hx hb dX8_areAlike_27 ?_
      refine rwV2 (rest := [.int (g (13 + 14 * p + 3))]) S (c_X8_of14 l E xo st sp th so sv pd nu sn ln ta sg g (p + 1) 3 (by omega) (by omega)) cd_X8_of14 bw_827 ⟨Nat.le_of_ble_eq_true rfl, Nat.le_of_ble_eq_true rfl⟩ ⟨Nat.zero_le _, Nat.zero_le _⟩ hP (hDa.to rfl) hE hA hS [0, 1] rfl rfl [xo, st] rfl rfl (ci := 5) rfl (q0 := 0) rfl (Nat.le_of_ble_eq_true rfl) hl.1 dX8_areAlike_28 (fun H locs hP _ hS => ?_)
      have hP : va_P E.1 vwCl [(xo, .inr (5, [.ref st, .ref sp, .ref th, .int (nI sn), .ref so, .ref sv, .ref pd, .int (nI ln), .int (nI ta), .int sg, .ref nu])), (st, .inl (E.2.1, 293, .inl g))] H := hP
      refine lv_icmp_ne (tgt := 38) hx hb dX8_areAlike_31 (by decide) (fun c_11 => ?_) (fun c_11 => ?_)
      · refine lv_iconst (v := nI 0) hx hb dX8_areAlike_38 (by decide) ?_
        refine lv_istore_n (lv' := [(2, .int (nI 0)), (3, .int (nI 2)), (0, .ref xo), (1, .int (nI p))]) hx hb dX8_areAlike_39 rfl hl (by decide) rfl (fun ls hl => ?_)
        refine rn_inc (a := 2) (d := 1) (lv' := [(3, .int (nI 3)), (2, .int (nI 0)), (0, .ref xo), (1, .int (nI p))]) hx hb dX8_areAlike_40 hl (k := 1) rfl (by decide) (by decide) rfl (fun ls hl => ?_)
        refine lv_goto (tgt := 4) hx hb dX8_areAlike_43 (by decide) ?_
        refine lv_iload_n hx hb dX8_areAlike_4 rfl (lv_at hl 0 rfl) ?_
        refine lv_iconst (v := nI 3) hx hb dX8_areAlike_5 (by decide) ?_
        refine rn_icmp_ge (a := 3) (b := 3) (tgt := 46) hx hb (by omega) (by omega) dX8_areAlike_6 (by decide) (fun c_12 => ?_) (fun c_12 => absurd c_12 (by omega))
        refine lv_iload_n hx hb dX8_areAlike_46 rfl (lv_at hl 1 rfl) ?_
        exact hret _ _ _ _ _ _ (by rw [mAl, if_pos c_2, if_pos c_7, if_neg c_11]) rfl (by decide) hP hS dX8_areAlike_47
      · refine lv_iconst (v := nI 1) hx hb dX8_areAlike_34 (by decide) ?_
        refine lv_goto (tgt := 39) hx hb dX8_areAlike_35 (by decide) ?_
        refine lv_istore_n (lv' := [(2, .int (nI 1)), (3, .int (nI 2)), (0, .ref xo), (1, .int (nI p))]) hx hb dX8_areAlike_39 rfl hl (by decide) rfl (fun ls hl => ?_)
        refine rn_inc (a := 2) (d := 1) (lv' := [(3, .int (nI 3)), (2, .int (nI 1)), (0, .ref xo), (1, .int (nI p))]) hx hb dX8_areAlike_40 hl (k := 1) rfl (by decide) (by decide) rfl (fun ls hl => ?_)
        refine lv_goto (tgt := 4) hx hb dX8_areAlike_43 (by decide) ?_
        refine lv_iload_n hx hb dX8_areAlike_4 rfl (lv_at hl 0 rfl) ?_
        refine lv_iconst (v := nI 3) hx hb dX8_areAlike_5 (by decide) ?_
        refine rn_icmp_ge (a := 3) (b := 3) (tgt := 46) hx hb (by omega) (by omega) dX8_areAlike_6 (by decide) (fun c_13 => ?_) (fun c_13 => absurd c_13 (by omega))
        refine lv_iload_n hx hb dX8_areAlike_46 rfl (lv_at hl 1 rfl) ?_
        exact hret _ _ _ _ _ _ (by rw [mAl, if_pos c_2, if_pos c_7, if_pos c_11]) rfl (by decide) hP hS dX8_areAlike_47

theorem cd_X8_joins : cdV RX8 yX8_joins cX8_joins 3 (some .int) 1 := ⟨⟨bw_869, bw_65, by decide, by decide, by decide +kernel⟩, bw_868, bw_24⟩
def mJv (g : Nat → Int32) (n : Nat) (x : Int32) : Int32 := if mIs g x = 0 then (-1) else if mIs g (nI ((ix x) + 1)) = 0 then (-1) else if nI 99 < g (13 + 14 * (ix x) + 0) + (g (13 + 14 * ((ix x) + 1) + 0)) then (-5) else if mAl g (ix x) = 0 then (-5) else g (13 + 14 * (ix x) + 0) + (g (13 + 14 * ((ix x) + 1) + 0))
def mJw (g : Nat → Int32) (n : Nat) (x : Int32) : Nat → Int32 := if mIs g x = 0 then g else if mIs g (nI ((ix x) + 1)) = 0 then g else if nI 99 < g (13 + 14 * (ix x) + 0) + (g (13 + 14 * ((ix x) + 1) + 0)) then g else if mAl g (ix x) = 0 then g else mTa (upd (clM g n ((ix x) + 1)) (13 + 14 * (ix x) + 0) (g (13 + 14 * (ix x) + 0) + (g (13 + 14 * ((ix x) + 1) + 0)))) (ix x)
set_option maxHeartbeats 4000000 in
set_option maxRecDepth 100000 in
theorem c_X8_joins (l : Launch) (E : EV) (xo : Nat) (st : Nat) (sp : Nat) (th : Nat) (so : Nat) (sv : Nat) (pd : Nat) (nu : Nat) (sn : Nat) (ln : Nat) (ta : Nat) (sg : Int32) (g : Nat → Int32) (n : Nat) (x : Int32) (hf : g 4 = nI n) (hn : n ≤ 20) : rcI l E yX8_joins cX8_joins 3 .int 2 [.ref xo, .int x] [(xo, .inr (5, [.ref st, .ref sp, .ref th, .int (nI sn), .ref so, .ref sv, .ref pd, .int (nI ln), .int (nI ta), .int sg, .ref nu])), (st, .inl (E.2.1, 293, .inl g))] (mJv g n x) [(xo, .inr (5, [.ref st, .ref sp, .ref th, .int (nI sn), .ref so, .ref sv, .ref pd, .int (nI ln), .int (nI ta), .int sg, .ref nu])), (st, .inl (E.2.1, 293, .inl (mJw g n x)))] := by
  refine rcI_of (by decide) (Nat.le_of_ble_eq_true rfl) ?_
  intro pg e s m below meth c Q A ls S hP hD0 hE hA hl hret
  have hx := S.1
  have hb := S.2.1
  have hown := S.2.2.2.1
  have hts := S.2.2.2.2
  have hK := hE.1
  have hS : va_S A s.heap s.heap [] := va_S.rf
  have hDa : va_Da A [xo, st] := ⟨_, hD0, rfl⟩
  have hl : lv_has ls 3 [(0, .ref xo), (1, .int x)] := hl
  refine lv_aload_n hx hb dX8_joins_0 rfl (lv_at hl 0 rfl) ?_
  refine lv_iload_n hx hb dX8_joins_1 rfl (lv_at hl 1 rfl) ?_
  refine rwV1 (rest := []) S (c_X8_isShot l E xo st sp th so sv pd nu sn ln ta sg g x) cd_X8_isShot bw_808 ⟨Nat.le_of_ble_eq_true rfl, Nat.le_of_ble_eq_true rfl⟩ ⟨Nat.zero_le _, Nat.zero_le _⟩ hP (hDa.to rfl) hE hA hS [0, 1] rfl rfl [xo, st] rfl rfl (ci := 5) rfl (q0 := 0) rfl (Nat.le_of_ble_eq_true rfl) hl.1 dX8_joins_2 (fun H locs hP _ hS => ?_)
  have hP : va_P E.1 vwCl [(xo, .inr (5, [.ref st, .ref sp, .ref th, .int (nI sn), .ref so, .ref sv, .ref pd, .int (nI ln), .int (nI ta), .int sg, .ref nu])), (st, .inl (E.2.1, 293, .inl g))] H := hP
  refine lv_if_eq (tgt := 18) hx hb dX8_joins_5 (by decide) (fun c_1 => ?_) (fun c_1 => ?_)
  · refine lv_iconst (v := (-1)) hx hb dX8_joins_18 (by decide) ?_
    exact hret _ _ _ _ _ _ (by rw [mJv, if_pos c_1]) (by rw [mJw, if_pos c_1]) rfl hP hS dX8_joins_19
  · obtain ⟨p, h9_p, rfl⟩ : ∃ p : Nat, p < n ∧ x = nI p := (mIs_of hf hn c_1)
    refine lv_aload_n hx hb dX8_joins_8 rfl (lv_at hl 0 rfl) ?_
    refine lv_iload_n hx hb dX8_joins_9 rfl (lv_at hl 1 rfl) ?_
    refine lv_iconst (v := nI 1) hx hb dX8_joins_10 (by decide) ?_
    refine rn_add (a := p) (b := 1) hx hb dX8_joins_11 ?_
    refine rwV1 (rest := []) S (c_X8_isShot l E xo st sp th so sv pd nu sn ln ta sg g (nI (p + 1))) cd_X8_isShot bw_808 ⟨Nat.le_of_ble_eq_true rfl, Nat.le_of_ble_eq_true rfl⟩ ⟨Nat.zero_le _, Nat.zero_le _⟩ hP (hDa.to rfl) hE hA hS [0, 1] rfl rfl [xo, st] rfl rfl (ci := 5) rfl (q0 := 0) rfl (Nat.le_of_ble_eq_true rfl) hl.1 dX8_joins_12 (fun H locs hP _ hS => ?_)
    have hP : va_P E.1 vwCl [(xo, .inr (5, [.ref st, .ref sp, .ref th, .int (nI sn), .ref so, .ref sv, .ref pd, .int (nI ln), .int (nI ta), .int sg, .ref nu])), (st, .inl (E.2.1, 293, .inl g))] H := hP
    refine lv_if_ne (tgt := 20) hx hb dX8_joins_15 (by decide) (fun c_2 => ?_) (fun c_2 => ?_)
    · have hpn : p + 1 < n := hasS_lt (by omega) (by omega) (by rw [← mIs_eq hf hn]; exact c_2)
      refine lv_aload_n hx hb dX8_joins_20 rfl (lv_at hl 0 rfl) ?_
      refine lv_iload_n hx hb dX8_joins_21 rfl (lv_at hl 1 rfl) ?_
      refine lv_iconst (v := nI 0) hx hb dX8_joins_22 (by decide) ?_
      refine rwV2 (rest := []) S (c_X8_of14 l E xo st sp th so sv pd nu sn ln ta sg g p 0 (by omega) (by omega)) cd_X8_of14 bw_827 ⟨Nat.le_of_ble_eq_true rfl, Nat.le_of_ble_eq_true rfl⟩ ⟨Nat.zero_le _, Nat.zero_le _⟩ hP (hDa.to rfl) hE hA hS [0, 1] rfl rfl [xo, st] rfl rfl (ci := 5) rfl (q0 := 0) rfl (Nat.le_of_ble_eq_true rfl) hl.1 dX8_joins_23 (fun H locs hP _ hS => ?_)
      have hP : va_P E.1 vwCl [(xo, .inr (5, [.ref st, .ref sp, .ref th, .int (nI sn), .ref so, .ref sv, .ref pd, .int (nI ln), .int (nI ta), .int sg, .ref nu])), (st, .inl (E.2.1, 293, .inl g))] H := hP
      refine lv_aload_n hx hb dX8_joins_26 rfl (lv_at hl 0 rfl) ?_
      refine lv_iload_n hx hb dX8_joins_27 rfl (lv_at hl 1 rfl) ?_
      refine lv_iconst (v := nI 1) hx hb dX8_joins_28 (by decide) ?_
      refine rn_add (a := p) (b := 1) hx hb dX8_joins_29 ?_
      refine lv_iconst (v := nI 0) hx hb dX8_joins_30 (by decide) ?_
      refine rwV2 (rest := [.int (g (13 + 14 * p + 0))]) S (c_X8_of14 l E xo st sp th so sv pd nu sn ln ta sg g (p + 1) 0 (by omega) (by omega)) cd_X8_of14 bw_827 ⟨Nat.le_of_ble_eq_true rfl, Nat.le_of_ble_eq_true rfl⟩ ⟨Nat.zero_le _, Nat.zero_le _⟩ hP (hDa.to rfl) hE hA hS [0, 1] rfl rfl [xo, st] rfl rfl (ci := 5) rfl (q0 := 0) rfl (Nat.le_of_ble_eq_true rfl) hl.1 dX8_joins_31 (fun H locs hP _ hS => ?_)
      have hP : va_P E.1 vwCl [(xo, .inr (5, [.ref st, .ref sp, .ref th, .int (nI sn), .ref so, .ref sv, .ref pd, .int (nI ln), .int (nI ta), .int sg, .ref nu])), (st, .inl (E.2.1, 293, .inl g))] H := hP
      refine lv_iadd hx hb dX8_joins_34 ?_
      refine lv_istore_n (lv' := [(2, .int (g (13 + 14 * p + 0) + (g (13 + 14 * (p + 1) + 0)))), (0, .ref xo), (1, .int (nI p))]) hx hb dX8_joins_35 rfl hl (by decide) rfl (fun ls hl => ?_)
      refine lv_iload_n hx hb dX8_joins_36 rfl (lv_at hl 0 rfl) ?_
      refine lv_bipush (v := nI 99) hx hb dX8_joins_37 (by decide) ?_
      refine lv_icmp_gt (tgt := 50) hx hb dX8_joins_39 (by decide) (fun c_3 => ?_) (fun c_3 => ?_)
      · refine lv_bipush (v := (-5)) hx hb dX8_joins_50 (by decide) ?_
        exact hret _ _ _ _ _ _ (by first | rw [mJv, ix_nI (show p < 2 ^ 31 by omega), if_neg c_1, if_neg c_2, if_pos c_3] | rw [mJv, if_neg c_1, if_neg c_2, if_pos c_3] | simp only [mJv, ix_nI (show p < 2 ^ 31 by omega), if_neg c_1, if_neg c_2, if_pos c_3]) (by first | rw [mJw, ix_nI (show p < 2 ^ 31 by omega), if_neg c_1, if_neg c_2, if_pos c_3] | rw [mJw, if_neg c_1, if_neg c_2, if_pos c_3] | simp only [mJw, ix_nI (show p < 2 ^ 31 by omega), if_neg c_1, if_neg c_2, if_pos c_3]) rfl hP hS dX8_joins_52
      · refine lv_aload_n hx hb dX8_joins_42 rfl (lv_at hl 1 rfl) ?_
        refine lv_iload_n hx hb dX8_joins_43 rfl (lv_at hl 2 rfl) ?_
        refine rwV1 (rest := []) S (c_X8_areAlike l E xo st sp th so sv pd nu sn ln ta sg g p (by omega)) cd_X8_areAlike bw_870 ⟨Nat.le_of_ble_eq_true rfl, Nat.le_of_ble_eq_true rfl⟩ ⟨Nat.zero_le _, Nat.zero_le _⟩ hP (hDa.to rfl) hE hA hS [0, 1] rfl rfl [xo, st] rfl rfl (ci := 5) rfl (q0 := 0) rfl (Nat.le_of_ble_eq_true rfl) hl.1 dX8_joins_44 (fun H locs hP _ hS => ?_)
        have hP : va_P E.1 vwCl [(xo, .inr (5, [.ref st, .ref sp, .ref th, .int (nI sn), .ref so, .ref sv, .ref pd, .int (nI ln), .int (nI ta), .int sg, .ref nu])), (st, .inl (E.2.1, 293, .inl g))] H := hP
        refine lv_if_ne (tgt := 53) hx hb dX8_joins_47 (by decide) (fun c_4 => ?_) (fun c_4 => ?_)
        · refine lv_aload_n hx hb dX8_joins_53 rfl (lv_at hl 1 rfl) ?_
          refine lv_iload_n hx hb dX8_joins_54 rfl (lv_at hl 2 rfl) ?_
          refine lv_iconst (v := nI 1) hx hb dX8_joins_55 (by decide) ?_
          refine rn_add (a := p) (b := 1) hx hb dX8_joins_56 ?_
          refine rwVv1 (rest := []) S (c_X8_shut l E xo st sp th so sv pd nu sn ln ta sg g n (p + 1) hf hn (by omega)) cd_X8_shut bw_812 ⟨Nat.le_of_ble_eq_true rfl, Nat.le_of_ble_eq_true rfl⟩ ⟨Nat.zero_le _, Nat.zero_le _⟩ hP (hDa.to rfl) hE hA hS [0, 1] rfl rfl [xo, st] rfl rfl (ci := 5) rfl (q0 := 0) rfl (Nat.le_of_ble_eq_true rfl) hl.1 dX8_joins_57 (fun H locs hP _ hS => ?_)
          have hP : va_P E.1 vwCl [(xo, .inr (5, [.ref st, .ref sp, .ref th, .int (nI sn), .ref so, .ref sv, .ref pd, .int (nI ln), .int (nI ta), .int sg, .ref nu])), (st, .inl (E.2.1, 293, .inl (clM g n (p + 1))))] H := hP
          refine lv_aload_n hx hb dX8_joins_60 rfl (lv_at hl 1 rfl) ?_
          refine lv_iload_n hx hb dX8_joins_61 rfl (lv_at hl 2 rfl) ?_
          refine lv_iconst (v := nI 0) hx hb dX8_joins_62 (by decide) ?_
          refine lv_iload_n hx hb dX8_joins_63 rfl (lv_at hl 0 rfl) ?_
          refine rwVv3 (rest := []) S (c_X8_setOf l E xo st sp th so sv pd nu sn ln ta sg (clM g n (p + 1)) p 0 (g (13 + 14 * p + 0) + (g (13 + 14 * (p + 1) + 0))) (by omega) (by omega)) cd_X8_setOf bw_796 ⟨Nat.le_of_ble_eq_true rfl, Nat.le_of_ble_eq_true rfl⟩ ⟨Nat.zero_le _, Nat.zero_le _⟩ hP (hDa.to rfl) hE hA hS [0, 1] rfl rfl [xo, st] rfl rfl (ci := 5) rfl (q0 := 0) rfl (Nat.le_of_ble_eq_true rfl) hl.1 dX8_joins_64 (fun H locs hP _ hS => ?_)
          have hP : va_P E.1 vwCl [(xo, .inr (5, [.ref st, .ref sp, .ref th, .int (nI sn), .ref so, .ref sv, .ref pd, .int (nI ln), .int (nI ta), .int sg, .ref nu])), (st, .inl (E.2.1, 293, .inl (upd (clM g n (p + 1)) (13 + 14 * p + 0) (g (13 + 14 * p + 0) + (g (13 + 14 * (p + 1) + 0))))))] H := hP
          refine lv_aload_n hx hb dX8_joins_67 rfl (lv_at hl 1 rfl) ?_
          refine lv_iload_n hx hb dX8_joins_68 rfl (lv_at hl 2 rfl) ?_
          refine rwVv1 (rest := []) S (c_X8_takeAnswer l E xo st sp th so sv pd nu sn ln ta sg (upd (clM g n (p + 1)) (13 + 14 * p + 0) (g (13 + 14 * p + 0) + (g (13 + 14 * (p + 1) + 0)))) p (by omega)) cd_X8_takeAnswer bw_800 ⟨Nat.le_of_ble_eq_true rfl, Nat.le_of_ble_eq_true rfl⟩ ⟨Nat.zero_le _, Nat.zero_le _⟩ hP (hDa.to rfl) hE hA hS [0, 1] rfl rfl [xo, st] rfl rfl (ci := 5) rfl (q0 := 0) rfl (Nat.le_of_ble_eq_true rfl) hl.1 dX8_joins_69 (fun H locs hP _ hS => ?_)
          have hP : va_P E.1 vwCl [(xo, .inr (5, [.ref st, .ref sp, .ref th, .int (nI sn), .ref so, .ref sv, .ref pd, .int (nI ln), .int (nI ta), .int sg, .ref nu])), (st, .inl (E.2.1, 293, .inl (mTa (upd (clM g n (p + 1)) (13 + 14 * p + 0) (g (13 + 14 * p + 0) + (g (13 + 14 * (p + 1) + 0)))) p)))] H := hP
          refine lv_iload_n hx hb dX8_joins_72 rfl (lv_at hl 0 rfl) ?_
          exact hret _ _ _ _ _ _ (by first | rw [mJv, ix_nI (show p < 2 ^ 31 by omega), if_neg c_1, if_neg c_2, if_neg c_3, if_neg c_4] | rw [mJv, if_neg c_1, if_neg c_2, if_neg c_3, if_neg c_4] | simp only [mJv, ix_nI (show p < 2 ^ 31 by omega), if_neg c_1, if_neg c_2, if_neg c_3, if_neg c_4]) (by first | rw [mJw, ix_nI (show p < 2 ^ 31 by omega), if_neg c_1, if_neg c_2, if_neg c_3, if_neg c_4] | rw [mJw, if_neg c_1, if_neg c_2, if_neg c_3, if_neg c_4] | simp only [mJw, ix_nI (show p < 2 ^ 31 by omega), if_neg c_1, if_neg c_2, if_neg c_3, if_neg c_4]) rfl hP hS dX8_joins_73
        · refine lv_bipush (v := (-5)) hx hb dX8_joins_50 (by decide) ?_
          exact hret _ _ _ _ _ _ (by first | rw [mJv, ix_nI (show p < 2 ^ 31 by omega), if_neg c_1, if_neg c_2, if_neg c_3, if_pos c_4] | rw [mJv, if_neg c_1, if_neg c_2, if_neg c_3, if_pos c_4] | simp only [mJv, ix_nI (show p < 2 ^ 31 by omega), if_neg c_1, if_neg c_2, if_neg c_3, if_pos c_4]) (by first | rw [mJw, ix_nI (show p < 2 ^ 31 by omega), if_neg c_1, if_neg c_2, if_neg c_3, if_pos c_4] | rw [mJw, if_neg c_1, if_neg c_2, if_neg c_3, if_pos c_4] | simp only [mJw, ix_nI (show p < 2 ^ 31 by omega), if_neg c_1, if_neg c_2, if_neg c_3, if_pos c_4]) rfl hP hS dX8_joins_52
    · refine lv_iconst (v := (-1)) hx hb dX8_joins_18 (by decide) ?_
      exact hret _ _ _ _ _ _ (by first | rw [mJv, ix_nI (show p < 2 ^ 31 by omega), if_neg c_1, if_pos c_2] | rw [mJv, if_neg c_1, if_pos c_2] | simp only [mJv, ix_nI (show p < 2 ^ 31 by omega), if_neg c_1, if_pos c_2]) (by first | rw [mJw, ix_nI (show p < 2 ^ 31 by omega), if_neg c_1, if_pos c_2] | rw [mJw, if_neg c_1, if_pos c_2] | simp only [mJw, ix_nI (show p < 2 ^ 31 by omega), if_neg c_1, if_pos c_2]) rfl hP hS dX8_joins_19

