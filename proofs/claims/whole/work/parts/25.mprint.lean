/-! the reference: prints, corrections, the card -/
def mSb (g : Nat → Int32) : Nat → Int32
  | 0 => nI 0
  | k + 1 => mSb g k ||| (if mBa g k = 0 then nI 0 else (nI 1 <<< (nI k &&& 31)))
theorem mSb_p {g : Nat → Int32} {k : Nat} (h : mBa g k = 0) : mSb g (k + 1) = mSb g k ||| nI 0 := by rw [mSb, if_pos h]
theorem mSb_n {g : Nat → Int32} {k : Nat} (h : ¬ mBa g k = 0) : mSb g (k + 1) = mSb g k ||| (nI 1 <<< (nI k &&& 31)) := by rw [mSb, if_neg h]
def mO1 (x : Int32) : Nat → Int32
  | 0 => nI 0
  | k + 1 => mO1 x k + ((x >>> (nI k &&& 31)) &&& nI 1)
theorem cd_X8_badOnes : cdV RX8 yX8_badOnes cX8_badOnes 3 (some .int) 0 := ⟨⟨bw_920, bw_65, by decide, by decide, by decide +kernel⟩, bw_919, bw_35⟩
set_option maxHeartbeats 4000000 in
set_option maxRecDepth 100000 in
theorem c_X8_badOnes (l : Launch) (E : EV) (xo : Nat) (st : Nat) (sp : Nat) (th : Nat) (so : Nat) (sv : Nat) (pd : Nat) (nu : Nat) (sn : Nat) (ln : Nat) (ta : Nat) (sg : Int32) (g : Nat → Int32) (n : Nat) (hf : g 4 = nI n) (hn : n ≤ 20) : rcI l E yX8_badOnes cX8_badOnes 3 .int 2 [.ref xo] [(xo, .inr (5, [.ref st, .ref sp, .ref th, .int (nI sn), .ref so, .ref sv, .ref pd, .int (nI ln), .int (nI ta), .int sg, .ref nu])), (st, .inl (E.2.1, 293, .inl g))] (mSb g n) [(xo, .inr (5, [.ref st, .ref sp, .ref th, .int (nI sn), .ref so, .ref sv, .ref pd, .int (nI ln), .int (nI ta), .int sg, .ref nu])), (st, .inl (E.2.1, 293, .inl g))] := by
  refine rcI_of (by decide) (Nat.le_of_ble_eq_true rfl) ?_
  intro pg e s m below meth c Q A ls S hP hD0 hE hA hl hret
  have hx := S.1
  have hb := S.2.1
  have hown := S.2.2.2.1
  have hts := S.2.2.2.2
  have hK := hE.1
  have hS : va_S A s.heap s.heap [] := va_S.rf
  have hDa : va_Da A [xo, st] := ⟨_, hD0, rfl⟩
  have hl : lv_has ls 3 [(0, .ref xo)] := hl
  refine lv_iconst (v := nI 0) hx hb dX8_badOnes_0 (by decide) ?_
  refine lv_istore_n (lv' := [(1, .int (nI 0)), (0, .ref xo)]) hx hb dX8_badOnes_1 rfl hl (by decide) rfl (fun ls hl => ?_)
  refine lv_iconst (v := nI 0) hx hb dX8_badOnes_2 (by decide) ?_
  refine lv_istore_n (lv' := [(2, .int (nI 0)), (1, .int (nI 0)), (0, .ref xo)]) hx hb dX8_badOnes_3 rfl hl (by decide) rfl (fun ls hl => ?_)
  have loop4 : ∀ (fuel : Nat) (k : Nat), n - k < fuel → (k ≤ n) → ∀ (H : Heap) (locs : List Loc), va_P E.1 vwCl [(xo, .inr (5, [.ref st, .ref sp, .ref th, .int (nI sn), .ref so, .ref sv, .ref pd, .int (nI ln), .int (nI ta), .int sg, .ref nu])), (st, .inl (E.2.1, 293, .inl g))] H → va_S A s.heap H locs → ∀ ls : Array Slot, lv_has ls 3 [(2, .int (nI k)), (1, .int (mSb g k)), (0, .ref xo)] → W pg l e (rq 2) s m ([.ref xo] : List Value).toArray below meth c H locs 0 0 Q (F0 m 4 ls []) := by
    intro fuel
    induction fuel with
    | zero => intro k h9; exact absurd h9 (Nat.not_lt_zero _)
    | succ fuel ih4 =>
      intro k hfu4 hk H locs hP hS ls hl
      refine lv_iload_n hx hb dX8_badOnes_4 rfl (lv_at hl 0 rfl) ?_
      refine lv_aload_n hx hb dX8_badOnes_5 rfl (lv_at hl 2 rfl) ?_
      refine va_get (D := E.1) (ci := 5) (v := .ref st) (C := RX8) (T := TX8) (N := 11) hx hb hts inb_X8 hown hK hP 0 rfl rfl 0 (by decide) (hts _ bw_710) (fun _ h9 => h9) rfl dX8_badOnes_6 ?_
      refine lv_iconst (v := nI 4) hx hb dX8_badOnes_9 (by decide) ?_
      refine rn_iald (i := 4) hx hb hK hP 1 0 rfl rfl (by omega) (by omega) dX8_badOnes_10 ?_
      refine W.eq (congrArg (fun z => F0 m 11 ls (.int z :: [.int (nI k)])) (show g 4 = nI n from hf)) ?_
      refine rn_icmp_ge (a := k) (b := n) (tgt := 38) hx hb (by omega) (by omega) dX8_badOnes_11 (by decide) (fun c_1 => ?_) (fun c_1 => ?_)
      · have hex : n = k := by omega
        subst hex
        refine lv_iload_n hx hb dX8_badOnes_38 rfl (lv_at hl 1 rfl) ?_
        exact hret _ _ _ _ _ _ rfl rfl rfl hP hS dX8_badOnes_39
      · refine lv_iload_n hx hb dX8_badOnes_14 rfl (lv_at hl 1 rfl) ?_
        refine lv_aload_n hx hb dX8_badOnes_15 rfl (lv_at hl 2 rfl) ?_
        refine lv_iload_n hx hb dX8_badOnes_16 rfl (lv_at hl 0 rfl) ?_
        refine rwV1 (rest := [.int (mSb g k)]) S (c_X8_isBad l E xo st sp th so sv pd nu sn ln ta sg g k (by omega)) cd_X8_isBad bw_921 ⟨Nat.le_of_ble_eq_true rfl, Nat.le_of_ble_eq_true rfl⟩ ⟨Nat.zero_le _, Nat.zero_le _⟩ hP (hDa.to rfl) hE hA hS [0, 1] rfl rfl [xo, st] rfl rfl (ci := 5) rfl (q0 := 0) rfl (Nat.le_of_ble_eq_true rfl) hl.1 dX8_badOnes_17 (fun H locs hP _ hS => ?_)
        have hP : va_P E.1 vwCl [(xo, .inr (5, [.ref st, .ref sp, .ref th, .int (nI sn), .ref so, .ref sv, .ref pd, .int (nI ln), .int (nI ta), .int sg, .ref nu])), (st, .inl (E.2.1, 293, .inl g))] H := hP
        refine lv_if_eq (tgt := 29) hx hb dX8_badOnes_20 (by decide) (fun c_2 => ?_) (fun c_2 => ?_)
        · refine lv_iconst (v := nI 0) hx hb dX8_badOnes_29 (by decide) ?_
          refine lv_ior hx hb dX8_badOnes_30 ?_
          refine lv_istore_n (lv' := [(1, .int ((mSb g k) ||| (nI 0))), (2, .int (nI k)), (0, .ref xo)]) hx hb dX8_badOnes_31 rfl hl (by decide) rfl (fun ls hl => ?_)
          refine rn_inc (a := k) (d := 1) (lv' := [(2, .int (nI (k + 1))), (1, .int ((mSb g k) ||| (nI 0))), (0, .ref xo)]) hx hb dX8_badOnes_32 hl (k := 1) rfl (by decide) (by decide) rfl (fun ls hl => ?_)
          refine lv_goto (tgt := 4) hx hb dX8_badOnes_35 (by decide) ?_
          have hl : lv_has ls 3 [(2, .int (nI (k + 1))), (1, .int ((mSb g k) ||| (nI 0))), (0, .ref xo)] := lv_sub hl [0, 1, 2] rfl
          have hl : lv_has ls 3 [(2, .int (nI (k + 1))), (1, .int (mSb g (k + 1))), (0, .ref xo)] := by first | (rw [mSb_p c_2]; exact hl) | (rw [mSb_n c_2]; exact hl)
          exact ih4 (k + 1) (by omega) (by omega) _ _ hP hS _ hl
        · refine lv_iconst (v := nI 1) hx hb dX8_badOnes_23 (by decide) ?_
          refine lv_iload_n hx hb dX8_badOnes_24 rfl (lv_at hl 0 rfl) ?_
          refine lv_ishl hx hb dX8_badOnes_25 ?_
          refine lv_goto (tgt := 30) hx hb dX8_badOnes_26 (by decide) ?_
          refine lv_ior hx hb dX8_badOnes_30 ?_
          refine lv_istore_n (lv' := [(1, .int ((mSb g k) ||| ((nI 1) <<< (nI k &&& 31)))), (2, .int (nI k)), (0, .ref xo)]) hx hb dX8_badOnes_31 rfl hl (by decide) rfl (fun ls hl => ?_)
          refine rn_inc (a := k) (d := 1) (lv' := [(2, .int (nI (k + 1))), (1, .int ((mSb g k) ||| ((nI 1) <<< (nI k &&& 31)))), (0, .ref xo)]) hx hb dX8_badOnes_32 hl (k := 1) rfl (by decide) (by decide) rfl (fun ls hl => ?_)
          refine lv_goto (tgt := 4) hx hb dX8_badOnes_35 (by decide) ?_
          have hl : lv_has ls 3 [(2, .int (nI (k + 1))), (1, .int ((mSb g k) ||| ((nI 1) <<< (nI k &&& 31)))), (0, .ref xo)] := lv_sub hl [0, 1, 2] rfl
          have hl : lv_has ls 3 [(2, .int (nI (k + 1))), (1, .int (mSb g (k + 1))), (0, .ref xo)] := by first | (rw [mSb_p c_2]; exact hl) | (rw [mSb_n c_2]; exact hl)
          exact ih4 (k + 1) (by omega) (by omega) _ _ hP hS _ hl
  have hl : lv_has ls 3 [(2, .int (nI 0)), (1, .int (mSb g 0)), (0, .ref xo)] := lv_sub hl [0, 1, 2] rfl
  exact loop4 _ 0 (Nat.lt_succ_self _) (by omega) _ _ hP hS _ hl

theorem cd_X8_ones : cdS yX8_ones cX8_ones 3 (some .int) 1 := ⟨⟨bw_927, bw_65, by decide, by decide, by decide +kernel⟩, bw_926⟩
set_option maxHeartbeats 4000000 in
set_option maxRecDepth 100000 in
theorem c_X8_ones (l : Launch) (E : EV) (x : Int32)  : rcI l E yX8_ones cX8_ones 3 .int 0 [.int x] [] (mO1 x 20) [] := by
  refine rcI_of (by decide) (Nat.le_of_ble_eq_true rfl) ?_
  intro pg e s m below meth c Q A ls S hP hD0 hE hA hl hret
  have hx := S.1
  have hb := S.2.1
  have hown := S.2.2.2.1
  have hts := S.2.2.2.2
  have hK := hE.1
  have hS : va_S A s.heap s.heap [] := va_S.rf
  have hDa : va_Da A [] := ⟨_, hD0, rfl⟩
  have hl : lv_has ls 3 [(0, .int x)] := hl
  refine lv_iconst (v := nI 0) hx hb dX8_ones_0 (by decide) ?_
  refine lv_istore_n (lv' := [(1, .int (nI 0)), (0, .int x)]) hx hb dX8_ones_1 rfl hl (by decide) rfl (fun ls hl => ?_)
  refine lv_iconst (v := nI 0) hx hb dX8_ones_2 (by decide) ?_
  refine lv_istore_n (lv' := [(2, .int (nI 0)), (1, .int (nI 0)), (0, .int x)]) hx hb dX8_ones_3 rfl hl (by decide) rfl (fun ls hl => ?_)
  have loop4 : ∀ (fuel : Nat) (k : Nat), 20 - k < fuel → (k ≤ 20) → ∀ (H : Heap) (locs : List Loc), va_P E.1 vwCl [] H → va_S A s.heap H locs → ∀ ls : Array Slot, lv_has ls 3 [(2, .int (nI k)), (1, .int (mO1 x k)), (0, .int x)] → W pg l e (rq 0) s m ([.int x] : List Value).toArray below meth c H locs 0 0 Q (F0 m 4 ls []) := by
    intro fuel
    induction fuel with
    | zero => intro k h9; exact absurd h9 (Nat.not_lt_zero _)
    | succ fuel ih4 =>
      intro k hfu4 hk H locs hP hS ls hl
      refine lv_iload_n hx hb dX8_ones_4 rfl (lv_at hl 0 rfl) ?_
      refine lv_bipush (v := nI 20) hx hb dX8_ones_5 (by decide) ?_
      refine rn_icmp_ge (a := k) (b := 20) (tgt := 24) hx hb (by omega) (by omega) dX8_ones_7 (by decide) (fun c_1 => ?_) (fun c_1 => ?_)
      · have hex : 20 = k := by omega
        subst hex
        refine lv_iload_n hx hb dX8_ones_24 rfl (lv_at hl 1 rfl) ?_
        exact hret _ _ _ _ _ _ rfl rfl rfl hP hS dX8_ones_25
      · refine lv_iload_n hx hb dX8_ones_10 rfl (lv_at hl 1 rfl) ?_
        refine lv_iload_n hx hb dX8_ones_11 rfl (lv_at hl 2 rfl) ?_
        refine lv_iload_n hx hb dX8_ones_12 rfl (lv_at hl 0 rfl) ?_
        refine lv_ishr hx hb dX8_ones_13 ?_
        refine lv_iconst (v := nI 1) hx hb dX8_ones_14 (by decide) ?_
        refine lv_iand hx hb dX8_ones_15 ?_
        refine lv_iadd hx hb dX8_ones_16 ?_
        refine lv_istore_n (lv' := [(1, .int (mO1 x k + ((x >>> (nI k &&& 31)) &&& (nI 1)))), (2, .int (nI k)), (0, .int x)]) hx hb dX8_ones_17 rfl hl (by decide) rfl (fun ls hl => ?_)
        refine rn_inc (a := k) (d := 1) (lv' := [(2, .int (nI (k + 1))), (1, .int (mO1 x k + ((x >>> (nI k &&& 31)) &&& (nI 1)))), (0, .int x)]) hx hb dX8_ones_18 hl (k := 1) rfl (by decide) (by decide) rfl (fun ls hl => ?_)
        refine lv_goto (tgt := 4) hx hb dX8_ones_21 (by decide) ?_
        have hl : lv_has ls 3 [(2, .int (nI (k + 1))), (1, .int (mO1 x (k + 1))), (0, .int x)] := lv_sub hl [0, 1, 2] rfl
        exact ih4 (k + 1) (by omega) (by omega) _ _ hP hS _ hl
  have hl : lv_has ls 3 [(2, .int (nI 0)), (1, .int (mO1 x 0)), (0, .int x)] := lv_sub hl [0, 1, 2] rfl
  exact loop4 _ 0 (Nat.lt_succ_self _) (by omega) _ _ hP hS _ hl

theorem cd_X8_hours : cdV RX8 yX8_hours cX8_hours 1 (some .int) 0 := ⟨⟨bw_889, bw_65, by decide, by decide, by decide +kernel⟩, bw_888, bw_28⟩
def mHo (g : Nat → Int32) (n : Nat) : Int32 := (mFt g n + (nI 99)) / (nI 100)
set_option maxHeartbeats 4000000 in
set_option maxRecDepth 100000 in
theorem c_X8_hours (l : Launch) (E : EV) (xo : Nat) (st : Nat) (sp : Nat) (th : Nat) (so : Nat) (sv : Nat) (pd : Nat) (nu : Nat) (sn : Nat) (ln : Nat) (ta : Nat) (sg : Int32) (g : Nat → Int32) (n : Nat) (hf : g 4 = nI n) (hn : n ≤ 20) : rcI l E yX8_hours cX8_hours 1 .int 2 [.ref xo] [(xo, .inr (5, [.ref st, .ref sp, .ref th, .int (nI sn), .ref so, .ref sv, .ref pd, .int (nI ln), .int (nI ta), .int sg, .ref nu])), (st, .inl (E.2.1, 293, .inl g))] (mHo g n) [(xo, .inr (5, [.ref st, .ref sp, .ref th, .int (nI sn), .ref so, .ref sv, .ref pd, .int (nI ln), .int (nI ta), .int sg, .ref nu])), (st, .inl (E.2.1, 293, .inl g))] := by
  refine rcI_of (by decide) (Nat.le_of_ble_eq_true rfl) ?_
  intro pg e s m below meth c Q A ls S hP hD0 hE hA hl hret
  have hx := S.1
  have hb := S.2.1
  have hown := S.2.2.2.1
  have hts := S.2.2.2.2
  have hK := hE.1
  have hS : va_S A s.heap s.heap [] := va_S.rf
  have hDa : va_Da A [xo, st] := ⟨_, hD0, rfl⟩
  have hl : lv_has ls 1 [(0, .ref xo)] := hl
  refine lv_aload_n hx hb dX8_hours_0 rfl (lv_at hl 0 rfl) ?_
  refine lv_aload_n hx hb dX8_hours_1 rfl (lv_at hl 0 rfl) ?_
  refine va_get (D := E.1) (ci := 5) (v := .ref st) (C := RX8) (T := TX8) (N := 11) hx hb hts inb_X8 hown hK hP 0 rfl rfl 0 (by decide) (hts _ bw_710) (fun _ h9 => h9) rfl dX8_hours_2 ?_
  refine lv_iconst (v := nI 4) hx hb dX8_hours_5 (by decide) ?_
  refine rn_iald (i := 4) hx hb hK hP 1 0 rfl rfl (by omega) (by omega) dX8_hours_6 ?_
  refine W.eq (congrArg (fun z => F0 m 7 ls (.int z :: [.ref xo])) (show g 4 = nI n from hf)) ?_
  refine rwV1 (rest := []) S (c_X8_feetTo l E xo st sp th so sv pd nu sn ln ta sg g n hn) cd_X8_feetTo bw_890 ⟨Nat.le_of_ble_eq_true rfl, Nat.le_of_ble_eq_true rfl⟩ ⟨Nat.zero_le _, Nat.zero_le _⟩ hP (hDa.to rfl) hE hA hS [0, 1] rfl rfl [xo, st] rfl rfl (ci := 5) rfl (q0 := 0) rfl (Nat.le_of_ble_eq_true rfl) hl.1 dX8_hours_7 (fun H locs hP _ hS => ?_)
  have hP : va_P E.1 vwCl [(xo, .inr (5, [.ref st, .ref sp, .ref th, .int (nI sn), .ref so, .ref sv, .ref pd, .int (nI ln), .int (nI ta), .int sg, .ref nu])), (st, .inl (E.2.1, 293, .inl g))] H := hP
  refine lv_bipush (v := nI 99) hx hb dX8_hours_10 (by decide) ?_
  refine lv_iadd hx hb dX8_hours_12 ?_
  refine lv_bipush (v := nI 100) hx hb dX8_hours_13 (by decide) ?_
  refine lv_idiv hx hb dX8_hours_15 (by decide) ?_
  exact hret _ _ _ _ _ _ (by rw [mHo]) rfl rfl hP hS dX8_hours_16

def mR1 (g : Nat → Int32) (k j co : Nat) : Nat → Int32 := upd g (13 + 14 * k + j) (mOn g k co)
def mRs (g : Nat → Int32) (k : Nat) : Nat → Int32 := mR1 (mR1 (mR1 (upd g (13 + 14 * k + 10) (nI 1)) k 11 0) k 12 1) k 13 2
def mRp (g : Nat → Int32) : Nat → Nat → Int32
  | 0 => g
  | k + 1 => mRs (mRp g k) k
theorem mRp_s (g : Nat → Int32) (k : Nat) : mRp g (k + 1) = mRs (mRp g k) k := rfl
theorem mRs_u (g : Nat → Int32) (k j : Nat) (h : j < 13 + 14 * k) : mRs g k j = g j := (pk_un (by omega)).trans ((pk_un (by omega)).trans ((pk_un (by omega)).trans (pk_un (by omega))))
theorem mRp_u (g : Nat → Int32) (j : Nat) (h : j < 13) : ∀ k : Nat, mRp g k j = g j
  | 0 => rfl
  | k + 1 => (congrFun (mRp_s g k) j).trans ((mRs_u _ _ j (by omega)).trans (mRp_u g j h k))
theorem mR1_4 (g : Nat → Int32) (k j co : Nat) : mR1 g k j co 4 = g 4 := pk_un (by omega)
theorem cd_X8_makePrint : cdV RX8 yX8_makePrint cX8_makePrint 3 none 0 := ⟨⟨bw_897, bw_65, by decide, by decide, by decide +kernel⟩, bw_896, bw_30⟩
def mKw (g : Nat → Int32) (n : Nat) : Nat → Int32 := upd (upd (upd (upd (mRp g n) 7 ((mRp g n) 7 + (mHo (mRp g n) n))) 8 ((upd (mRp g n) 7 ((mRp g n) 7 + (mHo (mRp g n) n))) 8 + (mHo (mRp g n) n))) 9 ((upd (upd (mRp g n) 7 ((mRp g n) 7 + (mHo (mRp g n) n))) 8 ((upd (mRp g n) 7 ((mRp g n) 7 + (mHo (mRp g n) n))) 8 + (mHo (mRp g n) n))) 9 + (mHo (mRp g n) n))) 5 ((upd (upd (upd (mRp g n) 7 ((mRp g n) 7 + (mHo (mRp g n) n))) 8 ((upd (mRp g n) 7 ((mRp g n) 7 + (mHo (mRp g n) n))) 8 + (mHo (mRp g n) n))) 9 ((upd (upd (mRp g n) 7 ((mRp g n) 7 + (mHo (mRp g n) n))) 8 ((upd (mRp g n) 7 ((mRp g n) 7 + (mHo (mRp g n) n))) 8 + (mHo (mRp g n) n))) 9 + (mHo (mRp g n) n))) 5 + (nI 1))
set_option maxHeartbeats 4000000 in
set_option maxRecDepth 100000 in
theorem c_X8_makePrint (l : Launch) (E : EV) (xo : Nat) (st : Nat) (sp : Nat) (th : Nat) (so : Nat) (sv : Nat) (pd : Nat) (nu : Nat) (sn : Nat) (ln : Nat) (ta : Nat) (sg : Int32) (g : Nat → Int32) (n : Nat) (hf : g 4 = nI n) (hn : n ≤ 20) : rcV l E yX8_makePrint cX8_makePrint 3 4 [.ref xo] [(xo, .inr (5, [.ref st, .ref sp, .ref th, .int (nI sn), .ref so, .ref sv, .ref pd, .int (nI ln), .int (nI ta), .int sg, .ref nu])), (st, .inl (E.2.1, 293, .inl g))] [(xo, .inr (5, [.ref st, .ref sp, .ref th, .int (nI sn), .ref so, .ref sv, .ref pd, .int (nI ln), .int (nI ta), .int sg, .ref nu])), (st, .inl (E.2.1, 293, .inl (mKw g n)))] := by
  refine rcV_of (by decide) (Nat.le_of_ble_eq_true rfl) ?_
  intro pg e s m below meth c Q A ls S hP hD0 hE hA hl hret
  have hx := S.1
  have hb := S.2.1
  have hown := S.2.2.2.1
  have hts := S.2.2.2.2
  have hK := hE.1
  have hS : va_S A s.heap s.heap [] := va_S.rf
  have hDa : va_Da A [xo, st] := ⟨_, hD0, rfl⟩
  have hl : lv_has ls 3 [(0, .ref xo)] := hl
  refine lv_iconst (v := nI 0) hx hb dX8_makePrint_0 (by decide) ?_
  refine lv_istore_n (lv' := [(1, .int (nI 0)), (0, .ref xo)]) hx hb dX8_makePrint_1 rfl hl (by decide) rfl (fun ls hl => ?_)
  have loop2 : ∀ (fuel : Nat) (k : Nat), n - k < fuel → (k ≤ n) → ∀ (H : Heap) (locs : List Loc), va_P E.1 vwCl [(xo, .inr (5, [.ref st, .ref sp, .ref th, .int (nI sn), .ref so, .ref sv, .ref pd, .int (nI ln), .int (nI ta), .int sg, .ref nu])), (st, .inl (E.2.1, 293, .inl (mRp g k)))] H → va_S A s.heap H locs → ∀ ls : Array Slot, lv_has ls 3 [(1, .int (nI k)), (0, .ref xo)] → W pg l e (rq 4) s m ([.ref xo] : List Value).toArray below meth c H locs 0 0 Q (F0 m 2 ls []) := by
    intro fuel
    induction fuel with
    | zero => intro k h9; exact absurd h9 (Nat.not_lt_zero _)
    | succ fuel ih2 =>
      intro k hfu2 hk H locs hP hS ls hl
      refine lv_iload_n hx hb dX8_makePrint_2 rfl (lv_at hl 0 rfl) ?_
      refine lv_aload_n hx hb dX8_makePrint_3 rfl (lv_at hl 1 rfl) ?_
      refine va_get (D := E.1) (ci := 5) (v := .ref st) (C := RX8) (T := TX8) (N := 11) hx hb hts inb_X8 hown hK hP 0 rfl rfl 0 (by decide) (hts _ bw_710) (fun _ h9 => h9) rfl dX8_makePrint_4 ?_
      refine lv_iconst (v := nI 4) hx hb dX8_makePrint_7 (by decide) ?_
      refine rn_iald (i := 4) hx hb hK hP 1 0 rfl rfl (by omega) (by omega) dX8_makePrint_8 ?_
      refine W.eq (congrArg (fun z => F0 m 9 ls (.int z :: [.int (nI k)])) (show mRp g k 4 = nI n from ((mRp_u g 4 (by decide) k).trans hf))) ?_
      refine rn_icmp_ge (a := k) (b := n) (tgt := 54) hx hb (by omega) (by omega) dX8_makePrint_9 (by decide) (fun c_1 => ?_) (fun c_1 => ?_)
      · have hex : n = k := by omega
        subst hex
        refine lv_aload_n hx hb dX8_makePrint_54 rfl (lv_at hl 1 rfl) ?_
        refine rwV0 (rest := []) S (c_X8_hours l E xo st sp th so sv pd nu sn ln ta sg (mRp g n) n ((mRp_u g 4 (by decide) n).trans hf) hn) cd_X8_hours bw_886 ⟨Nat.le_of_ble_eq_true rfl, Nat.le_of_ble_eq_true rfl⟩ ⟨Nat.zero_le _, Nat.zero_le _⟩ hP (hDa.to rfl) hE hA hS [0, 1] rfl rfl [xo, st] rfl rfl (ci := 5) rfl (q0 := 0) rfl (Nat.le_of_ble_eq_true rfl) hl.1 dX8_makePrint_55 (fun H locs hP _ hS => ?_)
        have hP : va_P E.1 vwCl [(xo, .inr (5, [.ref st, .ref sp, .ref th, .int (nI sn), .ref so, .ref sv, .ref pd, .int (nI ln), .int (nI ta), .int sg, .ref nu])), (st, .inl (E.2.1, 293, .inl (mRp g n)))] H := hP
        refine lv_istore_n (lv' := [(1, .int (mHo (mRp g n) n)), (0, .ref xo)]) hx hb dX8_makePrint_58 rfl hl (by decide) rfl (fun ls hl => ?_)
        refine lv_iconst (v := nI 0) hx hb dX8_makePrint_59 (by decide) ?_
        refine lv_istore_n (lv' := [(2, .int (nI 0)), (1, .int (mHo (mRp g n) n)), (0, .ref xo)]) hx hb dX8_makePrint_60 rfl hl (by decide) rfl (fun ls hl => ?_)
        refine lv_iload_n hx hb dX8_makePrint_61 rfl (lv_at hl 0 rfl) ?_
        refine lv_iconst (v := nI 3) hx hb dX8_makePrint_62 (by decide) ?_
        refine rn_icmp_ge (a := 0) (b := 3) (tgt := 85) hx hb (by omega) (by omega) dX8_makePrint_63 (by decide) (fun c_2 => absurd c_2 (by omega)) (fun c_2 => ?_)
        refine lv_aload_n hx hb dX8_makePrint_66 rfl (lv_at hl 2 rfl) ?_
        refine va_get (D := E.1) (ci := 5) (v := .ref st) (C := RX8) (T := TX8) (N := 11) hx hb hts inb_X8 hown hK hP 0 rfl rfl 0 (by decide) (hts _ bw_710) (fun _ h9 => h9) rfl dX8_makePrint_67 ?_
        refine lv_bipush (v := nI 7) hx hb dX8_makePrint_70 (by decide) ?_
        refine lv_iload_n hx hb dX8_makePrint_72 rfl (lv_at hl 0 rfl) ?_
        refine rn_add (a := 7) (b := 0) hx hb dX8_makePrint_73 ?_
        refine lv_dup2_11 hx hb dX8_makePrint_74 rfl rfl ?_
        refine rn_iald (i := 7) hx hb hK hP 1 0 rfl rfl (by omega) (by omega) dX8_makePrint_75 ?_
        refine lv_iload_n hx hb dX8_makePrint_76 rfl (lv_at hl 1 rfl) ?_
        refine lv_iadd hx hb dX8_makePrint_77 ?_
        refine rn_iast (i := 7) hx hb hK hP (hDa.to rfl) hS 1 0 rfl rfl (by omega) (by omega) dX8_makePrint_78 (fun H locs hP _ hS => ?_)
        have hP : va_P E.1 vwCl [(xo, .inr (5, [.ref st, .ref sp, .ref th, .int (nI sn), .ref so, .ref sv, .ref pd, .int (nI ln), .int (nI ta), .int sg, .ref nu])), (st, .inl (E.2.1, 293, .inl (upd (mRp g n) 7 ((mRp g n) 7 + (mHo (mRp g n) n)))))] H := hP
        refine rn_inc (a := 0) (d := 1) (lv' := [(2, .int (nI 1)), (1, .int (mHo (mRp g n) n)), (0, .ref xo)]) hx hb dX8_makePrint_79 hl (k := 0) rfl (by decide) (by decide) rfl (fun ls hl => ?_)
        refine lv_goto (tgt := 61) hx hb dX8_makePrint_82 (by decide) ?_
        refine lv_iload_n hx hb dX8_makePrint_61 rfl (lv_at hl 0 rfl) ?_
        refine lv_iconst (v := nI 3) hx hb dX8_makePrint_62 (by decide) ?_
        refine rn_icmp_ge (a := 1) (b := 3) (tgt := 85) hx hb (by omega) (by omega) dX8_makePrint_63 (by decide) (fun c_3 => absurd c_3 (by omega)) (fun c_3 => ?_)
        refine lv_aload_n hx hb dX8_makePrint_66 rfl (lv_at hl 2 rfl) ?_
        refine va_get (D := E.1) (ci := 5) (v := .ref st) (C := RX8) (T := TX8) (N := 11) hx hb hts inb_X8 hown hK hP 0 rfl rfl 0 (by decide) (hts _ bw_710) (fun _ h9 => h9) rfl dX8_makePrint_67 ?_
        refine lv_bipush (v := nI 7) hx hb dX8_makePrint_70 (by decide) ?_
        refine lv_iload_n hx hb dX8_makePrint_72 rfl (lv_at hl 0 rfl) ?_
        refine rn_add (a := 7) (b := 1) hx hb dX8_makePrint_73 ?_
        refine lv_dup2_11 hx hb dX8_makePrint_74 rfl rfl ?_
        refine rn_iald (i := 8) hx hb hK hP 1 0 rfl rfl (by omega) (by omega) dX8_makePrint_75 ?_
        refine lv_iload_n hx hb dX8_makePrint_76 rfl (lv_at hl 1 rfl) ?_
        refine lv_iadd hx hb dX8_makePrint_77 ?_
        refine rn_iast (i := 8) hx hb hK hP (hDa.to rfl) hS 1 0 rfl rfl (by omega) (by omega) dX8_makePrint_78 (fun H locs hP _ hS => ?_)
        have hP : va_P E.1 vwCl [(xo, .inr (5, [.ref st, .ref sp, .ref th, .int (nI sn), .ref so, .ref sv, .ref pd, .int (nI ln), .int (nI ta), .int sg, .ref nu])), (st, .inl (E.2.1, 293, .inl (upd (upd (mRp g n) 7 ((mRp g n) 7 + (mHo (mRp g n) n))) 8 ((upd (mRp g n) 7 ((mRp g n) 7 + (mHo (mRp g n) n))) 8 + (mHo (mRp g n) n)))))] H := hP
        refine rn_inc (a := 1) (d := 1) (lv' := [(2, .int (nI 2)), (1, .int (mHo (mRp g n) n)), (0, .ref xo)]) hx hb dX8_makePrint_79 hl (k := 0) rfl (by decide) (by decide) rfl (fun ls hl => ?_)
        refine lv_goto (tgt := 61) hx hb dX8_makePrint_82 (by decide) ?_
        refine lv_iload_n hx hb dX8_makePrint_61 rfl (lv_at hl 0 rfl) ?_
        refine lv_iconst (v := nI 3) hx hb dX8_makePrint_62 (by decide) ?_
        refine rn_icmp_ge (a := 2) (b := 3) (tgt := 85) hx hb (by omega) (by omega) dX8_makePrint_63 (by decide) (fun c_4 => absurd c_4 (by omega)) (fun c_4 => ?_)
        refine lv_aload_n hx hb dX8_makePrint_66 rfl (lv_at hl 2 rfl) ?_
        refine va_get (D := E.1) (ci := 5) (v := .ref st) (C := RX8) (T := TX8) (N := 11) hx hb hts inb_X8 hown hK hP 0 rfl rfl 0 (by decide) (hts _ bw_710) (fun _ h9 => h9) rfl dX8_makePrint_67 ?_
        refine lv_bipush (v := nI 7) hx hb dX8_makePrint_70 (by decide) ?_
        refine lv_iload_n hx hb dX8_makePrint_72 rfl (lv_at hl 0 rfl) ?_
        refine rn_add (a := 7) (b := 2) hx hb dX8_makePrint_73 ?_
        refine lv_dup2_11 hx hb dX8_makePrint_74 rfl rfl ?_
        refine rn_iald (i := 9) hx hb hK hP 1 0 rfl rfl (by omega) (by omega) dX8_makePrint_75 ?_
        refine lv_iload_n hx hb dX8_makePrint_76 rfl (lv_at hl 1 rfl) ?_
        refine lv_iadd hx hb dX8_makePrint_77 ?_
        refine rn_iast (i := 9) hx hb hK hP (hDa.to rfl) hS 1 0 rfl rfl (by omega) (by omega) dX8_makePrint_78 (fun H locs hP _ hS => ?_)
        have hP : va_P E.1 vwCl [(xo, .inr (5, [.ref st, .ref sp, .ref th, .int (nI sn), .ref so, .ref sv, .ref pd, .int (nI ln), .int (nI ta), .int sg, .ref nu])), (st, .inl (E.2.1, 293, .inl (upd (upd (upd (mRp g n) 7 ((mRp g n) 7 + (mHo (mRp g n) n))) 8 ((upd (mRp g n) 7 ((mRp g n) 7 + (mHo (mRp g n) n))) 8 + (mHo (mRp g n) n))) 9 ((upd (upd (mRp g n) 7 ((mRp g n) 7 + (mHo (mRp g n) n))) 8 ((upd (mRp g n) 7 ((mRp g n) 7 + (mHo (mRp g n) n))) 8 + (mHo (mRp g n) n))) 9 + (mHo (mRp g n) n)))))] H := hP
        refine rn_inc (a := 2) (d := 1) (lv' := [(2, .int (nI 3)), (1, .int (mHo (mRp g n) n)), (0, .ref xo)]) hx hb dX8_makePrint_79 hl (k := 0) rfl (by decide) (by decide) rfl (fun ls hl => ?_)
        refine lv_goto (tgt := 61) hx hb dX8_makePrint_82 (by decide) ?_
        refine lv_iload_n hx hb dX8_makePrint_61 rfl (lv_at hl 0 rfl) ?_
        refine lv_iconst (v := nI 3) hx hb dX8_makePrint_62 (by decide) ?_
        refine rn_icmp_ge (a := 3) (b := 3) (tgt := 85) hx hb (by omega) (by omega) dX8_makePrint_63 (by decide) (fun c_5 => ?_) (fun c_5 => absurd c_5 (by omega))
        refine lv_aload_n hx hb dX8_makePrint_85 rfl (lv_at hl 2 rfl) ?_
        refine va_get (D := E.1) (ci := 5) (v := .ref st) (C := RX8) (T := TX8) (N := 11) hx hb hts inb_X8 hown hK hP 0 rfl rfl 0 (by decide) (hts _ bw_710) (fun _ h9 => h9) rfl dX8_makePrint_86 ?_
        refine lv_iconst (v := nI 5) hx hb dX8_makePrint_89 (by decide) ?_
        refine lv_dup2_11 hx hb dX8_makePrint_90 rfl rfl ?_
        refine rn_iald (i := 5) hx hb hK hP 1 0 rfl rfl (by omega) (by omega) dX8_makePrint_91 ?_
        refine lv_iconst (v := nI 1) hx hb dX8_makePrint_92 (by decide) ?_
        refine lv_iadd hx hb dX8_makePrint_93 ?_
        refine rn_iast (i := 5) hx hb hK hP (hDa.to rfl) hS 1 0 rfl rfl (by omega) (by omega) dX8_makePrint_94 (fun H locs hP _ hS => ?_)
        have hP : va_P E.1 vwCl [(xo, .inr (5, [.ref st, .ref sp, .ref th, .int (nI sn), .ref so, .ref sv, .ref pd, .int (nI ln), .int (nI ta), .int sg, .ref nu])), (st, .inl (E.2.1, 293, .inl (upd (upd (upd (upd (mRp g n) 7 ((mRp g n) 7 + (mHo (mRp g n) n))) 8 ((upd (mRp g n) 7 ((mRp g n) 7 + (mHo (mRp g n) n))) 8 + (mHo (mRp g n) n))) 9 ((upd (upd (mRp g n) 7 ((mRp g n) 7 + (mHo (mRp g n) n))) 8 ((upd (mRp g n) 7 ((mRp g n) 7 + (mHo (mRp g n) n))) 8 + (mHo (mRp g n) n))) 9 + (mHo (mRp g n) n))) 5 ((upd (upd (upd (mRp g n) 7 ((mRp g n) 7 + (mHo (mRp g n) n))) 8 ((upd (mRp g n) 7 ((mRp g n) 7 + (mHo (mRp g n) n))) 8 + (mHo (mRp g n) n))) 9 ((upd (upd (mRp g n) 7 ((mRp g n) 7 + (mHo (mRp g n) n))) 8 ((upd (mRp g n) 7 ((mRp g n) 7 + (mHo (mRp g n) n))) 8 + (mHo (mRp g n) n))) 9 + (mHo (mRp g n) n))) 5 + (nI 1)))))] H := hP
        exact hret _ _ _ _ _ (by rw [mKw]) hP hS dX8_makePrint_95
      · refine lv_aload_n hx hb dX8_makePrint_12 rfl (lv_at hl 1 rfl) ?_
        refine lv_iload_n hx hb dX8_makePrint_13 rfl (lv_at hl 0 rfl) ?_
        refine lv_bipush (v := nI 10) hx hb dX8_makePrint_14 (by decide) ?_
        refine lv_iconst (v := nI 1) hx hb dX8_makePrint_16 (by decide) ?_
        refine rwVv3 (rest := []) S (c_X8_setOf l E xo st sp th so sv pd nu sn ln ta sg (mRp g k) k 10 (nI 1) (by omega) (by omega)) cd_X8_setOf bw_796 ⟨Nat.le_of_ble_eq_true rfl, Nat.le_of_ble_eq_true rfl⟩ ⟨Nat.zero_le _, Nat.zero_le _⟩ hP (hDa.to rfl) hE hA hS [0, 1] rfl rfl [xo, st] rfl rfl (ci := 5) rfl (q0 := 0) rfl (Nat.le_of_ble_eq_true rfl) hl.1 dX8_makePrint_17 (fun H locs hP _ hS => ?_)
        have hP : va_P E.1 vwCl [(xo, .inr (5, [.ref st, .ref sp, .ref th, .int (nI sn), .ref so, .ref sv, .ref pd, .int (nI ln), .int (nI ta), .int sg, .ref nu])), (st, .inl (E.2.1, 293, .inl (upd (mRp g k) (13 + 14 * k + 10) (nI 1))))] H := hP
        refine lv_iconst (v := nI 0) hx hb dX8_makePrint_20 (by decide) ?_
        refine lv_istore_n (lv' := [(2, .int (nI 0)), (1, .int (nI k)), (0, .ref xo)]) hx hb dX8_makePrint_21 rfl hl (by decide) rfl (fun ls hl => ?_)
        refine lv_iload_n hx hb dX8_makePrint_22 rfl (lv_at hl 0 rfl) ?_
        refine lv_iconst (v := nI 3) hx hb dX8_makePrint_23 (by decide) ?_
        refine rn_icmp_ge (a := 0) (b := 3) (tgt := 48) hx hb (by omega) (by omega) dX8_makePrint_24 (by decide) (fun c_6 => absurd c_6 (by omega)) (fun c_6 => ?_)
        refine lv_aload_n hx hb dX8_makePrint_27 rfl (lv_at hl 2 rfl) ?_
        refine lv_iload_n hx hb dX8_makePrint_28 rfl (lv_at hl 1 rfl) ?_
        refine lv_bipush (v := nI 11) hx hb dX8_makePrint_29 (by decide) ?_
        refine lv_iload_n hx hb dX8_makePrint_31 rfl (lv_at hl 0 rfl) ?_
        refine rn_add (a := 11) (b := 0) hx hb dX8_makePrint_32 ?_
        refine lv_aload_n hx hb dX8_makePrint_33 rfl (lv_at hl 2 rfl) ?_
        refine lv_iload_n hx hb dX8_makePrint_34 rfl (lv_at hl 1 rfl) ?_
        refine lv_iload_n hx hb dX8_makePrint_35 rfl (lv_at hl 0 rfl) ?_
        refine rwV2 (rest := [.int (nI 11), .int (nI k), .ref xo]) S (c_X8_off l E xo st sp th so sv pd nu sn ln ta sg (upd (mRp g k) (13 + 14 * k + 10) (nI 1)) k 0 (by omega) (by omega)) cd_X8_off bw_898 ⟨Nat.le_of_ble_eq_true rfl, Nat.le_of_ble_eq_true rfl⟩ ⟨Nat.zero_le _, Nat.zero_le _⟩ hP (hDa.to rfl) hE hA hS [0, 1] rfl rfl [xo, st] rfl rfl (ci := 5) rfl (q0 := 0) rfl (Nat.le_of_ble_eq_true rfl) hl.1 dX8_makePrint_36 (fun H locs hP _ hS => ?_)
        have hP : va_P E.1 vwCl [(xo, .inr (5, [.ref st, .ref sp, .ref th, .int (nI sn), .ref so, .ref sv, .ref pd, .int (nI ln), .int (nI ta), .int sg, .ref nu])), (st, .inl (E.2.1, 293, .inl (upd (mRp g k) (13 + 14 * k + 10) (nI 1))))] H := hP
        refine rwVv3 (rest := []) S (c_X8_setOf l E xo st sp th so sv pd nu sn ln ta sg (upd (mRp g k) (13 + 14 * k + 10) (nI 1)) k 11 (mOn (upd (mRp g k) (13 + 14 * k + 10) (nI 1)) k 0) (by omega) (by omega)) cd_X8_setOf bw_796 ⟨Nat.le_of_ble_eq_true rfl, Nat.le_of_ble_eq_true rfl⟩ ⟨Nat.zero_le _, Nat.zero_le _⟩ hP (hDa.to rfl) hE hA hS [0, 1] rfl rfl [xo, st] rfl rfl (ci := 5) rfl (q0 := 0) rfl (Nat.le_of_ble_eq_true rfl) hl.1 dX8_makePrint_39 (fun H locs hP _ hS => ?_)
        have hP : va_P E.1 vwCl [(xo, .inr (5, [.ref st, .ref sp, .ref th, .int (nI sn), .ref so, .ref sv, .ref pd, .int (nI ln), .int (nI ta), .int sg, .ref nu])), (st, .inl (E.2.1, 293, .inl (upd (upd (mRp g k) (13 + 14 * k + 10) (nI 1)) (13 + 14 * k + 11) (mOn (upd (mRp g k) (13 + 14 * k + 10) (nI 1)) k 0))))] H := hP
        have hP : va_P E.1 vwCl [(xo, .inr (5, [.ref st, .ref sp, .ref th, .int (nI sn), .ref so, .ref sv, .ref pd, .int (nI ln), .int (nI ta), .int sg, .ref nu])), (st, .inl (E.2.1, 293, .inl (mR1 (upd (mRp g k) (13 + 14 * k + 10) (nI 1)) k 11 0)))] H := hP
        refine rn_inc (a := 0) (d := 1) (lv' := [(2, .int (nI 1)), (1, .int (nI k)), (0, .ref xo)]) hx hb dX8_makePrint_42 hl (k := 0) rfl (by decide) (by decide) rfl (fun ls hl => ?_)
        refine lv_goto (tgt := 22) hx hb dX8_makePrint_45 (by decide) ?_
        refine lv_iload_n hx hb dX8_makePrint_22 rfl (lv_at hl 0 rfl) ?_
        refine lv_iconst (v := nI 3) hx hb dX8_makePrint_23 (by decide) ?_
        refine rn_icmp_ge (a := 1) (b := 3) (tgt := 48) hx hb (by omega) (by omega) dX8_makePrint_24 (by decide) (fun c_7 => absurd c_7 (by omega)) (fun c_7 => ?_)
        refine lv_aload_n hx hb dX8_makePrint_27 rfl (lv_at hl 2 rfl) ?_
        refine lv_iload_n hx hb dX8_makePrint_28 rfl (lv_at hl 1 rfl) ?_
        refine lv_bipush (v := nI 11) hx hb dX8_makePrint_29 (by decide) ?_
        refine lv_iload_n hx hb dX8_makePrint_31 rfl (lv_at hl 0 rfl) ?_
        refine rn_add (a := 11) (b := 1) hx hb dX8_makePrint_32 ?_
        refine lv_aload_n hx hb dX8_makePrint_33 rfl (lv_at hl 2 rfl) ?_
        refine lv_iload_n hx hb dX8_makePrint_34 rfl (lv_at hl 1 rfl) ?_
        refine lv_iload_n hx hb dX8_makePrint_35 rfl (lv_at hl 0 rfl) ?_
        refine rwV2 (rest := [.int (nI 12), .int (nI k), .ref xo]) S (c_X8_off l E xo st sp th so sv pd nu sn ln ta sg (mR1 (upd (mRp g k) (13 + 14 * k + 10) (nI 1)) k 11 0) k 1 (by omega) (by omega)) cd_X8_off bw_898 ⟨Nat.le_of_ble_eq_true rfl, Nat.le_of_ble_eq_true rfl⟩ ⟨Nat.zero_le _, Nat.zero_le _⟩ hP (hDa.to rfl) hE hA hS [0, 1] rfl rfl [xo, st] rfl rfl (ci := 5) rfl (q0 := 0) rfl (Nat.le_of_ble_eq_true rfl) hl.1 dX8_makePrint_36 (fun H locs hP _ hS => ?_)
        have hP : va_P E.1 vwCl [(xo, .inr (5, [.ref st, .ref sp, .ref th, .int (nI sn), .ref so, .ref sv, .ref pd, .int (nI ln), .int (nI ta), .int sg, .ref nu])), (st, .inl (E.2.1, 293, .inl (mR1 (upd (mRp g k) (13 + 14 * k + 10) (nI 1)) k 11 0)))] H := hP
        refine rwVv3 (rest := []) S (c_X8_setOf l E xo st sp th so sv pd nu sn ln ta sg (mR1 (upd (mRp g k) (13 + 14 * k + 10) (nI 1)) k 11 0) k 12 (mOn (mR1 (upd (mRp g k) (13 + 14 * k + 10) (nI 1)) k 11 0) k 1) (by omega) (by omega)) cd_X8_setOf bw_796 ⟨Nat.le_of_ble_eq_true rfl, Nat.le_of_ble_eq_true rfl⟩ ⟨Nat.zero_le _, Nat.zero_le _⟩ hP (hDa.to rfl) hE hA hS [0, 1] rfl rfl [xo, st] rfl rfl (ci := 5) rfl (q0 := 0) rfl (Nat.le_of_ble_eq_true rfl) hl.1 dX8_makePrint_39 (fun H locs hP _ hS => ?_)
        have hP : va_P E.1 vwCl [(xo, .inr (5, [.ref st, .ref sp, .ref th, .int (nI sn), .ref so, .ref sv, .ref pd, .int (nI ln), .int (nI ta), .int sg, .ref nu])), (st, .inl (E.2.1, 293, .inl (upd (mR1 (upd (mRp g k) (13 + 14 * k + 10) (nI 1)) k 11 0) (13 + 14 * k + 12) (mOn (mR1 (upd (mRp g k) (13 + 14 * k + 10) (nI 1)) k 11 0) k 1))))] H := hP
        have hP : va_P E.1 vwCl [(xo, .inr (5, [.ref st, .ref sp, .ref th, .int (nI sn), .ref so, .ref sv, .ref pd, .int (nI ln), .int (nI ta), .int sg, .ref nu])), (st, .inl (E.2.1, 293, .inl (mR1 (mR1 (upd (mRp g k) (13 + 14 * k + 10) (nI 1)) k 11 0) k 12 1)))] H := hP
        refine rn_inc (a := 1) (d := 1) (lv' := [(2, .int (nI 2)), (1, .int (nI k)), (0, .ref xo)]) hx hb dX8_makePrint_42 hl (k := 0) rfl (by decide) (by decide) rfl (fun ls hl => ?_)
        refine lv_goto (tgt := 22) hx hb dX8_makePrint_45 (by decide) ?_
        refine lv_iload_n hx hb dX8_makePrint_22 rfl (lv_at hl 0 rfl) ?_
        refine lv_iconst (v := nI 3) hx hb dX8_makePrint_23 (by decide) ?_
        refine rn_icmp_ge (a := 2) (b := 3) (tgt := 48) hx hb (by omega) (by omega) dX8_makePrint_24 (by decide) (fun c_8 => absurd c_8 (by omega)) (fun c_8 => ?_)
        refine lv_aload_n hx hb dX8_makePrint_27 rfl (lv_at hl 2 rfl) ?_
        refine lv_iload_n hx hb dX8_makePrint_28 rfl (lv_at hl 1 rfl) ?_
        refine lv_bipush (v := nI 11) hx hb dX8_makePrint_29 (by decide) ?_
        refine lv_iload_n hx hb dX8_makePrint_31 rfl (lv_at hl 0 rfl) ?_
        refine rn_add (a := 11) (b := 2) hx hb dX8_makePrint_32 ?_
        refine lv_aload_n hx hb dX8_makePrint_33 rfl (lv_at hl 2 rfl) ?_
        refine lv_iload_n hx hb dX8_makePrint_34 rfl (lv_at hl 1 rfl) ?_
        refine lv_iload_n hx hb dX8_makePrint_35 rfl (lv_at hl 0 rfl) ?_
        refine rwV2 (rest := [.int (nI 13), .int (nI k), .ref xo]) S (c_X8_off l E xo st sp th so sv pd nu sn ln ta sg (mR1 (mR1 (upd (mRp g k) (13 + 14 * k + 10) (nI 1)) k 11 0) k 12 1) k 2 (by omega) (by omega)) cd_X8_off bw_898 ⟨Nat.le_of_ble_eq_true rfl, Nat.le_of_ble_eq_true rfl⟩ ⟨Nat.zero_le _, Nat.zero_le _⟩ hP (hDa.to rfl) hE hA hS [0, 1] rfl rfl [xo, st] rfl rfl (ci := 5) rfl (q0 := 0) rfl (Nat.le_of_ble_eq_true rfl) hl.1 dX8_makePrint_36 (fun H locs hP _ hS => ?_)
        have hP : va_P E.1 vwCl [(xo, .inr (5, [.ref st, .ref sp, .ref th, .int (nI sn), .ref so, .ref sv, .ref pd, .int (nI ln), .int (nI ta), .int sg, .ref nu])), (st, .inl (E.2.1, 293, .inl (mR1 (mR1 (upd (mRp g k) (13 + 14 * k + 10) (nI 1)) k 11 0) k 12 1)))] H := hP
        refine rwVv3 (rest := []) S (c_X8_setOf l E xo st sp th so sv pd nu sn ln ta sg (mR1 (mR1 (upd (mRp g k) (13 + 14 * k + 10) (nI 1)) k 11 0) k 12 1) k 13 (mOn (mR1 (mR1 (upd (mRp g k) (13 + 14 * k + 10) (nI 1)) k 11 0) k 12 1) k 2) (by omega) (by omega)) cd_X8_setOf bw_796 ⟨Nat.le_of_ble_eq_true rfl, Nat.le_of_ble_eq_true rfl⟩ ⟨Nat.zero_le _, Nat.zero_le _⟩ hP (hDa.to rfl) hE hA hS [0, 1] rfl rfl [xo, st] rfl rfl (ci := 5) rfl (q0 := 0) rfl (Nat.le_of_ble_eq_true rfl) hl.1 dX8_makePrint_39 (fun H locs hP _ hS => ?_)
        have hP : va_P E.1 vwCl [(xo, .inr (5, [.ref st, .ref sp, .ref th, .int (nI sn), .ref so, .ref sv, .ref pd, .int (nI ln), .int (nI ta), .int sg, .ref nu])), (st, .inl (E.2.1, 293, .inl (upd (mR1 (mR1 (upd (mRp g k) (13 + 14 * k + 10) (nI 1)) k 11 0) k 12 1) (13 + 14 * k + 13) (mOn (mR1 (mR1 (upd (mRp g k) (13 + 14 * k + 10) (nI 1)) k 11 0) k 12 1) k 2))))] H := hP
        have hP : va_P E.1 vwCl [(xo, .inr (5, [.ref st, .ref sp, .ref th, .int (nI sn), .ref so, .ref sv, .ref pd, .int (nI ln), .int (nI ta), .int sg, .ref nu])), (st, .inl (E.2.1, 293, .inl (mR1 (mR1 (mR1 (upd (mRp g k) (13 + 14 * k + 10) (nI 1)) k 11 0) k 12 1) k 13 2)))] H := hP
        refine rn_inc (a := 2) (d := 1) (lv' := [(2, .int (nI 3)), (1, .int (nI k)), (0, .ref xo)]) hx hb dX8_makePrint_42 hl (k := 0) rfl (by decide) (by decide) rfl (fun ls hl => ?_)
        refine lv_goto (tgt := 22) hx hb dX8_makePrint_45 (by decide) ?_
        refine lv_iload_n hx hb dX8_makePrint_22 rfl (lv_at hl 0 rfl) ?_
        refine lv_iconst (v := nI 3) hx hb dX8_makePrint_23 (by decide) ?_
        refine rn_icmp_ge (a := 3) (b := 3) (tgt := 48) hx hb (by omega) (by omega) dX8_makePrint_24 (by decide) (fun c_9 => ?_) (fun c_9 => absurd c_9 (by omega))
        refine rn_inc (a := k) (d := 1) (lv' := [(1, .int (nI (k + 1))), (2, .int (nI 3)), (0, .ref xo)]) hx hb dX8_makePrint_48 hl (k := 1) rfl (by decide) (by decide) rfl (fun ls hl => ?_)
        refine lv_goto (tgt := 2) hx hb dX8_makePrint_51 (by decide) ?_
        have hP : va_P E.1 vwCl [(xo, .inr (5, [.ref st, .ref sp, .ref th, .int (nI sn), .ref so, .ref sv, .ref pd, .int (nI ln), .int (nI ta), .int sg, .ref nu])), (st, .inl (E.2.1, 293, .inl (mRp g (k + 1))))] H := by rw [mRp_s]; exact hP
        have hl : lv_has ls 3 [(1, .int (nI (k + 1))), (0, .ref xo)] := lv_sub hl [0, 2] rfl
        exact ih2 (k + 1) (by omega) (by omega) _ _ hP hS _ hl
  have hP : va_P E.1 vwCl [(xo, .inr (5, [.ref st, .ref sp, .ref th, .int (nI sn), .ref so, .ref sv, .ref pd, .int (nI ln), .int (nI ta), .int sg, .ref nu])), (st, .inl (E.2.1, 293, .inl (mRp g 0)))] s.heap := by exact hP
  have hl : lv_has ls 3 [(1, .int (nI 0)), (0, .ref xo)] := lv_sub hl [0, 1] rfl
  exact loop2 _ 0 (Nat.lt_succ_self _) (by omega) _ _ hP hS _ hl

theorem mKw_4 (g : Nat → Int32) (n : Nat) : mKw g n 4 = g 4 := (pk_un (by omega)).trans ((pk_un (by omega)).trans ((pk_un (by omega)).trans ((pk_un (by omega)).trans (mRp_u g 4 (by decide) n))))
theorem mKw_0 (g : Nat → Int32) (n : Nat) : mKw g n 0 = g 0 := (pk_un (by omega)).trans ((pk_un (by omega)).trans ((pk_un (by omega)).trans ((pk_un (by omega)).trans (mRp_u g 0 (by decide) n))))
theorem cd_X8_oldest : cdV RX8 yX8_oldest cX8_oldest 3 (some .int) 0 := ⟨⟨bw_885, bw_65, by decide, by decide, by decide +kernel⟩, bw_884, bw_27⟩
def mOl (g : Nat → Int32) : Int32 := if g 7 ≤ nI 0 then if g 8 ≤ nI 0 then if g 9 ≤ nI 0 then nI 0 else g 9 else if g 9 ≤ g 8 then g 8 else g 9 else if g 8 ≤ g 7 then if g 9 ≤ g 7 then g 7 else g 9 else if g 9 ≤ g 8 then g 8 else g 9
set_option maxHeartbeats 4000000 in
set_option maxRecDepth 100000 in
theorem c_X8_oldest (l : Launch) (E : EV) (xo : Nat) (st : Nat) (sp : Nat) (th : Nat) (so : Nat) (sv : Nat) (pd : Nat) (nu : Nat) (sn : Nat) (ln : Nat) (ta : Nat) (sg : Int32) (g : Nat → Int32)  : rcI l E yX8_oldest cX8_oldest 3 .int 0 [.ref xo] [(xo, .inr (5, [.ref st, .ref sp, .ref th, .int (nI sn), .ref so, .ref sv, .ref pd, .int (nI ln), .int (nI ta), .int sg, .ref nu])), (st, .inl (E.2.1, 293, .inl g))] (mOl g) [(xo, .inr (5, [.ref st, .ref sp, .ref th, .int (nI sn), .ref so, .ref sv, .ref pd, .int (nI ln), .int (nI ta), .int sg, .ref nu])), (st, .inl (E.2.1, 293, .inl g))] := by
  refine rcI_of (by decide) (Nat.le_of_ble_eq_true rfl) ?_
  intro pg e s m below meth c Q A ls S hP hD0 hE hA hl hret
  have hx := S.1
  have hb := S.2.1
  have hown := S.2.2.2.1
  have hts := S.2.2.2.2
  have hK := hE.1
  have hS : va_S A s.heap s.heap [] := va_S.rf
  have hDa : va_Da A [xo, st] := ⟨_, hD0, rfl⟩
  have hl : lv_has ls 3 [(0, .ref xo)] := hl
  refine lv_iconst (v := nI 0) hx hb dX8_oldest_0 (by decide) ?_
  refine lv_istore_n (lv' := [(1, .int (nI 0)), (0, .ref xo)]) hx hb dX8_oldest_1 rfl hl (by decide) rfl (fun ls hl => ?_)
  refine lv_iconst (v := nI 0) hx hb dX8_oldest_2 (by decide) ?_
  refine lv_istore_n (lv' := [(2, .int (nI 0)), (1, .int (nI 0)), (0, .ref xo)]) hx hb dX8_oldest_3 rfl hl (by decide) rfl (fun ls hl => ?_)
  refine lv_iload_n hx hb dX8_oldest_4 rfl (lv_at hl 0 rfl) ?_
  refine lv_iconst (v := nI 3) hx hb dX8_oldest_5 (by decide) ?_
  refine rn_icmp_ge (a := 0) (b := 3) (tgt := 42) hx hb (by omega) (by omega) dX8_oldest_6 (by decide) (fun c_1 => absurd c_1 (by omega)) (fun c_1 => ?_)
  refine lv_aload_n hx hb dX8_oldest_9 rfl (lv_at hl 2 rfl) ?_
  refine va_get (D := E.1) (ci := 5) (v := .ref st) (C := RX8) (T := TX8) (N := 11) hx hb hts inb_X8 hown hK hP 0 rfl rfl 0 (by decide) (hts _ bw_710) (fun _ h9 => h9) rfl dX8_oldest_10 ?_
  refine lv_bipush (v := nI 7) hx hb dX8_oldest_13 (by decide) ?_
  refine lv_iload_n hx hb dX8_oldest_15 rfl (lv_at hl 0 rfl) ?_
  refine rn_add (a := 7) (b := 0) hx hb dX8_oldest_16 ?_
  refine rn_iald (i := 7) hx hb hK hP 1 0 rfl rfl (by omega) (by omega) dX8_oldest_17 ?_
  refine lv_iload_n hx hb dX8_oldest_18 rfl (lv_at hl 1 rfl) ?_
  refine lv_icmp_le (tgt := 34) hx hb dX8_oldest_19 (by decide) (fun c_2 => ?_) (fun c_2 => ?_)
  · refine lv_iload_n hx hb dX8_oldest_34 rfl (lv_at hl 1 rfl) ?_
    refine lv_istore_n (lv' := [(1, .int (nI 0)), (2, .int (nI 0)), (0, .ref xo)]) hx hb dX8_oldest_35 rfl hl (by decide) rfl (fun ls hl => ?_)
    refine rn_inc (a := 0) (d := 1) (lv' := [(2, .int (nI 1)), (1, .int (nI 0)), (0, .ref xo)]) hx hb dX8_oldest_36 hl (k := 1) rfl (by decide) (by decide) rfl (fun ls hl => ?_)
    refine lv_goto (tgt := 4) hx hb dX8_oldest_39 (by decide) ?_
    refine lv_iload_n hx hb dX8_oldest_4 rfl (lv_at hl 0 rfl) ?_
    refine lv_iconst (v := nI 3) hx hb dX8_oldest_5 (by decide) ?_
    refine rn_icmp_ge (a := 1) (b := 3) (tgt := 42) hx hb (by omega) (by omega) dX8_oldest_6 (by decide) (fun c_3 => absurd c_3 (by omega)) (fun c_3 => ?_)
    refine lv_aload_n hx hb dX8_oldest_9 rfl (lv_at hl 2 rfl) ?_
    refine va_get (D := E.1) (ci := 5) (v := .ref st) (C := RX8) (T := TX8) (N := 11) hx hb hts inb_X8 hown hK hP 0 rfl rfl 0 (by decide) (hts _ bw_710) (fun _ h9 => h9) rfl dX8_oldest_10 ?_
    refine lv_bipush (v := nI 7) hx hb dX8_oldest_13 (by decide) ?_
    refine lv_iload_n hx hb dX8_oldest_15 rfl (lv_at hl 0 rfl) ?_
    refine rn_add (a := 7) (b := 1) hx hb dX8_oldest_16 ?_
    refine rn_iald (i := 8) hx hb hK hP 1 0 rfl rfl (by omega) (by omega) dX8_oldest_17 ?_
    refine lv_iload_n hx hb dX8_oldest_18 rfl (lv_at hl 1 rfl) ?_
    refine lv_icmp_le (tgt := 34) hx hb dX8_oldest_19 (by decide) (fun c_4 => ?_) (fun c_4 => ?_)
    · refine lv_iload_n hx hb dX8_oldest_34 rfl (lv_at hl 1 rfl) ?_
      refine lv_istore_n (lv' := [(1, .int (nI 0)), (2, .int (nI 1)), (0, .ref xo)]) hx hb dX8_oldest_35 rfl hl (by decide) rfl (fun ls hl => ?_)
      refine rn_inc (a := 1) (d := 1) (lv' := [(2, .int (nI 2)), (1, .int (nI 0)), (0, .ref xo)]) hx hb dX8_oldest_36 hl (k := 1) rfl (by decide) (by decide) rfl (fun ls hl => ?_)
      refine lv_goto (tgt := 4) hx hb dX8_oldest_39 (by decide) ?_
      refine lv_iload_n hx hb dX8_oldest_4 rfl (lv_at hl 0 rfl) ?_
      refine lv_iconst (v := nI 3) hx hb dX8_oldest_5 (by decide) ?_
      refine rn_icmp_ge (a := 2) (b := 3) (tgt := 42) hx hb (by omega) (by omega) dX8_oldest_6 (by decide) (fun c_5 => absurd c_5 (by omega)) (fun c_5 => ?_)
      refine lv_aload_n hx hb dX8_oldest_9 rfl (lv_at hl 2 rfl) ?_
      refine va_get (D := E.1) (ci := 5) (v := .ref st) (C := RX8) (T := TX8) (N := 11) hx hb hts inb_X8 hown hK hP 0 rfl rfl 0 (by decide) (hts _ bw_710) (fun _ h9 => h9) rfl dX8_oldest_10 ?_
      refine lv_bipush (v := nI 7) hx hb dX8_oldest_13 (by decide) ?_
      refine lv_iload_n hx hb dX8_oldest_15 rfl (lv_at hl 0 rfl) ?_
      refine rn_add (a := 7) (b := 2) hx hb dX8_oldest_16 ?_
      refine rn_iald (i := 9) hx hb hK hP 1 0 rfl rfl (by omega) (by omega) dX8_oldest_17 ?_
      refine lv_iload_n hx hb dX8_oldest_18 rfl (lv_at hl 1 rfl) ?_
      refine lv_icmp_le (tgt := 34) hx hb dX8_oldest_19 (by decide) (fun c_6 => ?_) (fun c_6 => ?_)
      · refine lv_iload_n hx hb dX8_oldest_34 rfl (lv_at hl 1 rfl) ?_
        refine lv_istore_n (lv' := [(1, .int (nI 0)), (2, .int (nI 2)), (0, .ref xo)]) hx hb dX8_oldest_35 rfl hl (by decide) rfl (fun ls hl => ?_)
        refine rn_inc (a := 2) (d := 1) (lv' := [(2, .int (nI 3)), (1, .int (nI 0)), (0, .ref xo)]) hx hb dX8_oldest_36 hl (k := 1) rfl (by decide) (by decide) rfl (fun ls hl => ?_)
        refine lv_goto (tgt := 4) hx hb dX8_oldest_39 (by decide) ?_
        refine lv_iload_n hx hb dX8_oldest_4 rfl (lv_at hl 0 rfl) ?_
        refine lv_iconst (v := nI 3) hx hb dX8_oldest_5 (by decide) ?_
        refine rn_icmp_ge (a := 3) (b := 3) (tgt := 42) hx hb (by omega) (by omega) dX8_oldest_6 (by decide) (fun c_7 => ?_) (fun c_7 => absurd c_7 (by omega))
        refine lv_iload_n hx hb dX8_oldest_42 rfl (lv_at hl 1 rfl) ?_
        exact hret _ _ _ _ _ _ (by rw [mOl, if_pos c_2, if_pos c_4, if_pos c_6]) rfl rfl hP hS dX8_oldest_43
      · refine lv_aload_n hx hb dX8_oldest_22 rfl (lv_at hl 2 rfl) ?_
        refine va_get (D := E.1) (ci := 5) (v := .ref st) (C := RX8) (T := TX8) (N := 11) hx hb hts inb_X8 hown hK hP 0 rfl rfl 0 (by decide) (hts _ bw_710) (fun _ h9 => h9) rfl dX8_oldest_23 ?_
        refine lv_bipush (v := nI 7) hx hb dX8_oldest_26 (by decide) ?_
        refine lv_iload_n hx hb dX8_oldest_28 rfl (lv_at hl 0 rfl) ?_
        refine rn_add (a := 7) (b := 2) hx hb dX8_oldest_29 ?_
        refine rn_iald (i := 9) hx hb hK hP 1 0 rfl rfl (by omega) (by omega) dX8_oldest_30 ?_
        refine lv_goto (tgt := 35) hx hb dX8_oldest_31 (by decide) ?_
        refine lv_istore_n (lv' := [(1, .int (g 9)), (2, .int (nI 2)), (0, .ref xo)]) hx hb dX8_oldest_35 rfl hl (by decide) rfl (fun ls hl => ?_)
        refine rn_inc (a := 2) (d := 1) (lv' := [(2, .int (nI 3)), (1, .int (g 9)), (0, .ref xo)]) hx hb dX8_oldest_36 hl (k := 1) rfl (by decide) (by decide) rfl (fun ls hl => ?_)
        refine lv_goto (tgt := 4) hx hb dX8_oldest_39 (by decide) ?_
        refine lv_iload_n hx hb dX8_oldest_4 rfl (lv_at hl 0 rfl) ?_
        refine lv_iconst (v := nI 3) hx hb dX8_oldest_5 (by decide) ?_
        refine rn_icmp_ge (a := 3) (b := 3) (tgt := 42) hx hb (by omega) (by omega) dX8_oldest_6 (by decide) (fun c_8 => ?_) (fun c_8 => absurd c_8 (by omega))
        refine lv_iload_n hx hb dX8_oldest_42 rfl (lv_at hl 1 rfl) ?_
        exact hret _ _ _ _ _ _ (by rw [mOl, if_pos c_2, if_pos c_4, if_neg c_6]) rfl rfl hP hS dX8_oldest_43
    · refine lv_aload_n hx hb dX8_oldest_22 rfl (lv_at hl 2 rfl) ?_
      refine va_get (D := E.1) (ci := 5) (v := .ref st) (C := RX8) (T := TX8) (N := 11) hx hb hts inb_X8 hown hK hP 0 rfl rfl 0 (by decide) (hts _ bw_710) (fun _ h9 => h9) rfl dX8_oldest_23 ?_
      refine lv_bipush (v := nI 7) hx hb dX8_oldest_26 (by decide) ?_
      refine lv_iload_n hx hb dX8_oldest_28 rfl (lv_at hl 0 rfl) ?_
      refine rn_add (a := 7) (b := 1) hx hb dX8_oldest_29 ?_
      refine rn_iald (i := 8) hx hb hK hP 1 0 rfl rfl (by omega) (by omega) dX8_oldest_30 ?_
      refine lv_goto (tgt := 35) hx hb dX8_oldest_31 (by decide) ?_
      refine lv_istore_n (lv' := [(1, .int (g 8)), (2, .int (nI 1)), (0, .ref xo)]) hx hb dX8_oldest_35 rfl hl (by decide) rfl (fun ls hl => ?_)
      refine rn_inc (a := 1) (d := 1) (lv' := [(2, .int (nI 2)), (1, .int (g 8)), (0, .ref xo)]) hx hb dX8_oldest_36 hl (k := 1) rfl (by decide) (by decide) rfl (fun ls hl => ?_)
      refine lv_goto (tgt := 4) hx hb dX8_oldest_39 (by decide) ?_
      refine lv_iload_n hx hb dX8_oldest_4 rfl (lv_at hl 0 rfl) ?_
      refine lv_iconst (v := nI 3) hx hb dX8_oldest_5 (by decide) ?_
      refine rn_icmp_ge (a := 2) (b := 3) (tgt := 42) hx hb (by omega) (by omega) dX8_oldest_6 (by decide) (fun c_9 => absurd c_9 (by omega)) (fun c_9 => ?_)
      refine lv_aload_n hx hb dX8_oldest_9 rfl (lv_at hl 2 rfl) ?_
      refine va_get (D := E.1) (ci := 5) (v := .ref st) (C := RX8) (T := TX8) (N := 11) hx hb hts inb_X8 hown hK hP 0 rfl rfl 0 (by decide) (hts _ bw_710) (fun _ h9 => h9) rfl dX8_oldest_10 ?_
      refine lv_bipush (v := nI 7) hx hb dX8_oldest_13 (by decide) ?_
      refine lv_iload_n hx hb dX8_oldest_15 rfl (lv_at hl 0 rfl) ?_
      refine rn_add (a := 7) (b := 2) hx hb dX8_oldest_16 ?_
      refine rn_iald (i := 9) hx hb hK hP 1 0 rfl rfl (by omega) (by omega) dX8_oldest_17 ?_
      refine lv_iload_n hx hb dX8_oldest_18 rfl (lv_at hl 1 rfl) ?_
      refine lv_icmp_le (tgt := 34) hx hb dX8_oldest_19 (by decide) (fun c_10 => ?_) (fun c_10 => ?_)
      · refine lv_iload_n hx hb dX8_oldest_34 rfl (lv_at hl 1 rfl) ?_
        refine lv_istore_n (lv' := [(1, .int (g 8)), (2, .int (nI 2)), (0, .ref xo)]) hx hb dX8_oldest_35 rfl hl (by decide) rfl (fun ls hl => ?_)
        refine rn_inc (a := 2) (d := 1) (lv' := [(2, .int (nI 3)), (1, .int (g 8)), (0, .ref xo)]) hx hb dX8_oldest_36 hl (k := 1) rfl (by decide) (by decide) rfl (fun ls hl => ?_)
        refine lv_goto (tgt := 4) hx hb dX8_oldest_39 (by decide) ?_
        refine lv_iload_n hx hb dX8_oldest_4 rfl (lv_at hl 0 rfl) ?_
        refine lv_iconst (v := nI 3) hx hb dX8_oldest_5 (by decide) ?_
        refine rn_icmp_ge (a := 3) (b := 3) (tgt := 42) hx hb (by omega) (by omega) dX8_oldest_6 (by decide) (fun c_11 => ?_) (fun c_11 => absurd c_11 (by omega))
        refine lv_iload_n hx hb dX8_oldest_42 rfl (lv_at hl 1 rfl) ?_
        exact hret _ _ _ _ _ _ (by rw [mOl, if_pos c_2, if_neg c_4, if_pos c_10]) rfl rfl hP hS dX8_oldest_43
      · refine lv_aload_n hx hb dX8_oldest_22 rfl (lv_at hl 2 rfl) ?_
        refine va_get (D := E.1) (ci := 5) (v := .ref st) (C := RX8) (T := TX8) (N := 11) hx hb hts inb_X8 hown hK hP 0 rfl rfl 0 (by decide) (hts _ bw_710) (fun _ h9 => h9) rfl dX8_oldest_23 ?_
        refine lv_bipush (v := nI 7) hx hb dX8_oldest_26 (by decide) ?_
        refine lv_iload_n hx hb dX8_oldest_28 rfl (lv_at hl 0 rfl) ?_
        refine rn_add (a := 7) (b := 2) hx hb dX8_oldest_29 ?_
        refine rn_iald (i := 9) hx hb hK hP 1 0 rfl rfl (by omega) (by omega) dX8_oldest_30 ?_
        refine lv_goto (tgt := 35) hx hb dX8_oldest_31 (by decide) ?_
        refine lv_istore_n (lv' := [(1, .int (g 9)), (2, .int (nI 2)), (0, .ref xo)]) hx hb dX8_oldest_35 rfl hl (by decide) rfl (fun ls hl => ?_)
        refine rn_inc (a := 2) (d := 1) (lv' := [(2, .int (nI 3)), (1, .int (g 9)), (0, .ref xo)]) hx hb dX8_oldest_36 hl (k := 1) rfl (by decide) (by decide) rfl (fun ls hl => ?_)
        refine lv_goto (tgt := 4) hx hb dX8_oldest_39 (by decide) ?_
        refine lv_iload_n hx hb dX8_oldest_4 rfl (lv_at hl 0 rfl) ?_
        refine lv_iconst (v := nI 3) hx hb dX8_oldest_5 (by decide) ?_
        refine rn_icmp_ge (a := 3) (b := 3) (tgt := 42) hx hb (by omega) (by omega) dX8_oldest_6 (by decide) (fun c_12 => ?_) (fun c_12 => absurd c_12 (by omega))
        refine lv_iload_n hx hb dX8_oldest_42 rfl (lv_at hl 1 rfl) ?_
        exact hret _ _ _ _ _ _ (by rw [mOl, if_pos c_2, if_neg c_4, if_neg c_10]) rfl rfl hP hS dX8_oldest_43
  · refine lv_aload_n hx hb dX8_oldest_22 rfl (lv_at hl 2 rfl) ?_
    refine va_get (D := E.1) (ci := 5) (v := .ref st) (C := RX8) (T := TX8) (N := 11) hx hb hts inb_X8 hown hK hP 0 rfl rfl 0 (by decide) (hts _ bw_710) (fun _ h9 => h9) rfl dX8_oldest_23 ?_
    refine lv_bipush (v := nI 7) hx hb dX8_oldest_26 (by decide) ?_
    refine lv_iload_n hx hb dX8_oldest_28 rfl (lv_at hl 0 rfl) ?_
    refine rn_add (a := 7) (b := 0) hx hb dX8_oldest_29 ?_
    refine rn_iald (i := 7) hx hb hK hP 1 0 rfl rfl (by omega) (by omega) dX8_oldest_30 ?_
    refine lv_goto (tgt := 35) hx hb dX8_oldest_31 (by decide) ?_
    refine lv_istore_n (lv' := [(1, .int (g 7)), (2, .int (nI 0)), (0, .ref xo)]) hx hb dX8_oldest_35 rfl hl (by decide) rfl (fun ls hl => ?_)
    refine rn_inc (a := 0) (d := 1) (lv' := [(2, .int (nI 1)), (1, .int (g 7)), (0, .ref xo)]) hx hb dX8_oldest_36 hl (k := 1) rfl (by decide) (by decide) rfl (fun ls hl => ?_)
    refine lv_goto (tgt := 4) hx hb dX8_oldest_39 (by decide) ?_
    refine lv_iload_n hx hb dX8_oldest_4 rfl (lv_at hl 0 rfl) ?_
    refine lv_iconst (v := nI 3) hx hb dX8_oldest_5 (by decide) ?_
    refine rn_icmp_ge (a := 1) (b := 3) (tgt := 42) hx hb (by omega) (by omega) dX8_oldest_6 (by decide) (fun c_13 => absurd c_13 (by omega)) (fun c_13 => ?_)
    refine lv_aload_n hx hb dX8_oldest_9 rfl (lv_at hl 2 rfl) ?_
    refine va_get (D := E.1) (ci := 5) (v := .ref st) (C := RX8) (T := TX8) (N := 11) hx hb hts inb_X8 hown hK hP 0 rfl rfl 0 (by decide) (hts _ bw_710) (fun _ h9 => h9) rfl dX8_oldest_10 ?_
    refine lv_bipush (v := nI 7) hx hb dX8_oldest_13 (by decide) ?_
    refine lv_iload_n hx hb dX8_oldest_15 rfl (lv_at hl 0 rfl) ?_
    refine rn_add (a := 7) (b := 1) hx hb dX8_oldest_16 ?_
    refine rn_iald (i := 8) hx hb hK hP 1 0 rfl rfl (by omega) (by omega) dX8_oldest_17 ?_
    refine lv_iload_n hx hb dX8_oldest_18 rfl (lv_at hl 1 rfl) ?_
    refine lv_icmp_le (tgt := 34) hx hb dX8_oldest_19 (by decide) (fun c_14 => ?_) (fun c_14 => ?_)
    · refine lv_iload_n hx hb dX8_oldest_34 rfl (lv_at hl 1 rfl) ?_
      refine lv_istore_n (lv' := [(1, .int (g 7)), (2, .int (nI 1)), (0, .ref xo)]) hx hb dX8_oldest_35 rfl hl (by decide) rfl (fun ls hl => ?_)
      refine rn_inc (a := 1) (d := 1) (lv' := [(2, .int (nI 2)), (1, .int (g 7)), (0, .ref xo)]) hx hb dX8_oldest_36 hl (k := 1) rfl (by decide) (by decide) rfl (fun ls hl => ?_)
      refine lv_goto (tgt := 4) hx hb dX8_oldest_39 (by decide) ?_
      refine lv_iload_n hx hb dX8_oldest_4 rfl (lv_at hl 0 rfl) ?_
      refine lv_iconst (v := nI 3) hx hb dX8_oldest_5 (by decide) ?_
      refine rn_icmp_ge (a := 2) (b := 3) (tgt := 42) hx hb (by omega) (by omega) dX8_oldest_6 (by decide) (fun c_15 => absurd c_15 (by omega)) (fun c_15 => ?_)
      refine lv_aload_n hx hb dX8_oldest_9 rfl (lv_at hl 2 rfl) ?_
      refine va_get (D := E.1) (ci := 5) (v := .ref st) (C := RX8) (T := TX8) (N := 11) hx hb hts inb_X8 hown hK hP 0 rfl rfl 0 (by decide) (hts _ bw_710) (fun _ h9 => h9) rfl dX8_oldest_10 ?_
      refine lv_bipush (v := nI 7) hx hb dX8_oldest_13 (by decide) ?_
      refine lv_iload_n hx hb dX8_oldest_15 rfl (lv_at hl 0 rfl) ?_
      refine rn_add (a := 7) (b := 2) hx hb dX8_oldest_16 ?_
      refine rn_iald (i := 9) hx hb hK hP 1 0 rfl rfl (by omega) (by omega) dX8_oldest_17 ?_
      refine lv_iload_n hx hb dX8_oldest_18 rfl (lv_at hl 1 rfl) ?_
      refine lv_icmp_le (tgt := 34) hx hb dX8_oldest_19 (by decide) (fun c_16 => ?_) (fun c_16 => ?_)
      · refine lv_iload_n hx hb dX8_oldest_34 rfl (lv_at hl 1 rfl) ?_
        refine lv_istore_n (lv' := [(1, .int (g 7)), (2, .int (nI 2)), (0, .ref xo)]) hx hb dX8_oldest_35 rfl hl (by decide) rfl (fun ls hl => ?_)
        refine rn_inc (a := 2) (d := 1) (lv' := [(2, .int (nI 3)), (1, .int (g 7)), (0, .ref xo)]) hx hb dX8_oldest_36 hl (k := 1) rfl (by decide) (by decide) rfl (fun ls hl => ?_)
        refine lv_goto (tgt := 4) hx hb dX8_oldest_39 (by decide) ?_
        refine lv_iload_n hx hb dX8_oldest_4 rfl (lv_at hl 0 rfl) ?_
        refine lv_iconst (v := nI 3) hx hb dX8_oldest_5 (by decide) ?_
        refine rn_icmp_ge (a := 3) (b := 3) (tgt := 42) hx hb (by omega) (by omega) dX8_oldest_6 (by decide) (fun c_17 => ?_) (fun c_17 => absurd c_17 (by omega))
        refine lv_iload_n hx hb dX8_oldest_42 rfl (lv_at hl 1 rfl) ?_
        exact hret _ _ _ _ _ _ (by rw [mOl, if_neg c_2, if_pos c_14, if_pos c_16]) rfl rfl hP hS dX8_oldest_43
      · refine lv_aload_n hx hb dX8_oldest_22 rfl (lv_at hl 2 rfl) ?_
        refine va_get (D := E.1) (ci := 5) (v := .ref st) (C := RX8) (T := TX8) (N := 11) hx hb hts inb_X8 hown hK hP 0 rfl rfl 0 (by decide) (hts _ bw_710) (fun _ h9 => h9) rfl dX8_oldest_23 ?_
        refine lv_bipush (v := nI 7) hx hb dX8_oldest_26 (by decide) ?_
        refine lv_iload_n hx hb dX8_oldest_28 rfl (lv_at hl 0 rfl) ?_
        refine rn_add (a := 7) (b := 2) hx hb dX8_oldest_29 ?_
        refine rn_iald (i := 9) hx hb hK hP 1 0 rfl rfl (by omega) (by omega) dX8_oldest_30 ?_
        refine lv_goto (tgt := 35) hx hb dX8_oldest_31 (by decide) ?_
        refine lv_istore_n (lv' := [(1, .int (g 9)), (2, .int (nI 2)), (0, .ref xo)]) hx hb dX8_oldest_35 rfl hl (by decide) rfl (fun ls hl => ?_)
        refine rn_inc (a := 2) (d := 1) (lv' := [(2, .int (nI 3)), (1, .int (g 9)), (0, .ref xo)]) hx hb dX8_oldest_36 hl (k := 1) rfl (by decide) (by decide) rfl (fun ls hl => ?_)
        refine lv_goto (tgt := 4) hx hb dX8_oldest_39 (by decide) ?_
        refine lv_iload_n hx hb dX8_oldest_4 rfl (lv_at hl 0 rfl) ?_
        refine lv_iconst (v := nI 3) hx hb dX8_oldest_5 (by decide) ?_
        refine rn_icmp_ge (a := 3) (b := 3) (tgt := 42) hx hb (by omega) (by omega) dX8_oldest_6 (by decide) (fun c_18 => ?_) (fun c_18 => absurd c_18 (by omega))
        refine lv_iload_n hx hb dX8_oldest_42 rfl (lv_at hl 1 rfl) ?_
        exact hret _ _ _ _ _ _ (by rw [mOl, if_neg c_2, if_pos c_14, if_neg c_16]) rfl rfl hP hS dX8_oldest_43
    · refine lv_aload_n hx hb dX8_oldest_22 rfl (lv_at hl 2 rfl) ?_
      refine va_get (D := E.1) (ci := 5) (v := .ref st) (C := RX8) (T := TX8) (N := 11) hx hb hts inb_X8 hown hK hP 0 rfl rfl 0 (by decide) (hts _ bw_710) (fun _ h9 => h9) rfl dX8_oldest_23 ?_
      refine lv_bipush (v := nI 7) hx hb dX8_oldest_26 (by decide) ?_
      refine lv_iload_n hx hb dX8_oldest_28 rfl (lv_at hl 0 rfl) ?_
      refine rn_add (a := 7) (b := 1) hx hb dX8_oldest_29 ?_
      refine rn_iald (i := 8) hx hb hK hP 1 0 rfl rfl (by omega) (by omega) dX8_oldest_30 ?_
      refine lv_goto (tgt := 35) hx hb dX8_oldest_31 (by decide) ?_
      refine lv_istore_n (lv' := [(1, .int (g 8)), (2, .int (nI 1)), (0, .ref xo)]) hx hb dX8_oldest_35 rfl hl (by decide) rfl (fun ls hl => ?_)
      refine rn_inc (a := 1) (d := 1) (lv' := [(2, .int (nI 2)), (1, .int (g 8)), (0, .ref xo)]) hx hb dX8_oldest_36 hl (k := 1) rfl (by decide) (by decide) rfl (fun ls hl => ?_)
      refine lv_goto (tgt := 4) hx hb dX8_oldest_39 (by decide) ?_
      refine lv_iload_n hx hb dX8_oldest_4 rfl (lv_at hl 0 rfl) ?_
      refine lv_iconst (v := nI 3) hx hb dX8_oldest_5 (by decide) ?_
      refine rn_icmp_ge (a := 2) (b := 3) (tgt := 42) hx hb (by omega) (by omega) dX8_oldest_6 (by decide) (fun c_19 => absurd c_19 (by omega)) (fun c_19 => ?_)
      refine lv_aload_n hx hb dX8_oldest_9 rfl (lv_at hl 2 rfl) ?_
      refine va_get (D := E.1) (ci := 5) (v := .ref st) (C := RX8) (T := TX8) (N := 11) hx hb hts inb_X8 hown hK hP 0 rfl rfl 0 (by decide) (hts _ bw_710) (fun _ h9 => h9) rfl dX8_oldest_10 ?_
      refine lv_bipush (v := nI 7) hx hb dX8_oldest_13 (by decide) ?_
      refine lv_iload_n hx hb dX8_oldest_15 rfl (lv_at hl 0 rfl) ?_
      refine rn_add (a := 7) (b := 2) hx hb dX8_oldest_16 ?_
      refine rn_iald (i := 9) hx hb hK hP 1 0 rfl rfl (by omega) (by omega) dX8_oldest_17 ?_
      refine lv_iload_n hx hb dX8_oldest_18 rfl (lv_at hl 1 rfl) ?_
      refine lv_icmp_le (tgt := 34) hx hb dX8_oldest_19 (by decide) (fun c_20 => ?_) (fun c_20 => ?_)
      · refine lv_iload_n hx hb dX8_oldest_34 rfl (lv_at hl 1 rfl) ?_
        refine lv_istore_n (lv' := [(1, .int (g 8)), (2, .int (nI 2)), (0, .ref xo)]) hx hb dX8_oldest_35 rfl hl (by decide) rfl (fun ls hl => ?_)
        refine rn_inc (a := 2) (d := 1) (lv' := [(2, .int (nI 3)), (1, .int (g 8)), (0, .ref xo)]) hx hb dX8_oldest_36 hl (k := 1) rfl (by decide) (by decide) rfl (fun ls hl => ?_)
        refine lv_goto (tgt := 4) hx hb dX8_oldest_39 (by decide) ?_
        refine lv_iload_n hx hb dX8_oldest_4 rfl (lv_at hl 0 rfl) ?_
        refine lv_iconst (v := nI 3) hx hb dX8_oldest_5 (by decide) ?_
        refine rn_icmp_ge (a := 3) (b := 3) (tgt := 42) hx hb (by omega) (by omega) dX8_oldest_6 (by decide) (fun c_21 => ?_) (fun c_21 => absurd c_21 (by omega))
        refine lv_iload_n hx hb dX8_oldest_42 rfl (lv_at hl 1 rfl) ?_
        exact hret _ _ _ _ _ _ (by rw [mOl, if_neg c_2, if_neg c_14, if_pos c_20]) rfl rfl hP hS dX8_oldest_43
      · refine lv_aload_n hx hb dX8_oldest_22 rfl (lv_at hl 2 rfl) ?_
        refine va_get (D := E.1) (ci := 5) (v := .ref st) (C := RX8) (T := TX8) (N := 11) hx hb hts inb_X8 hown hK hP 0 rfl rfl 0 (by decide) (hts _ bw_710) (fun _ h9 => h9) rfl dX8_oldest_23 ?_
        refine lv_bipush (v := nI 7) hx hb dX8_oldest_26 (by decide) ?_
        refine lv_iload_n hx hb dX8_oldest_28 rfl (lv_at hl 0 rfl) ?_
        refine rn_add (a := 7) (b := 2) hx hb dX8_oldest_29 ?_
        refine rn_iald (i := 9) hx hb hK hP 1 0 rfl rfl (by omega) (by omega) dX8_oldest_30 ?_
        refine lv_goto (tgt := 35) hx hb dX8_oldest_31 (by decide) ?_
        refine lv_istore_n (lv' := [(1, .int (g 9)), (2, .int (nI 2)), (0, .ref xo)]) hx hb dX8_oldest_35 rfl hl (by decide) rfl (fun ls hl => ?_)
        refine rn_inc (a := 2) (d := 1) (lv' := [(2, .int (nI 3)), (1, .int (g 9)), (0, .ref xo)]) hx hb dX8_oldest_36 hl (k := 1) rfl (by decide) (by decide) rfl (fun ls hl => ?_)
        refine lv_goto (tgt := 4) hx hb dX8_oldest_39 (by decide) ?_
        refine lv_iload_n hx hb dX8_oldest_4 rfl (lv_at hl 0 rfl) ?_
        refine lv_iconst (v := nI 3) hx hb dX8_oldest_5 (by decide) ?_
        refine rn_icmp_ge (a := 3) (b := 3) (tgt := 42) hx hb (by omega) (by omega) dX8_oldest_6 (by decide) (fun c_22 => ?_) (fun c_22 => absurd c_22 (by omega))
        refine lv_iload_n hx hb dX8_oldest_42 rfl (lv_at hl 1 rfl) ?_
        exact hret _ _ _ _ _ _ (by rw [mOl, if_neg c_2, if_neg c_14, if_neg c_20]) rfl rfl hP hS dX8_oldest_43

theorem cd_X8_makesPrint : cdV RX8 yX8_makesPrint cX8_makesPrint 1 (some .int) 0 := ⟨⟨bw_881, bw_65, by decide, by decide, by decide +kernel⟩, bw_880, bw_26⟩
def mKv (g : Nat → Int32) (n : Nat) : Int32 := if n = 0 then (-5) else if mOl g + (mHo g n) ≤ nI 999 then mO1 (mSb (mKw g n) n) 20 else (-5)
def mQw (g : Nat → Int32) (n : Nat) : Nat → Int32 := if n = 0 then g else if mOl g + (mHo g n) ≤ nI 999 then (mKw g n) else g
set_option maxHeartbeats 4000000 in
set_option maxRecDepth 100000 in
theorem c_X8_makesPrint (l : Launch) (E : EV) (xo : Nat) (st : Nat) (sp : Nat) (th : Nat) (so : Nat) (sv : Nat) (pd : Nat) (nu : Nat) (sn : Nat) (ln : Nat) (ta : Nat) (sg : Int32) (g : Nat → Int32) (n : Nat) (hf : g 4 = nI n) (hn : n ≤ 20) : rcI l E yX8_makesPrint cX8_makesPrint 1 .int 5 [.ref xo] [(xo, .inr (5, [.ref st, .ref sp, .ref th, .int (nI sn), .ref so, .ref sv, .ref pd, .int (nI ln), .int (nI ta), .int sg, .ref nu])), (st, .inl (E.2.1, 293, .inl g))] (mKv g n) [(xo, .inr (5, [.ref st, .ref sp, .ref th, .int (nI sn), .ref so, .ref sv, .ref pd, .int (nI ln), .int (nI ta), .int sg, .ref nu])), (st, .inl (E.2.1, 293, .inl (mQw g n)))] := by
  refine rcI_of (by decide) (Nat.le_of_ble_eq_true rfl) ?_
  intro pg e s m below meth c Q A ls S hP hD0 hE hA hl hret
  have hx := S.1
  have hb := S.2.1
  have hown := S.2.2.2.1
  have hts := S.2.2.2.2
  have hK := hE.1
  have hS : va_S A s.heap s.heap [] := va_S.rf
  have hDa : va_Da A [xo, st] := ⟨_, hD0, rfl⟩
  have hl : lv_has ls 1 [(0, .ref xo)] := hl
  refine lv_aload_n hx hb dX8_makesPrint_0 rfl (lv_at hl 0 rfl) ?_
  refine va_get (D := E.1) (ci := 5) (v := .ref st) (C := RX8) (T := TX8) (N := 11) hx hb hts inb_X8 hown hK hP 0 rfl rfl 0 (by decide) (hts _ bw_710) (fun _ h9 => h9) rfl dX8_makesPrint_1 ?_
  refine lv_iconst (v := nI 4) hx hb dX8_makesPrint_4 (by decide) ?_
  refine rn_iald (i := 4) hx hb hK hP 1 0 rfl rfl (by omega) (by omega) dX8_makesPrint_5 ?_
  refine W.eq (congrArg (fun z => F0 m 6 ls (.int z :: [])) (show g 4 = nI n from hf)) ?_
  refine rn_if_eq (a := n) (tgt := 24) hx hb (by omega) dX8_makesPrint_6 (by decide) (fun c_1 => ?_) (fun c_1 => ?_)
  · refine lv_bipush (v := (-5)) hx hb dX8_makesPrint_24 (by decide) ?_
    exact hret _ _ _ _ _ _ (by rw [mKv, if_pos c_1]) (by rw [mQw, if_pos c_1]) rfl hP hS dX8_makesPrint_26
  · refine lv_aload_n hx hb dX8_makesPrint_9 rfl (lv_at hl 0 rfl) ?_
    refine rwV0 (rest := []) S (c_X8_oldest l E xo st sp th so sv pd nu sn ln ta sg g) cd_X8_oldest bw_882 ⟨Nat.le_of_ble_eq_true rfl, Nat.le_of_ble_eq_true rfl⟩ ⟨Nat.zero_le _, Nat.zero_le _⟩ hP (hDa.to rfl) hE hA hS [0, 1] rfl rfl [xo, st] rfl rfl (ci := 5) rfl (q0 := 0) rfl (Nat.le_of_ble_eq_true rfl) hl.1 dX8_makesPrint_10 (fun H locs hP _ hS => ?_)
    have hP : va_P E.1 vwCl [(xo, .inr (5, [.ref st, .ref sp, .ref th, .int (nI sn), .ref so, .ref sv, .ref pd, .int (nI ln), .int (nI ta), .int sg, .ref nu])), (st, .inl (E.2.1, 293, .inl g))] H := hP
    refine lv_aload_n hx hb dX8_makesPrint_13 rfl (lv_at hl 0 rfl) ?_
    refine rwV0 (rest := [.int (mOl g)]) S (c_X8_hours l E xo st sp th so sv pd nu sn ln ta sg g n hf hn) cd_X8_hours bw_886 ⟨Nat.le_of_ble_eq_true rfl, Nat.le_of_ble_eq_true rfl⟩ ⟨Nat.zero_le _, Nat.zero_le _⟩ hP (hDa.to rfl) hE hA hS [0, 1] rfl rfl [xo, st] rfl rfl (ci := 5) rfl (q0 := 0) rfl (Nat.le_of_ble_eq_true rfl) hl.1 dX8_makesPrint_14 (fun H locs hP _ hS => ?_)
    have hP : va_P E.1 vwCl [(xo, .inr (5, [.ref st, .ref sp, .ref th, .int (nI sn), .ref so, .ref sv, .ref pd, .int (nI ln), .int (nI ta), .int sg, .ref nu])), (st, .inl (E.2.1, 293, .inl g))] H := hP
    refine lv_iadd hx hb dX8_makesPrint_17 ?_
    refine lv_sipush (v := nI 999) hx hb dX8_makesPrint_18 (by decide) ?_
    refine lv_icmp_le (tgt := 27) hx hb dX8_makesPrint_21 (by decide) (fun c_2 => ?_) (fun c_2 => ?_)
    · refine lv_aload_n hx hb dX8_makesPrint_27 rfl (lv_at hl 0 rfl) ?_
      refine rwVv0 (rest := []) S (c_X8_makePrint l E xo st sp th so sv pd nu sn ln ta sg g n hf hn) cd_X8_makePrint bw_894 ⟨Nat.le_of_ble_eq_true rfl, Nat.le_of_ble_eq_true rfl⟩ ⟨Nat.zero_le _, Nat.zero_le _⟩ hP (hDa.to rfl) hE hA hS [0, 1] rfl rfl [xo, st] rfl rfl (ci := 5) rfl (q0 := 0) rfl (Nat.le_of_ble_eq_true rfl) hl.1 dX8_makesPrint_28 (fun H locs hP _ hS => ?_)
      have hP : va_P E.1 vwCl [(xo, .inr (5, [.ref st, .ref sp, .ref th, .int (nI sn), .ref so, .ref sv, .ref pd, .int (nI ln), .int (nI ta), .int sg, .ref nu])), (st, .inl (E.2.1, 293, .inl (mKw g n)))] H := hP
      refine lv_aload_n hx hb dX8_makesPrint_31 rfl (lv_at hl 0 rfl) ?_
      refine rwV0 (rest := []) S (c_X8_badOnes l E xo st sp th so sv pd nu sn ln ta sg (mKw g n) n ((mKw_4 g n).trans hf) hn) cd_X8_badOnes bw_917 ⟨Nat.le_of_ble_eq_true rfl, Nat.le_of_ble_eq_true rfl⟩ ⟨Nat.zero_le _, Nat.zero_le _⟩ hP (hDa.to rfl) hE hA hS [0, 1] rfl rfl [xo, st] rfl rfl (ci := 5) rfl (q0 := 0) rfl (Nat.le_of_ble_eq_true rfl) hl.1 dX8_makesPrint_32 (fun H locs hP _ hS => ?_)
      have hP : va_P E.1 vwCl [(xo, .inr (5, [.ref st, .ref sp, .ref th, .int (nI sn), .ref so, .ref sv, .ref pd, .int (nI ln), .int (nI ta), .int sg, .ref nu])), (st, .inl (E.2.1, 293, .inl (mKw g n)))] H := hP
      refine rwS1 (rest := []) S (c_X8_ones l E (mSb (mKw g n) n)) cd_X8_ones bw_925 ⟨Nat.le_of_ble_eq_true rfl, Nat.le_of_ble_eq_true rfl⟩ ⟨Nat.zero_le _, Nat.zero_le _⟩ hP (hDa.to rfl) hE hA hS [] rfl rfl [] rfl rfl (Nat.le_of_ble_eq_true rfl) hl.1 dX8_makesPrint_35 (fun H locs hP _ hS => ?_)
      have hP : va_P E.1 vwCl [(xo, .inr (5, [.ref st, .ref sp, .ref th, .int (nI sn), .ref so, .ref sv, .ref pd, .int (nI ln), .int (nI ta), .int sg, .ref nu])), (st, .inl (E.2.1, 293, .inl (mKw g n)))] H := hP
      exact hret _ _ _ _ _ _ (by rw [mKv, if_neg c_1, if_pos c_2]) (by rw [mQw, if_neg c_1, if_pos c_2]) rfl hP hS dX8_makesPrint_38
    · refine lv_bipush (v := (-5)) hx hb dX8_makesPrint_24 (by decide) ?_
      exact hret _ _ _ _ _ _ (by rw [mKv, if_neg c_1, if_neg c_2]) (by rw [mQw, if_neg c_1, if_neg c_2]) rfl hP hS dX8_makesPrint_26

def mGv (g : Nat → Int32) (p co : Nat) : Int32 := if 0 ≤ g (13 + 14 * p + (11 + co)) then g (13 + 14 * p + (7 + co)) - mAb (g (13 + 14 * p + (11 + co))) / g 0 * g 0 else g (13 + 14 * p + (7 + co)) + mAb (g (13 + 14 * p + (11 + co))) / g 0 * g 0
def mGw (g : Nat → Int32) (p : Nat) : Nat → Nat → Int32
  | 0 => g
  | co + 1 => upd (mGw g p co) (13 + 14 * p + (7 + co)) (mBd (mGv (mGw g p co) p co))
theorem mGw_p {g : Nat → Int32} {p co : Nat} (h : 0 ≤ mGw g p co (13 + 14 * p + (11 + co))) : mGw g p (co + 1) = upd (mGw g p co) (13 + 14 * p + (7 + co)) (mBd (mGw g p co (13 + 14 * p + (7 + co)) - mAb (mGw g p co (13 + 14 * p + (11 + co))) / mGw g p co 0 * mGw g p co 0)) := by rw [mGw, mGv, if_pos h]
theorem mGw_n {g : Nat → Int32} {p co : Nat} (h : ¬ 0 ≤ mGw g p co (13 + 14 * p + (11 + co))) : mGw g p (co + 1) = upd (mGw g p co) (13 + 14 * p + (7 + co)) (mBd (mGw g p co (13 + 14 * p + (7 + co)) + mAb (mGw g p co (13 + 14 * p + (11 + co))) / mGw g p co 0 * mGw g p co 0)) := by rw [mGw, mGv, if_neg h]
theorem mGw_u (g : Nat → Int32) (p j : Nat) (h : j < 13) : ∀ co : Nat, mGw g p co j = g j
  | 0 => rfl
  | co + 1 => (pk_un (by omega)).trans (mGw_u g p j h co)
def mGp (g : Nat → Int32) (p : Nat) : Nat → Int32
  | 0 => nI 0
  | co + 1 => mGp g p co + mAb (mGw g p (co + 1) (13 + 14 * p + (7 + co)) - mGw g p co (13 + 14 * p + (7 + co)))
theorem mGp_s (g : Nat → Int32) (p co : Nat) : mGp g p (co + 1) = mGp g p co + mAb (mGw g p (co + 1) (13 + 14 * p + (7 + co)) - mGw g p co (13 + 14 * p + (7 + co))) := rfl
theorem cd_X8_correctOne : cdV RX8 yX8_correctOne cX8_correctOne 7 (some .int) 1 := ⟨⟨bw_939, bw_65, by decide, by decide, by decide +kernel⟩, bw_938, bw_38⟩
def mEv (g : Nat → Int32) (p : Nat) : Int32 := mGp g p 3
def mEw (g : Nat → Int32) (p : Nat) : Nat → Int32 := upd (mTa (mGw g p 3) p) 6 ((mTa (mGw g p 3) p) 6 + (mGp g p 3))
set_option maxHeartbeats 4000000 in
set_option maxRecDepth 100000 in
theorem c_X8_correctOne (l : Launch) (E : EV) (xo : Nat) (st : Nat) (sp : Nat) (th : Nat) (so : Nat) (sv : Nat) (pd : Nat) (nu : Nat) (sn : Nat) (ln : Nat) (ta : Nat) (sg : Int32) (g : Nat → Int32) (p : Nat) (hp : p < 20) (hst : ¬ g 0 = 0) : rcI l E yX8_correctOne cX8_correctOne 7 .int 2 [.ref xo, .int (nI p)] [(xo, .inr (5, [.ref st, .ref sp, .ref th, .int (nI sn), .ref so, .ref sv, .ref pd, .int (nI ln), .int (nI ta), .int sg, .ref nu])), (st, .inl (E.2.1, 293, .inl g))] (mEv g p) [(xo, .inr (5, [.ref st, .ref sp, .ref th, .int (nI sn), .ref so, .ref sv, .ref pd, .int (nI ln), .int (nI ta), .int sg, .ref nu])), (st, .inl (E.2.1, 293, .inl (mEw g p)))] := by
  refine rcI_of (by decide) (Nat.le_of_ble_eq_true rfl) ?_
  intro pg e s m below meth c Q A ls S hP hD0 hE hA hl hret
  have hx := S.1
  have hb := S.2.1
  have hown := S.2.2.2.1
  have hts := S.2.2.2.2
  have hK := hE.1
  have hS : va_S A s.heap s.heap [] := va_S.rf
  have hDa : va_Da A [xo, st] := ⟨_, hD0, rfl⟩
  have hl : lv_has ls 7 [(0, .ref xo), (1, .int (nI p))] := hl
  refine lv_iconst (v := nI 0) hx hb dX8_correctOne_0 (by decide) ?_
  refine lv_istore_n (lv' := [(2, .int (nI 0)), (0, .ref xo), (1, .int (nI p))]) hx hb dX8_correctOne_1 rfl hl (by decide) rfl (fun ls hl => ?_)
  refine lv_iconst (v := nI 0) hx hb dX8_correctOne_2 (by decide) ?_
  refine lv_istore_n (lv' := [(3, .int (nI 0)), (2, .int (nI 0)), (0, .ref xo), (1, .int (nI p))]) hx hb dX8_correctOne_3 rfl hl (by decide) rfl (fun ls hl => ?_)
  have loop4 : ∀ (fuel : Nat) (co : Nat), 3 - co < fuel → (co ≤ 3) → ∀ (H : Heap) (locs : List Loc), va_P E.1 vwCl [(xo, .inr (5, [.ref st, .ref sp, .ref th, .int (nI sn), .ref so, .ref sv, .ref pd, .int (nI ln), .int (nI ta), .int sg, .ref nu])), (st, .inl (E.2.1, 293, .inl (mGw g p co)))] H → va_S A s.heap H locs → ∀ ls : Array Slot, lv_has ls 7 [(3, .int (nI co)), (2, .int (mGp g p co)), (0, .ref xo), (1, .int (nI p))] → W pg l e (rq 2) s m ([.ref xo, .int (nI p)] : List Value).toArray below meth c H locs 0 0 Q (F0 m 4 ls []) := by
    intro fuel
    induction fuel with
    | zero => intro co h9; exact absurd h9 (Nat.not_lt_zero _)
    | succ fuel ih4 =>
      intro co hfu4 hco H locs hP hS ls hl
      refine lv_iload_n hx hb dX8_correctOne_4 rfl (lv_at hl 0 rfl) ?_
      refine lv_iconst (v := nI 3) hx hb dX8_correctOne_5 (by decide) ?_
      refine rn_icmp_ge (a := co) (b := 3) (tgt := 106) hx hb (by omega) (by omega) dX8_correctOne_6 (by decide) (fun c_1 => ?_) (fun c_1 => ?_)
      · have hex : 3 = co := by omega
        subst hex
        refine lv_aload_n hx hb dX8_correctOne_106 rfl (lv_at hl 2 rfl) ?_
        refine lv_iload_n hx hb dX8_correctOne_107 rfl (lv_at hl 3 rfl) ?_
        refine rwVv1 (rest := []) S (c_X8_takeAnswer l E xo st sp th so sv pd nu sn ln ta sg (mGw g p 3) p hp) cd_X8_takeAnswer bw_800 ⟨Nat.le_of_ble_eq_true rfl, Nat.le_of_ble_eq_true rfl⟩ ⟨Nat.zero_le _, Nat.zero_le _⟩ hP (hDa.to rfl) hE hA hS [0, 1] rfl rfl [xo, st] rfl rfl (ci := 5) rfl (q0 := 0) rfl (Nat.le_of_ble_eq_true rfl) hl.1 dX8_correctOne_108 (fun H locs hP _ hS => ?_)
        have hP : va_P E.1 vwCl [(xo, .inr (5, [.ref st, .ref sp, .ref th, .int (nI sn), .ref so, .ref sv, .ref pd, .int (nI ln), .int (nI ta), .int sg, .ref nu])), (st, .inl (E.2.1, 293, .inl (mTa (mGw g p 3) p)))] H := hP
        refine lv_aload_n hx hb dX8_correctOne_111 rfl (lv_at hl 2 rfl) ?_
        refine va_get (D := E.1) (ci := 5) (v := .ref st) (C := RX8) (T := TX8) (N := 11) hx hb hts inb_X8 hown hK hP 0 rfl rfl 0 (by decide) (hts _ bw_710) (fun _ h9 => h9) rfl dX8_correctOne_112 ?_
        refine lv_bipush (v := nI 6) hx hb dX8_correctOne_115 (by decide) ?_
        refine lv_dup2_11 hx hb dX8_correctOne_117 rfl rfl ?_
        refine rn_iald (i := 6) hx hb hK hP 1 0 rfl rfl (by omega) (by omega) dX8_correctOne_118 ?_
        refine lv_iload_n hx hb dX8_correctOne_119 rfl (lv_at hl 1 rfl) ?_
        refine lv_iadd hx hb dX8_correctOne_120 ?_
        refine rn_iast (i := 6) hx hb hK hP (hDa.to rfl) hS 1 0 rfl rfl (by omega) (by omega) dX8_correctOne_121 (fun H locs hP _ hS => ?_)
        have hP : va_P E.1 vwCl [(xo, .inr (5, [.ref st, .ref sp, .ref th, .int (nI sn), .ref so, .ref sv, .ref pd, .int (nI ln), .int (nI ta), .int sg, .ref nu])), (st, .inl (E.2.1, 293, .inl (upd (mTa (mGw g p 3) p) 6 ((mTa (mGw g p 3) p) 6 + (mGp g p 3)))))] H := hP
        refine lv_iload_n hx hb dX8_correctOne_122 rfl (lv_at hl 1 rfl) ?_
        exact hret _ _ _ _ _ _ (by rw [mEv]) (by rw [mEw]) rfl hP hS dX8_correctOne_123
      · refine lv_aload_n hx hb dX8_correctOne_9 rfl (lv_at hl 2 rfl) ?_
        refine lv_iload_n hx hb dX8_correctOne_10 rfl (lv_at hl 3 rfl) ?_
        refine lv_bipush (v := nI 11) hx hb dX8_correctOne_11 (by decide) ?_
        refine lv_iload_n hx hb dX8_correctOne_13 rfl (lv_at hl 0 rfl) ?_
        refine rn_add (a := 11) (b := co) hx hb dX8_correctOne_14 ?_
        refine rwV2 (rest := []) S (c_X8_of14 l E xo st sp th so sv pd nu sn ln ta sg (mGw g p co) p (11 + co) hp (by omega)) cd_X8_of14 bw_827 ⟨Nat.le_of_ble_eq_true rfl, Nat.le_of_ble_eq_true rfl⟩ ⟨Nat.zero_le _, Nat.zero_le _⟩ hP (hDa.to rfl) hE hA hS [0, 1] rfl rfl [xo, st] rfl rfl (ci := 5) rfl (q0 := 0) rfl (Nat.le_of_ble_eq_true rfl) hl.1 dX8_correctOne_15 (fun H locs hP _ hS => ?_)
        have hP : va_P E.1 vwCl [(xo, .inr (5, [.ref st, .ref sp, .ref th, .int (nI sn), .ref so, .ref sv, .ref pd, .int (nI ln), .int (nI ta), .int sg, .ref nu])), (st, .inl (E.2.1, 293, .inl (mGw g p co)))] H := hP
        refine lv_istore (lv' := [(4, .int ((mGw g p co) (13 + 14 * p + (11 + co)))), (3, .int (nI co)), (2, .int (mGp g p co)), (0, .ref xo), (1, .int (nI p))]) hx hb dX8_correctOne_18 hl (by decide) rfl (fun ls hl => ?_)
        refine lv_iload hx hb dX8_correctOne_20 (lv_at hl 0 rfl) ?_
        refine rwS1 (rest := []) S (c_X8_sizeOf l E ((mGw g p co) (13 + 14 * p + (11 + co)))) cd_X8_sizeOf bw_851 ⟨Nat.le_of_ble_eq_true rfl, Nat.le_of_ble_eq_true rfl⟩ ⟨Nat.zero_le _, Nat.zero_le _⟩ hP (hDa.to rfl) hE hA hS [] rfl rfl [] rfl rfl (Nat.le_of_ble_eq_true rfl) hl.1 dX8_correctOne_22 (fun H locs hP _ hS => ?_)
        have hP : va_P E.1 vwCl [(xo, .inr (5, [.ref st, .ref sp, .ref th, .int (nI sn), .ref so, .ref sv, .ref pd, .int (nI ln), .int (nI ta), .int sg, .ref nu])), (st, .inl (E.2.1, 293, .inl (mGw g p co)))] H := hP
        refine lv_aload_n hx hb dX8_correctOne_25 rfl (lv_at hl 3 rfl) ?_
        refine va_get (D := E.1) (ci := 5) (v := .ref st) (C := RX8) (T := TX8) (N := 11) hx hb hts inb_X8 hown hK hP 0 rfl rfl 0 (by decide) (hts _ bw_710) (fun _ h9 => h9) rfl dX8_correctOne_26 ?_
        refine lv_iconst (v := nI 0) hx hb dX8_correctOne_29 (by decide) ?_
        refine rn_iald (i := 0) hx hb hK hP 1 0 rfl rfl (by omega) (by omega) dX8_correctOne_30 ?_
        refine lv_idiv hx hb dX8_correctOne_31 (by rw [mGw_u g p 0 (by decide)]; exact hst) ?_
        refine lv_aload_n hx hb dX8_correctOne_32 rfl (lv_at hl 3 rfl) ?_
        refine va_get (D := E.1) (ci := 5) (v := .ref st) (C := RX8) (T := TX8) (N := 11) hx hb hts inb_X8 hown hK hP 0 rfl rfl 0 (by decide) (hts _ bw_710) (fun _ h9 => h9) rfl dX8_correctOne_33 ?_
        refine lv_iconst (v := nI 0) hx hb dX8_correctOne_36 (by decide) ?_
        refine rn_iald (i := 0) hx hb hK hP 1 0 rfl rfl (by omega) (by omega) dX8_correctOne_37 ?_
        refine lv_imul hx hb dX8_correctOne_38 ?_
        refine lv_istore (lv' := [(5, .int (((mAb ((mGw g p co) (13 + 14 * p + (11 + co)))) / ((mGw g p co) 0)) * ((mGw g p co) 0))), (4, .int ((mGw g p co) (13 + 14 * p + (11 + co)))), (3, .int (nI co)), (2, .int (mGp g p co)), (0, .ref xo), (1, .int (nI p))]) hx hb dX8_correctOne_39 hl (by decide) rfl (fun ls hl => ?_)
        refine lv_aload_n hx hb dX8_correctOne_41 rfl (lv_at hl 4 rfl) ?_
        refine lv_iload_n hx hb dX8_correctOne_42 rfl (lv_at hl 5 rfl) ?_
        refine lv_bipush (v := nI 7) hx hb dX8_correctOne_43 (by decide) ?_
        refine lv_iload_n hx hb dX8_correctOne_45 rfl (lv_at hl 2 rfl) ?_
        refine rn_add (a := 7) (b := co) hx hb dX8_correctOne_46 ?_
        refine rwV2 (rest := []) S (c_X8_of14 l E xo st sp th so sv pd nu sn ln ta sg (mGw g p co) p (7 + co) hp (by omega)) cd_X8_of14 bw_827 ⟨Nat.le_of_ble_eq_true rfl, Nat.le_of_ble_eq_true rfl⟩ ⟨Nat.zero_le _, Nat.zero_le _⟩ hP (hDa.to rfl) hE hA hS [0, 1] rfl rfl [xo, st] rfl rfl (ci := 5) rfl (q0 := 0) rfl (Nat.le_of_ble_eq_true rfl) hl.1 dX8_correctOne_47 (fun H locs hP _ hS => ?_)
        have hP : va_P E.1 vwCl [(xo, .inr (5, [.ref st, .ref sp, .ref th, .int (nI sn), .ref so, .ref sv, .ref pd, .int (nI ln), .int (nI ta), .int sg, .ref nu])), (st, .inl (E.2.1, 293, .inl (mGw g p co)))] H := hP
        refine lv_istore (lv' := [(6, .int ((mGw g p co) (13 + 14 * p + (7 + co)))), (5, .int (((mAb ((mGw g p co) (13 + 14 * p + (11 + co)))) / ((mGw g p co) 0)) * ((mGw g p co) 0))), (4, .int ((mGw g p co) (13 + 14 * p + (11 + co)))), (3, .int (nI co)), (2, .int (mGp g p co)), (0, .ref xo), (1, .int (nI p))]) hx hb dX8_correctOne_50 hl (by decide) rfl (fun ls hl => ?_)
        refine lv_aload_n hx hb dX8_correctOne_52 rfl (lv_at hl 5 rfl) ?_
        refine lv_iload_n hx hb dX8_correctOne_53 rfl (lv_at hl 6 rfl) ?_
        refine lv_bipush (v := nI 7) hx hb dX8_correctOne_54 (by decide) ?_
        refine lv_iload_n hx hb dX8_correctOne_56 rfl (lv_at hl 3 rfl) ?_
        refine rn_add (a := 7) (b := co) hx hb dX8_correctOne_57 ?_
        refine lv_iload hx hb dX8_correctOne_58 (lv_at hl 2 rfl) ?_
        refine lv_if_ge (tgt := 71) hx hb dX8_correctOne_60 (by decide) (fun c_2 => ?_) (fun c_2 => ?_)
        · refine lv_iload hx hb dX8_correctOne_71 (lv_at hl 0 rfl) ?_
          refine lv_iload hx hb dX8_correctOne_73 (lv_at hl 1 rfl) ?_
          refine lv_isub hx hb dX8_correctOne_75 ?_
          refine rwS1 (rest := [.int (nI (7 + co)), .int (nI p), .ref xo]) S (c_X8_bounded l E ((mGw g p co) (13 + 14 * p + (7 + co)) - (((mAb ((mGw g p co) (13 + 14 * p + (11 + co)))) / ((mGw g p co) 0)) * ((mGw g p co) 0)))) cd_X8_bounded bw_914 ⟨Nat.le_of_ble_eq_true rfl, Nat.le_of_ble_eq_true rfl⟩ ⟨Nat.zero_le _, Nat.zero_le _⟩ hP (hDa.to rfl) hE hA hS [] rfl rfl [] rfl rfl (Nat.le_of_ble_eq_true rfl) hl.1 dX8_correctOne_76 (fun H locs hP _ hS => ?_)
          have hP : va_P E.1 vwCl [(xo, .inr (5, [.ref st, .ref sp, .ref th, .int (nI sn), .ref so, .ref sv, .ref pd, .int (nI ln), .int (nI ta), .int sg, .ref nu])), (st, .inl (E.2.1, 293, .inl (mGw g p co)))] H := hP
          refine rwVv3 (rest := []) S (c_X8_setOf l E xo st sp th so sv pd nu sn ln ta sg (mGw g p co) p (7 + co) (mBd ((mGw g p co) (13 + 14 * p + (7 + co)) - (((mAb ((mGw g p co) (13 + 14 * p + (11 + co)))) / ((mGw g p co) 0)) * ((mGw g p co) 0)))) hp (by omega)) cd_X8_setOf bw_796 ⟨Nat.le_of_ble_eq_true rfl, Nat.le_of_ble_eq_true rfl⟩ ⟨Nat.zero_le _, Nat.zero_le _⟩ hP (hDa.to rfl) hE hA hS [0, 1] rfl rfl [xo, st] rfl rfl (ci := 5) rfl (q0 := 0) rfl (Nat.le_of_ble_eq_true rfl) hl.1 dX8_correctOne_79 (fun H locs hP _ hS => ?_)
          have hP : va_P E.1 vwCl [(xo, .inr (5, [.ref st, .ref sp, .ref th, .int (nI sn), .ref so, .ref sv, .ref pd, .int (nI ln), .int (nI ta), .int sg, .ref nu])), (st, .inl (E.2.1, 293, .inl (upd (mGw g p co) (13 + 14 * p + (7 + co)) (mBd ((mGw g p co) (13 + 14 * p + (7 + co)) - (((mAb ((mGw g p co) (13 + 14 * p + (11 + co)))) / ((mGw g p co) 0)) * ((mGw g p co) 0)))))))] H := hP
          refine lv_iload_n hx hb dX8_correctOne_82 rfl (lv_at hl 4 rfl) ?_
          refine lv_aload_n hx hb dX8_correctOne_83 rfl (lv_at hl 5 rfl) ?_
          refine lv_iload_n hx hb dX8_correctOne_84 rfl (lv_at hl 6 rfl) ?_
          refine lv_bipush (v := nI 7) hx hb dX8_correctOne_85 (by decide) ?_
          refine lv_iload_n hx hb dX8_correctOne_87 rfl (lv_at hl 3 rfl) ?_
          refine rn_add (a := 7) (b := co) hx hb dX8_correctOne_88 ?_
          refine rwV2 (rest := [.int (mGp g p co)]) S (c_X8_of14 l E xo st sp th so sv pd nu sn ln ta sg (upd (mGw g p co) (13 + 14 * p + (7 + co)) (mBd ((mGw g p co) (13 + 14 * p + (7 + co)) - (((mAb ((mGw g p co) (13 + 14 * p + (11 + co)))) / ((mGw g p co) 0)) * ((mGw g p co) 0))))) p (7 + co) hp (by omega)) cd_X8_of14 bw_827 ⟨Nat.le_of_ble_eq_true rfl, Nat.le_of_ble_eq_true rfl⟩ ⟨Nat.zero_le _, Nat.zero_le _⟩ hP (hDa.to rfl) hE hA hS [0, 1] rfl rfl [xo, st] rfl rfl (ci := 5) rfl (q0 := 0) rfl (Nat.le_of_ble_eq_true rfl) hl.1 dX8_correctOne_89 (fun H locs hP _ hS => ?_)
          have hP : va_P E.1 vwCl [(xo, .inr (5, [.ref st, .ref sp, .ref th, .int (nI sn), .ref so, .ref sv, .ref pd, .int (nI ln), .int (nI ta), .int sg, .ref nu])), (st, .inl (E.2.1, 293, .inl (upd (mGw g p co) (13 + 14 * p + (7 + co)) (mBd ((mGw g p co) (13 + 14 * p + (7 + co)) - (((mAb ((mGw g p co) (13 + 14 * p + (11 + co)))) / ((mGw g p co) 0)) * ((mGw g p co) 0)))))))] H := hP
          refine lv_iload hx hb dX8_correctOne_92 (lv_at hl 0 rfl) ?_
          refine lv_isub hx hb dX8_correctOne_94 ?_
          refine rwS1 (rest := [.int (mGp g p co)]) S (c_X8_sizeOf l E ((upd (mGw g p co) (13 + 14 * p + (7 + co)) (mBd ((mGw g p co) (13 + 14 * p + (7 + co)) - (((mAb ((mGw g p co) (13 + 14 * p + (11 + co)))) / ((mGw g p co) 0)) * ((mGw g p co) 0))))) (13 + 14 * p + (7 + co)) - ((mGw g p co) (13 + 14 * p + (7 + co))))) cd_X8_sizeOf bw_851 ⟨Nat.le_of_ble_eq_true rfl, Nat.le_of_ble_eq_true rfl⟩ ⟨Nat.zero_le _, Nat.zero_le _⟩ hP (hDa.to rfl) hE hA hS [] rfl rfl [] rfl rfl (Nat.le_of_ble_eq_true rfl) hl.1 dX8_correctOne_95 (fun H locs hP _ hS => ?_)
          have hP : va_P E.1 vwCl [(xo, .inr (5, [.ref st, .ref sp, .ref th, .int (nI sn), .ref so, .ref sv, .ref pd, .int (nI ln), .int (nI ta), .int sg, .ref nu])), (st, .inl (E.2.1, 293, .inl (upd (mGw g p co) (13 + 14 * p + (7 + co)) (mBd ((mGw g p co) (13 + 14 * p + (7 + co)) - (((mAb ((mGw g p co) (13 + 14 * p + (11 + co)))) / ((mGw g p co) 0)) * ((mGw g p co) 0)))))))] H := hP
          refine lv_iadd hx hb dX8_correctOne_98 ?_
          refine lv_istore_n (lv' := [(2, .int (mGp g p co + (mAb ((upd (mGw g p co) (13 + 14 * p + (7 + co)) (mBd ((mGw g p co) (13 + 14 * p + (7 + co)) - (((mAb ((mGw g p co) (13 + 14 * p + (11 + co)))) / ((mGw g p co) 0)) * ((mGw g p co) 0))))) (13 + 14 * p + (7 + co)) - ((mGw g p co) (13 + 14 * p + (7 + co))))))), (6, .int ((mGw g p co) (13 + 14 * p + (7 + co)))), (5, .int (((mAb ((mGw g p co) (13 + 14 * p + (11 + co)))) / ((mGw g p co) 0)) * ((mGw g p co) 0))), (4, .int ((mGw g p co) (13 + 14 * p + (11 + co)))), (3, .int (nI co)), (0, .ref xo), (1, .int (nI p))]) hx hb dX8_correctOne_99 rfl hl (by decide) rfl (fun ls hl => ?_)
          refine rn_inc (a := co) (d := 1) (lv' := [(3, .int (nI (co + 1))), (2, .int (mGp g p co + (mAb ((upd (mGw g p co) (13 + 14 * p + (7 + co)) (mBd ((mGw g p co) (13 + 14 * p + (7 + co)) - (((mAb ((mGw g p co) (13 + 14 * p + (11 + co)))) / ((mGw g p co) 0)) * ((mGw g p co) 0))))) (13 + 14 * p + (7 + co)) - ((mGw g p co) (13 + 14 * p + (7 + co))))))), (6, .int ((mGw g p co) (13 + 14 * p + (7 + co)))), (5, .int (((mAb ((mGw g p co) (13 + 14 * p + (11 + co)))) / ((mGw g p co) 0)) * ((mGw g p co) 0))), (4, .int ((mGw g p co) (13 + 14 * p + (11 + co)))), (0, .ref xo), (1, .int (nI p))]) hx hb dX8_correctOne_100 hl (k := 4) rfl (by decide) (by decide) rfl (fun ls hl => ?_)
          refine lv_goto (tgt := 4) hx hb dX8_correctOne_103 (by decide) ?_
          have hP : va_P E.1 vwCl [(xo, .inr (5, [.ref st, .ref sp, .ref th, .int (nI sn), .ref so, .ref sv, .ref pd, .int (nI ln), .int (nI ta), .int sg, .ref nu])), (st, .inl (E.2.1, 293, .inl (mGw g p (co + 1))))] H := by first | (rw [mGw_p c_2]; exact hP) | (rw [mGw_n c_2]; exact hP)
          have hl : lv_has ls 7 [(3, .int (nI (co + 1))), (2, .int (mGp g p co + (mAb ((upd (mGw g p co) (13 + 14 * p + (7 + co)) (mBd ((mGw g p co) (13 + 14 * p + (7 + co)) - (((mAb ((mGw g p co) (13 + 14 * p + (11 + co)))) / ((mGw g p co) 0)) * ((mGw g p co) 0))))) (13 + 14 * p + (7 + co)) - ((mGw g p co) (13 + 14 * p + (7 + co))))))), (0, .ref xo), (1, .int (nI p))] := lv_sub hl [0, 1, 5, 6] rfl
          have hl : lv_has ls 7 [(3, .int (nI (co + 1))), (2, .int (mGp g p (co + 1))), (0, .ref xo), (1, .int (nI p))] := by first | (rw [mGp_s, mGw_p c_2]; exact hl) | (rw [mGp_s, mGw_n c_2]; exact hl)
          exact ih4 (co + 1) (by omega) (by omega) _ _ hP hS _ hl
        · refine lv_iload hx hb dX8_correctOne_63 (lv_at hl 0 rfl) ?_
          refine lv_iload hx hb dX8_correctOne_65 (lv_at hl 1 rfl) ?_
          refine lv_iadd hx hb dX8_correctOne_67 ?_
          refine lv_goto (tgt := 76) hx hb dX8_correctOne_68 (by decide) ?_
          refine rwS1 (rest := [.int (nI (7 + co)), .int (nI p), .ref xo]) S (c_X8_bounded l E ((mGw g p co) (13 + 14 * p + (7 + co)) + (((mAb ((mGw g p co) (13 + 14 * p + (11 + co)))) / ((mGw g p co) 0)) * ((mGw g p co) 0)))) cd_X8_bounded bw_914 ⟨Nat.le_of_ble_eq_true rfl, Nat.le_of_ble_eq_true rfl⟩ ⟨Nat.zero_le _, Nat.zero_le _⟩ hP (hDa.to rfl) hE hA hS [] rfl rfl [] rfl rfl (Nat.le_of_ble_eq_true rfl) hl.1 dX8_correctOne_76 (fun H locs hP _ hS => ?_)
          have hP : va_P E.1 vwCl [(xo, .inr (5, [.ref st, .ref sp, .ref th, .int (nI sn), .ref so, .ref sv, .ref pd, .int (nI ln), .int (nI ta), .int sg, .ref nu])), (st, .inl (E.2.1, 293, .inl (mGw g p co)))] H := hP
          refine rwVv3 (rest := []) S (c_X8_setOf l E xo st sp th so sv pd nu sn ln ta sg (mGw g p co) p (7 + co) (mBd ((mGw g p co) (13 + 14 * p + (7 + co)) + (((mAb ((mGw g p co) (13 + 14 * p + (11 + co)))) / ((mGw g p co) 0)) * ((mGw g p co) 0)))) hp (by omega)) cd_X8_setOf bw_796 ⟨Nat.le_of_ble_eq_true rfl, Nat.le_of_ble_eq_true rfl⟩ ⟨Nat.zero_le _, Nat.zero_le _⟩ hP (hDa.to rfl) hE hA hS [0, 1] rfl rfl [xo, st] rfl rfl (ci := 5) rfl (q0 := 0) rfl (Nat.le_of_ble_eq_true rfl) hl.1 dX8_correctOne_79 (fun H locs hP _ hS => ?_)
          have hP : va_P E.1 vwCl [(xo, .inr (5, [.ref st, .ref sp, .ref th, .int (nI sn), .ref so, .ref sv, .ref pd, .int (nI ln), .int (nI ta), .int sg, .ref nu])), (st, .inl (E.2.1, 293, .inl (upd (mGw g p co) (13 + 14 * p + (7 + co)) (mBd ((mGw g p co) (13 + 14 * p + (7 + co)) + (((mAb ((mGw g p co) (13 + 14 * p + (11 + co)))) / ((mGw g p co) 0)) * ((mGw g p co) 0)))))))] H := hP
          refine lv_iload_n hx hb dX8_correctOne_82 rfl (lv_at hl 4 rfl) ?_
          refine lv_aload_n hx hb dX8_correctOne_83 rfl (lv_at hl 5 rfl) ?_
          refine lv_iload_n hx hb dX8_correctOne_84 rfl (lv_at hl 6 rfl) ?_
          refine lv_bipush (v := nI 7) hx hb dX8_correctOne_85 (by decide) ?_
          refine lv_iload_n hx hb dX8_correctOne_87 rfl (lv_at hl 3 rfl) ?_
          refine rn_add (a := 7) (b := co) hx hb dX8_correctOne_88 ?_
          refine rwV2 (rest := [.int (mGp g p co)]) S (c_X8_of14 l E xo st sp th so sv pd nu sn ln ta sg (upd (mGw g p co) (13 + 14 * p + (7 + co)) (mBd ((mGw g p co) (13 + 14 * p + (7 + co)) + (((mAb ((mGw g p co) (13 + 14 * p + (11 + co)))) / ((mGw g p co) 0)) * ((mGw g p co) 0))))) p (7 + co) hp (by omega)) cd_X8_of14 bw_827 ⟨Nat.le_of_ble_eq_true rfl, Nat.le_of_ble_eq_true rfl⟩ ⟨Nat.zero_le _, Nat.zero_le _⟩ hP (hDa.to rfl) hE hA hS [0, 1] rfl rfl [xo, st] rfl rfl (ci := 5) rfl (q0 := 0) rfl (Nat.le_of_ble_eq_true rfl) hl.1 dX8_correctOne_89 (fun H locs hP _ hS => ?_)
          have hP : va_P E.1 vwCl [(xo, .inr (5, [.ref st, .ref sp, .ref th, .int (nI sn), .ref so, .ref sv, .ref pd, .int (nI ln), .int (nI ta), .int sg, .ref nu])), (st, .inl (E.2.1, 293, .inl (upd (mGw g p co) (13 + 14 * p + (7 + co)) (mBd ((mGw g p co) (13 + 14 * p + (7 + co)) + (((mAb ((mGw g p co) (13 + 14 * p + (11 + co)))) / ((mGw g p co) 0)) * ((mGw g p co) 0)))))))] H := hP
          refine lv_iload hx hb dX8_correctOne_92 (lv_at hl 0 rfl) ?_
          refine lv_isub hx hb dX8_correctOne_94 ?_
          refine rwS1 (rest := [.int (mGp g p co)]) S (c_X8_sizeOf l E ((upd (mGw g p co) (13 + 14 * p + (7 + co)) (mBd ((mGw g p co) (13 + 14 * p + (7 + co)) + (((mAb ((mGw g p co) (13 + 14 * p + (11 + co)))) / ((mGw g p co) 0)) * ((mGw g p co) 0))))) (13 + 14 * p + (7 + co)) - ((mGw g p co) (13 + 14 * p + (7 + co))))) cd_X8_sizeOf bw_851 ⟨Nat.le_of_ble_eq_true rfl, Nat.le_of_ble_eq_true rfl⟩ ⟨Nat.zero_le _, Nat.zero_le _⟩ hP (hDa.to rfl) hE hA hS [] rfl rfl [] rfl rfl (Nat.le_of_ble_eq_true rfl) hl.1 dX8_correctOne_95 (fun H locs hP _ hS => ?_)
          have hP : va_P E.1 vwCl [(xo, .inr (5, [.ref st, .ref sp, .ref th, .int (nI sn), .ref so, .ref sv, .ref pd, .int (nI ln), .int (nI ta), .int sg, .ref nu])), (st, .inl (E.2.1, 293, .inl (upd (mGw g p co) (13 + 14 * p + (7 + co)) (mBd ((mGw g p co) (13 + 14 * p + (7 + co)) + (((mAb ((mGw g p co) (13 + 14 * p + (11 + co)))) / ((mGw g p co) 0)) * ((mGw g p co) 0)))))))] H := hP
          refine lv_iadd hx hb dX8_correctOne_98 ?_
          refine lv_istore_n (lv' := [(2, .int (mGp g p co + (mAb ((upd (mGw g p co) (13 + 14 * p + (7 + co)) (mBd ((mGw g p co) (13 + 14 * p + (7 + co)) + (((mAb ((mGw g p co) (13 + 14 * p + (11 + co)))) / ((mGw g p co) 0)) * ((mGw g p co) 0))))) (13 + 14 * p + (7 + co)) - ((mGw g p co) (13 + 14 * p + (7 + co))))))), (6, .int ((mGw g p co) (13 + 14 * p + (7 + co)))), (5, .int (((mAb ((mGw g p co) (13 + 14 * p + (11 + co)))) / ((mGw g p co) 0)) * ((mGw g p co) 0))), (4, .int ((mGw g p co) (13 + 14 * p + (11 + co)))), (3, .int (nI co)), (0, .ref xo), (1, .int (nI p))]) hx hb dX8_correctOne_99 rfl hl (by decide) rfl (fun ls hl => ?_)
          refine rn_inc (a := co) (d := 1) (lv' := [(3, .int (nI (co + 1))), (2, .int (mGp g p co + (mAb ((upd (mGw g p co) (13 + 14 * p + (7 + co)) (mBd ((mGw g p co) (13 + 14 * p + (7 + co)) + (((mAb ((mGw g p co) (13 + 14 * p + (11 + co)))) / ((mGw g p co) 0)) * ((mGw g p co) 0))))) (13 + 14 * p + (7 + co)) - ((mGw g p co) (13 + 14 * p + (7 + co))))))), (6, .int ((mGw g p co) (13 + 14 * p + (7 + co)))), (5, .int (((mAb ((mGw g p co) (13 + 14 * p + (11 + co)))) / ((mGw g p co) 0)) * ((mGw g p co) 0))), (4, .int ((mGw g p co) (13 + 14 * p + (11 + co)))), (0, .ref xo), (1, .int (nI p))]) hx hb dX8_correctOne_100 hl (k := 4) rfl (by decide) (by decide) rfl (fun ls hl => ?_)
          refine lv_goto (tgt := 4) hx hb dX8_correctOne_103 (by decide) ?_
          have hP : va_P E.1 vwCl [(xo, .inr (5, [.ref st, .ref sp, .ref th, .int (nI sn), .ref so, .ref sv, .ref pd, .int (nI ln), .int (nI ta), .int sg, .ref nu])), (st, .inl (E.2.1, 293, .inl (mGw g p (co + 1))))] H := by first | (rw [mGw_p c_2]; exact hP) | (rw [mGw_n c_2]; exact hP)
          have hl : lv_has ls 7 [(3, .int (nI (co + 1))), (2, .int (mGp g p co + (mAb ((upd (mGw g p co) (13 + 14 * p + (7 + co)) (mBd ((mGw g p co) (13 + 14 * p + (7 + co)) + (((mAb ((mGw g p co) (13 + 14 * p + (11 + co)))) / ((mGw g p co) 0)) * ((mGw g p co) 0))))) (13 + 14 * p + (7 + co)) - ((mGw g p co) (13 + 14 * p + (7 + co))))))), (0, .ref xo), (1, .int (nI p))] := lv_sub hl [0, 1, 5, 6] rfl
          have hl : lv_has ls 7 [(3, .int (nI (co + 1))), (2, .int (mGp g p (co + 1))), (0, .ref xo), (1, .int (nI p))] := by first | (rw [mGp_s, mGw_p c_2]; exact hl) | (rw [mGp_s, mGw_n c_2]; exact hl)
          exact ih4 (co + 1) (by omega) (by omega) _ _ hP hS _ hl
  have hP : va_P E.1 vwCl [(xo, .inr (5, [.ref st, .ref sp, .ref th, .int (nI sn), .ref so, .ref sv, .ref pd, .int (nI ln), .int (nI ta), .int sg, .ref nu])), (st, .inl (E.2.1, 293, .inl (mGw g p 0)))] s.heap := by exact hP
  have hl : lv_has ls 7 [(3, .int (nI 0)), (2, .int (mGp g p 0)), (0, .ref xo), (1, .int (nI p))] := lv_sub hl [0, 1, 2, 3] rfl
  exact loop4 _ 0 (Nat.lt_succ_self _) (by omega) _ _ hP hS _ hl

theorem cd_X8_corrects : cdV RX8 yX8_corrects cX8_corrects 2 (some .int) 1 := ⟨⟨bw_935, bw_65, by decide, by decide, by decide +kernel⟩, bw_934, bw_37⟩
def mCv (g : Nat → Int32) (n : Nat) (x : Int32) : Int32 := if mIs g x = 0 then (-1) else if g (13 + 14 * (ix x) + 10) = nI 1 then mEv g (ix x) else (-5)
def mCw (g : Nat → Int32) (n : Nat) (x : Int32) : Nat → Int32 := if mIs g x = 0 then g else if g (13 + 14 * (ix x) + 10) = nI 1 then mEw g (ix x) else g
set_option maxHeartbeats 4000000 in
set_option maxRecDepth 100000 in
theorem c_X8_corrects (l : Launch) (E : EV) (xo : Nat) (st : Nat) (sp : Nat) (th : Nat) (so : Nat) (sv : Nat) (pd : Nat) (nu : Nat) (sn : Nat) (ln : Nat) (ta : Nat) (sg : Int32) (g : Nat → Int32) (n : Nat) (x : Int32) (hf : g 4 = nI n) (hn : n ≤ 20) (hst : ¬ g 0 = 0) : rcI l E yX8_corrects cX8_corrects 2 .int 3 [.ref xo, .int x] [(xo, .inr (5, [.ref st, .ref sp, .ref th, .int (nI sn), .ref so, .ref sv, .ref pd, .int (nI ln), .int (nI ta), .int sg, .ref nu])), (st, .inl (E.2.1, 293, .inl g))] (mCv g n x) [(xo, .inr (5, [.ref st, .ref sp, .ref th, .int (nI sn), .ref so, .ref sv, .ref pd, .int (nI ln), .int (nI ta), .int sg, .ref nu])), (st, .inl (E.2.1, 293, .inl (mCw g n x)))] := by
  refine rcI_of (by decide) (Nat.le_of_ble_eq_true rfl) ?_
  intro pg e s m below meth c Q A ls S hP hD0 hE hA hl hret
  have hx := S.1
  have hb := S.2.1
  have hown := S.2.2.2.1
  have hts := S.2.2.2.2
  have hK := hE.1
  have hS : va_S A s.heap s.heap [] := va_S.rf
  have hDa : va_Da A [xo, st] := ⟨_, hD0, rfl⟩
  have hl : lv_has ls 2 [(0, .ref xo), (1, .int x)] := hl
  refine lv_aload_n hx hb dX8_corrects_0 rfl (lv_at hl 0 rfl) ?_
  refine lv_iload_n hx hb dX8_corrects_1 rfl (lv_at hl 1 rfl) ?_
  refine rwV1 (rest := []) S (c_X8_isShot l E xo st sp th so sv pd nu sn ln ta sg g x) cd_X8_isShot bw_808 ⟨Nat.le_of_ble_eq_true rfl, Nat.le_of_ble_eq_true rfl⟩ ⟨Nat.zero_le _, Nat.zero_le _⟩ hP (hDa.to rfl) hE hA hS [0, 1] rfl rfl [xo, st] rfl rfl (ci := 5) rfl (q0 := 0) rfl (Nat.le_of_ble_eq_true rfl) hl.1 dX8_corrects_2 (fun H locs hP _ hS => ?_)
  have hP : va_P E.1 vwCl [(xo, .inr (5, [.ref st, .ref sp, .ref th, .int (nI sn), .ref so, .ref sv, .ref pd, .int (nI ln), .int (nI ta), .int sg, .ref nu])), (st, .inl (E.2.1, 293, .inl g))] H := hP
  refine lv_if_ne (tgt := 10) hx hb dX8_corrects_5 (by decide) (fun c_1 => ?_) (fun c_1 => ?_)
  · obtain ⟨p, h9_p, rfl⟩ : ∃ p : Nat, p < n ∧ x = nI p := (mIs_of hf hn c_1)
    refine lv_aload_n hx hb dX8_corrects_10 rfl (lv_at hl 0 rfl) ?_
    refine lv_iload_n hx hb dX8_corrects_11 rfl (lv_at hl 1 rfl) ?_
    refine lv_bipush (v := nI 10) hx hb dX8_corrects_12 (by decide) ?_
    refine rwV2 (rest := []) S (c_X8_of14 l E xo st sp th so sv pd nu sn ln ta sg g p 10 (by omega) (by omega)) cd_X8_of14 bw_827 ⟨Nat.le_of_ble_eq_true rfl, Nat.le_of_ble_eq_true rfl⟩ ⟨Nat.zero_le _, Nat.zero_le _⟩ hP (hDa.to rfl) hE hA hS [0, 1] rfl rfl [xo, st] rfl rfl (ci := 5) rfl (q0 := 0) rfl (Nat.le_of_ble_eq_true rfl) hl.1 dX8_corrects_14 (fun H locs hP _ hS => ?_)
    have hP : va_P E.1 vwCl [(xo, .inr (5, [.ref st, .ref sp, .ref th, .int (nI sn), .ref so, .ref sv, .ref pd, .int (nI ln), .int (nI ta), .int sg, .ref nu])), (st, .inl (E.2.1, 293, .inl g))] H := hP
    refine lv_iconst (v := nI 1) hx hb dX8_corrects_17 (by decide) ?_
    refine lv_icmp_ne (tgt := 29) hx hb dX8_corrects_18 (by decide) (fun c_2 => ?_) (fun c_2 => ?_)
    · refine lv_bipush (v := (-5)) hx hb dX8_corrects_29 (by decide) ?_
      exact hret _ _ _ _ _ _ (by first | rw [mCv, ix_nI (show p < 2 ^ 31 by omega), if_neg c_1, if_neg c_2] | rw [mCv, if_neg c_1, if_neg c_2] | simp only [mCv, ix_nI (show p < 2 ^ 31 by omega), if_neg c_1, if_neg c_2]) (by first | rw [mCw, ix_nI (show p < 2 ^ 31 by omega), if_neg c_1, if_neg c_2] | rw [mCw, if_neg c_1, if_neg c_2] | simp only [mCw, ix_nI (show p < 2 ^ 31 by omega), if_neg c_1, if_neg c_2]) rfl hP hS dX8_corrects_31
    · refine lv_aload_n hx hb dX8_corrects_21 rfl (lv_at hl 0 rfl) ?_
      refine lv_iload_n hx hb dX8_corrects_22 rfl (lv_at hl 1 rfl) ?_
      refine rwV1 (rest := []) S (c_X8_correctOne l E xo st sp th so sv pd nu sn ln ta sg g p (by omega) hst) cd_X8_correctOne bw_936 ⟨Nat.le_of_ble_eq_true rfl, Nat.le_of_ble_eq_true rfl⟩ ⟨Nat.zero_le _, Nat.zero_le _⟩ hP (hDa.to rfl) hE hA hS [0, 1] rfl rfl [xo, st] rfl rfl (ci := 5) rfl (q0 := 0) rfl (Nat.le_of_ble_eq_true rfl) hl.1 dX8_corrects_23 (fun H locs hP _ hS => ?_)
      have hP : va_P E.1 vwCl [(xo, .inr (5, [.ref st, .ref sp, .ref th, .int (nI sn), .ref so, .ref sv, .ref pd, .int (nI ln), .int (nI ta), .int sg, .ref nu])), (st, .inl (E.2.1, 293, .inl (mEw g p)))] H := hP
      refine lv_goto (tgt := 31) hx hb dX8_corrects_26 (by decide) ?_
      exact hret _ _ _ _ _ _ (by first | rw [mCv, ix_nI (show p < 2 ^ 31 by omega), if_neg c_1, if_pos c_2] | rw [mCv, if_neg c_1, if_pos c_2] | simp only [mCv, ix_nI (show p < 2 ^ 31 by omega), if_neg c_1, if_pos c_2]) (by first | rw [mCw, ix_nI (show p < 2 ^ 31 by omega), if_neg c_1, if_pos c_2] | rw [mCw, if_neg c_1, if_pos c_2] | simp only [mCw, ix_nI (show p < 2 ^ 31 by omega), if_neg c_1, if_pos c_2]) rfl hP hS dX8_corrects_31
  · refine lv_iconst (v := (-1)) hx hb dX8_corrects_8 (by decide) ?_
    exact hret _ _ _ _ _ _ (by rw [mCv, if_pos c_1]) (by rw [mCw, if_pos c_1]) rfl hP hS dX8_corrects_9

theorem mEw_u (g : Nat → Int32) (p j : Nat) (h : j < 13) (h6 : j ≠ 6) : mEw g p j = g j := (pk_un (by omega)).trans ((pk_un (by omega)).trans ((pk_un (by omega)).trans ((pk_un (by omega)).trans ((pk_un (by omega)).trans (mGw_u g p j h 3)))))
def mCb (g : Nat → Int32) : Nat → Nat → Int32
  | 0 => g
  | k + 1 => if mBa (mCb g k) k = 0 then mCb g k else mEw (mCb g k) k
theorem mCb_p {g : Nat → Int32} {k : Nat} (h : mBa (mCb g k) k = 0) : mCb g (k + 1) = mCb g k := by rw [mCb, if_pos h]
theorem mCb_n {g : Nat → Int32} {k : Nat} (h : ¬ mBa (mCb g k) k = 0) : mCb g (k + 1) = mEw (mCb g k) k := by rw [mCb, if_neg h]
def mCn (g : Nat → Int32) : Nat → Int32
  | 0 => nI 0
  | k + 1 => if mBa (mCb g k) k = 0 then mCn g k else mCn g k + nI 1
theorem mCn_p {g : Nat → Int32} {k : Nat} (h : mBa (mCb g k) k = 0) : mCn g (k + 1) = mCn g k := by rw [mCn, if_pos h]
theorem mCn_n {g : Nat → Int32} {k : Nat} (h : ¬ mBa (mCb g k) k = 0) : mCn g (k + 1) = mCn g k + nI 1 := by rw [mCn, if_neg h]
theorem mCb_u (g : Nat → Int32) (j : Nat) (h : j < 13) (h6 : j ≠ 6) : ∀ k : Nat, mCb g k j = g j
  | 0 => rfl
  | k + 1 => by
    rw [← mCb_u g j h h6 k, mCb]
    split
    · rfl
    · exact mEw_u _ _ j h h6
theorem cd_X8_correctsAll : cdV RX8 yX8_correctsAll cX8_correctsAll 3 (some .int) 0 := ⟨⟨bw_947, bw_65, by decide, by decide, by decide +kernel⟩, bw_946, bw_39⟩
def mZv (g : Nat → Int32) (n : Nat) : Int32 := mCn g n
def mZw (g : Nat → Int32) (n : Nat) : Nat → Int32 := mCb g n
set_option maxHeartbeats 4000000 in
set_option maxRecDepth 100000 in
theorem c_X8_correctsAll (l : Launch) (E : EV) (xo : Nat) (st : Nat) (sp : Nat) (th : Nat) (so : Nat) (sv : Nat) (pd : Nat) (nu : Nat) (sn : Nat) (ln : Nat) (ta : Nat) (sg : Int32) (g : Nat → Int32) (n : Nat) (hf : g 4 = nI n) (hn : n ≤ 20) (hst : ¬ g 0 = 0) : rcI l E yX8_correctsAll cX8_correctsAll 3 .int 3 [.ref xo] [(xo, .inr (5, [.ref st, .ref sp, .ref th, .int (nI sn), .ref so, .ref sv, .ref pd, .int (nI ln), .int (nI ta), .int sg, .ref nu])), (st, .inl (E.2.1, 293, .inl g))] (mZv g n) [(xo, .inr (5, [.ref st, .ref sp, .ref th, .int (nI sn), .ref so, .ref sv, .ref pd, .int (nI ln), .int (nI ta), .int sg, .ref nu])), (st, .inl (E.2.1, 293, .inl (mZw g n)))] := by
  refine rcI_of (by decide) (Nat.le_of_ble_eq_true rfl) ?_
  intro pg e s m below meth c Q A ls S hP hD0 hE hA hl hret
  have hx := S.1
  have hb := S.2.1
  have hown := S.2.2.2.1
  have hts := S.2.2.2.2
  have hK := hE.1
  have hS : va_S A s.heap s.heap [] := va_S.rf
  have hDa : va_Da A [xo, st] := ⟨_, hD0, rfl⟩
  have hl : lv_has ls 3 [(0, .ref xo)] := hl
  refine lv_iconst (v := nI 0) hx hb dX8_correctsAll_0 (by decide) ?_
  refine lv_istore_n (lv' := [(1, .int (nI 0)), (0, .ref xo)]) hx hb dX8_correctsAll_1 rfl hl (by decide) rfl (fun ls hl => ?_)
  refine lv_iconst (v := nI 0) hx hb dX8_correctsAll_2 (by decide) ?_
  refine lv_istore_n (lv' := [(2, .int (nI 0)), (1, .int (nI 0)), (0, .ref xo)]) hx hb dX8_correctsAll_3 rfl hl (by decide) rfl (fun ls hl => ?_)
  have loop4 : ∀ (fuel : Nat) (k : Nat), n - k < fuel → (k ≤ n) → ∀ (H : Heap) (locs : List Loc), va_P E.1 vwCl [(xo, .inr (5, [.ref st, .ref sp, .ref th, .int (nI sn), .ref so, .ref sv, .ref pd, .int (nI ln), .int (nI ta), .int sg, .ref nu])), (st, .inl (E.2.1, 293, .inl (mCb g k)))] H → va_S A s.heap H locs → ∀ ls : Array Slot, lv_has ls 3 [(2, .int (nI k)), (1, .int (mCn g k)), (0, .ref xo)] → W pg l e (rq 3) s m ([.ref xo] : List Value).toArray below meth c H locs 0 0 Q (F0 m 4 ls []) := by
    intro fuel
    induction fuel with
    | zero => intro k h9; exact absurd h9 (Nat.not_lt_zero _)
    | succ fuel ih4 =>
      intro k hfu4 hk H locs hP hS ls hl
      refine lv_iload_n hx hb dX8_correctsAll_4 rfl (lv_at hl 0 rfl) ?_
      refine lv_aload_n hx hb dX8_correctsAll_5 rfl (lv_at hl 2 rfl) ?_
      refine va_get (D := E.1) (ci := 5) (v := .ref st) (C := RX8) (T := TX8) (N := 11) hx hb hts inb_X8 hown hK hP 0 rfl rfl 0 (by decide) (hts _ bw_710) (fun _ h9 => h9) rfl dX8_correctsAll_6 ?_
      refine lv_iconst (v := nI 4) hx hb dX8_correctsAll_9 (by decide) ?_
      refine rn_iald (i := 4) hx hb hK hP 1 0 rfl rfl (by omega) (by omega) dX8_correctsAll_10 ?_
      refine W.eq (congrArg (fun z => F0 m 11 ls (.int z :: [.int (nI k)])) (show mCb g k 4 = nI n from ((mCb_u g 4 (by decide) (by decide) k).trans hf))) ?_
      refine rn_icmp_ge (a := k) (b := n) (tgt := 37) hx hb (by omega) (by omega) dX8_correctsAll_11 (by decide) (fun c_1 => ?_) (fun c_1 => ?_)
      · have hex : n = k := by omega
        subst hex
        refine lv_iload_n hx hb dX8_correctsAll_37 rfl (lv_at hl 1 rfl) ?_
        exact hret _ _ _ _ _ _ (by rw [mZv]) (by rw [mZw]) rfl hP hS dX8_correctsAll_38
      · refine lv_aload_n hx hb dX8_correctsAll_14 rfl (lv_at hl 2 rfl) ?_
        refine lv_iload_n hx hb dX8_correctsAll_15 rfl (lv_at hl 0 rfl) ?_
        refine rwV1 (rest := []) S (c_X8_isBad l E xo st sp th so sv pd nu sn ln ta sg (mCb g k) k (by omega)) cd_X8_isBad bw_921 ⟨Nat.le_of_ble_eq_true rfl, Nat.le_of_ble_eq_true rfl⟩ ⟨Nat.zero_le _, Nat.zero_le _⟩ hP (hDa.to rfl) hE hA hS [0, 1] rfl rfl [xo, st] rfl rfl (ci := 5) rfl (q0 := 0) rfl (Nat.le_of_ble_eq_true rfl) hl.1 dX8_correctsAll_16 (fun H locs hP _ hS => ?_)
        have hP : va_P E.1 vwCl [(xo, .inr (5, [.ref st, .ref sp, .ref th, .int (nI sn), .ref so, .ref sv, .ref pd, .int (nI ln), .int (nI ta), .int sg, .ref nu])), (st, .inl (E.2.1, 293, .inl (mCb g k)))] H := hP
        refine lv_if_eq (tgt := 31) hx hb dX8_correctsAll_19 (by decide) (fun c_2 => ?_) (fun c_2 => ?_)
        · refine rn_inc (a := k) (d := 1) (lv' := [(2, .int (nI (k + 1))), (1, .int (mCn g k)), (0, .ref xo)]) hx hb dX8_correctsAll_31 hl (k := 0) rfl (by decide) (by decide) rfl (fun ls hl => ?_)
          refine lv_goto (tgt := 4) hx hb dX8_correctsAll_34 (by decide) ?_
          have hP : va_P E.1 vwCl [(xo, .inr (5, [.ref st, .ref sp, .ref th, .int (nI sn), .ref so, .ref sv, .ref pd, .int (nI ln), .int (nI ta), .int sg, .ref nu])), (st, .inl (E.2.1, 293, .inl (mCb g (k + 1))))] H := by first | (rw [mCb_p c_2]; exact hP) | (rw [mCb_n c_2]; exact hP)
          have hl : lv_has ls 3 [(2, .int (nI (k + 1))), (1, .int (mCn g k)), (0, .ref xo)] := lv_sub hl [0, 1, 2] rfl
          have hl : lv_has ls 3 [(2, .int (nI (k + 1))), (1, .int (mCn g (k + 1))), (0, .ref xo)] := by first | (rw [mCn_p c_2]; exact hl) | (rw [mCn_n c_2]; exact hl)
          exact ih4 (k + 1) (by omega) (by omega) _ _ hP hS _ hl
        · refine lv_aload_n hx hb dX8_correctsAll_22 rfl (lv_at hl 2 rfl) ?_
          refine lv_iload_n hx hb dX8_correctsAll_23 rfl (lv_at hl 0 rfl) ?_
          refine rwV1 (rest := []) S (c_X8_correctOne l E xo st sp th so sv pd nu sn ln ta sg (mCb g k) k (by omega) (by rw [mCb_u g 0 (by decide) (by decide)]; exact hst)) cd_X8_correctOne bw_936 ⟨Nat.le_of_ble_eq_true rfl, Nat.le_of_ble_eq_true rfl⟩ ⟨Nat.zero_le _, Nat.zero_le _⟩ hP (hDa.to rfl) hE hA hS [0, 1] rfl rfl [xo, st] rfl rfl (ci := 5) rfl (q0 := 0) rfl (Nat.le_of_ble_eq_true rfl) hl.1 dX8_correctsAll_24 (fun H locs hP _ hS => ?_)
          have hP : va_P E.1 vwCl [(xo, .inr (5, [.ref st, .ref sp, .ref th, .int (nI sn), .ref so, .ref sv, .ref pd, .int (nI ln), .int (nI ta), .int sg, .ref nu])), (st, .inl (E.2.1, 293, .inl (mEw (mCb g k) k)))] H := hP
          refine lv_pop hx hb dX8_correctsAll_27 rfl ?_
          refine lv_iinc (v := mCn g k + nI 1) (lv' := [(1, .int (mCn g k + nI 1)), (2, .int (nI k)), (0, .ref xo)]) hx hb dX8_correctsAll_28 hl (k := 1) rfl (by rfl) (by decide) rfl (fun ls hl => ?_)
          refine rn_inc (a := k) (d := 1) (lv' := [(2, .int (nI (k + 1))), (1, .int (mCn g k + nI 1)), (0, .ref xo)]) hx hb dX8_correctsAll_31 hl (k := 1) rfl (by decide) (by decide) rfl (fun ls hl => ?_)
          refine lv_goto (tgt := 4) hx hb dX8_correctsAll_34 (by decide) ?_
          have hP : va_P E.1 vwCl [(xo, .inr (5, [.ref st, .ref sp, .ref th, .int (nI sn), .ref so, .ref sv, .ref pd, .int (nI ln), .int (nI ta), .int sg, .ref nu])), (st, .inl (E.2.1, 293, .inl (mCb g (k + 1))))] H := by first | (rw [mCb_p c_2]; exact hP) | (rw [mCb_n c_2]; exact hP)
          have hl : lv_has ls 3 [(2, .int (nI (k + 1))), (1, .int (mCn g k + nI 1)), (0, .ref xo)] := lv_sub hl [0, 1, 2] rfl
          have hl : lv_has ls 3 [(2, .int (nI (k + 1))), (1, .int (mCn g (k + 1))), (0, .ref xo)] := by first | (rw [mCn_p c_2]; exact hl) | (rw [mCn_n c_2]; exact hl)
          exact ih4 (k + 1) (by omega) (by omega) _ _ hP hS _ hl
  have hP : va_P E.1 vwCl [(xo, .inr (5, [.ref st, .ref sp, .ref th, .int (nI sn), .ref so, .ref sv, .ref pd, .int (nI ln), .int (nI ta), .int sg, .ref nu])), (st, .inl (E.2.1, 293, .inl (mCb g 0)))] s.heap := by exact hP
  have hl : lv_has ls 3 [(2, .int (nI 0)), (1, .int (mCn g 0)), (0, .ref xo)] := lv_sub hl [0, 1, 2] rfl
  exact loop4 _ 0 (Nat.lt_succ_self _) (by omega) _ _ hP hS _ hl

def mTs (g : Nat → Int32) (co : Nat) : Nat → Int32 := upd g (10 + co) (if nI 20 ≤ mLo g co then nI 20 else mLo g co)
def mTc (g : Nat → Int32) : Nat → Nat → Int32
  | 0 => g
  | co + 1 => mTs (mTc g co) co
theorem mTc_p {g : Nat → Int32} {co : Nat} (h : nI 20 ≤ mLo (mTc g co) co) : mTc g (co + 1) = upd (mTc g co) (10 + co) (nI 20) := by rw [mTc, mTs, if_pos h]
theorem mTc_n {g : Nat → Int32} {co : Nat} (h : ¬ nI 20 ≤ mLo (mTc g co) co) : mTc g (co + 1) = upd (mTc g co) (10 + co) (mLo (mTc g co) co) := by rw [mTc, mTs, if_neg h]
def mTn (g : Nat → Int32) : Nat → Int32
  | 0 => nI 0
  | co + 1 => mTn g co + mTc g (co + 1) (10 + co)
theorem mTn_s (g : Nat → Int32) (co : Nat) : mTn g (co + 1) = mTn g co + mTc g (co + 1) (10 + co) := rfl
theorem mTc_u (g : Nat → Int32) (j : Nat) (h : j < 10) : ∀ co : Nat, mTc g co j = g j
  | 0 => rfl
  | co + 1 => (pk_un (by omega)).trans (mTc_u g j h co)
theorem cd_X8_cards : cdV RX8 yX8_cards cX8_cards 3 (some .int) 0 := ⟨⟨bw_955, bw_65, by decide, by decide, by decide +kernel⟩, bw_954, bw_40⟩
set_option maxHeartbeats 4000000 in
set_option maxRecDepth 100000 in
theorem c_X8_cards (l : Launch) (E : EV) (xo : Nat) (st : Nat) (sp : Nat) (th : Nat) (so : Nat) (sv : Nat) (pd : Nat) (nu : Nat) (sn : Nat) (ln : Nat) (ta : Nat) (sg : Int32) (g : Nat → Int32)  : rcI l E yX8_cards cX8_cards 3 .int 1 [.ref xo] [(xo, .inr (5, [.ref st, .ref sp, .ref th, .int (nI sn), .ref so, .ref sv, .ref pd, .int (nI ln), .int (nI ta), .int sg, .ref nu])), (st, .inl (E.2.1, 293, .inl g))] (mTn g 3) [(xo, .inr (5, [.ref st, .ref sp, .ref th, .int (nI sn), .ref so, .ref sv, .ref pd, .int (nI ln), .int (nI ta), .int sg, .ref nu])), (st, .inl (E.2.1, 293, .inl (mTc g 3)))] := by
  refine rcI_of (by decide) (Nat.le_of_ble_eq_true rfl) ?_
  intro pg e s m below meth c Q A ls S hP hD0 hE hA hl hret
  have hx := S.1
  have hb := S.2.1
  have hown := S.2.2.2.1
  have hts := S.2.2.2.2
  have hK := hE.1
  have hS : va_S A s.heap s.heap [] := va_S.rf
  have hDa : va_Da A [xo, st] := ⟨_, hD0, rfl⟩
  have hl : lv_has ls 3 [(0, .ref xo)] := hl
  refine lv_iconst (v := nI 0) hx hb dX8_cards_0 (by decide) ?_
  refine lv_istore_n (lv' := [(1, .int (nI 0)), (0, .ref xo)]) hx hb dX8_cards_1 rfl hl (by decide) rfl (fun ls hl => ?_)
  refine lv_iconst (v := nI 0) hx hb dX8_cards_2 (by decide) ?_
  refine lv_istore_n (lv' := [(2, .int (nI 0)), (1, .int (nI 0)), (0, .ref xo)]) hx hb dX8_cards_3 rfl hl (by decide) rfl (fun ls hl => ?_)
  have loop4 : ∀ (fuel : Nat) (co : Nat), 3 - co < fuel → (co ≤ 3) → ∀ (H : Heap) (locs : List Loc), va_P E.1 vwCl [(xo, .inr (5, [.ref st, .ref sp, .ref th, .int (nI sn), .ref so, .ref sv, .ref pd, .int (nI ln), .int (nI ta), .int sg, .ref nu])), (st, .inl (E.2.1, 293, .inl (mTc g co)))] H → va_S A s.heap H locs → ∀ ls : Array Slot, lv_has ls 3 [(2, .int (nI co)), (1, .int (mTn g co)), (0, .ref xo)] → W pg l e (rq 1) s m ([.ref xo] : List Value).toArray below meth c H locs 0 0 Q (F0 m 4 ls []) := by
    intro fuel
    induction fuel with
    | zero => intro co h9; exact absurd h9 (Nat.not_lt_zero _)
    | succ fuel ih4 =>
      intro co hfu4 hco H locs hP hS ls hl
      refine lv_iload_n hx hb dX8_cards_4 rfl (lv_at hl 0 rfl) ?_
      refine lv_iconst (v := nI 3) hx hb dX8_cards_5 (by decide) ?_
      refine rn_icmp_ge (a := co) (b := 3) (tgt := 56) hx hb (by omega) (by omega) dX8_cards_6 (by decide) (fun c_1 => ?_) (fun c_1 => ?_)
      · have hex : 3 = co := by omega
        subst hex
        refine lv_iload_n hx hb dX8_cards_56 rfl (lv_at hl 1 rfl) ?_
        exact hret _ _ _ _ _ _ rfl rfl rfl hP hS dX8_cards_57
      · refine lv_aload_n hx hb dX8_cards_9 rfl (lv_at hl 2 rfl) ?_
        refine va_get (D := E.1) (ci := 5) (v := .ref st) (C := RX8) (T := TX8) (N := 11) hx hb hts inb_X8 hown hK hP 0 rfl rfl 0 (by decide) (hts _ bw_710) (fun _ h9 => h9) rfl dX8_cards_10 ?_
        refine lv_bipush (v := nI 10) hx hb dX8_cards_13 (by decide) ?_
        refine lv_iload_n hx hb dX8_cards_15 rfl (lv_at hl 0 rfl) ?_
        refine rn_add (a := 10) (b := co) hx hb dX8_cards_16 ?_
        refine lv_aload_n hx hb dX8_cards_17 rfl (lv_at hl 2 rfl) ?_
        refine lv_iload_n hx hb dX8_cards_18 rfl (lv_at hl 0 rfl) ?_
        refine rwV1 (rest := [.int (nI (10 + co)), .ref st]) S (c_X8_lost l E xo st sp th so sv pd nu sn ln ta sg (mTc g co) co (by omega)) cd_X8_lost bw_910 ⟨Nat.le_of_ble_eq_true rfl, Nat.le_of_ble_eq_true rfl⟩ ⟨Nat.zero_le _, Nat.zero_le _⟩ hP (hDa.to rfl) hE hA hS [0, 1] rfl rfl [xo, st] rfl rfl (ci := 5) rfl (q0 := 0) rfl (Nat.le_of_ble_eq_true rfl) hl.1 dX8_cards_19 (fun H locs hP _ hS => ?_)
        have hP : va_P E.1 vwCl [(xo, .inr (5, [.ref st, .ref sp, .ref th, .int (nI sn), .ref so, .ref sv, .ref pd, .int (nI ln), .int (nI ta), .int sg, .ref nu])), (st, .inl (E.2.1, 293, .inl (mTc g co)))] H := hP
        refine lv_bipush (v := nI 20) hx hb dX8_cards_22 (by decide) ?_
        refine lv_icmp_ge (tgt := 35) hx hb dX8_cards_24 (by decide) (fun c_2 => ?_) (fun c_2 => ?_)
        · refine lv_bipush (v := nI 20) hx hb dX8_cards_35 (by decide) ?_
          refine rn_iast (i := 10 + co) hx hb hK hP (hDa.to rfl) hS 1 0 rfl rfl (by omega) (by omega) dX8_cards_37 (fun H locs hP _ hS => ?_)
          have hP : va_P E.1 vwCl [(xo, .inr (5, [.ref st, .ref sp, .ref th, .int (nI sn), .ref so, .ref sv, .ref pd, .int (nI ln), .int (nI ta), .int sg, .ref nu])), (st, .inl (E.2.1, 293, .inl (upd (mTc g co) (10 + co) (nI 20))))] H := hP
          refine lv_iload_n hx hb dX8_cards_38 rfl (lv_at hl 1 rfl) ?_
          refine lv_aload_n hx hb dX8_cards_39 rfl (lv_at hl 2 rfl) ?_
          refine va_get (D := E.1) (ci := 5) (v := .ref st) (C := RX8) (T := TX8) (N := 11) hx hb hts inb_X8 hown hK hP 0 rfl rfl 0 (by decide) (hts _ bw_710) (fun _ h9 => h9) rfl dX8_cards_40 ?_
          refine lv_bipush (v := nI 10) hx hb dX8_cards_43 (by decide) ?_
          refine lv_iload_n hx hb dX8_cards_45 rfl (lv_at hl 0 rfl) ?_
          refine rn_add (a := 10) (b := co) hx hb dX8_cards_46 ?_
          refine rn_iald (i := 10 + co) hx hb hK hP 1 0 rfl rfl (by omega) (by omega) dX8_cards_47 ?_
          refine lv_iadd hx hb dX8_cards_48 ?_
          refine lv_istore_n (lv' := [(1, .int (mTn g co + ((upd (mTc g co) (10 + co) (nI 20)) (10 + co)))), (2, .int (nI co)), (0, .ref xo)]) hx hb dX8_cards_49 rfl hl (by decide) rfl (fun ls hl => ?_)
          refine rn_inc (a := co) (d := 1) (lv' := [(2, .int (nI (co + 1))), (1, .int (mTn g co + ((upd (mTc g co) (10 + co) (nI 20)) (10 + co)))), (0, .ref xo)]) hx hb dX8_cards_50 hl (k := 1) rfl (by decide) (by decide) rfl (fun ls hl => ?_)
          refine lv_goto (tgt := 4) hx hb dX8_cards_53 (by decide) ?_
          have hP : va_P E.1 vwCl [(xo, .inr (5, [.ref st, .ref sp, .ref th, .int (nI sn), .ref so, .ref sv, .ref pd, .int (nI ln), .int (nI ta), .int sg, .ref nu])), (st, .inl (E.2.1, 293, .inl (mTc g (co + 1))))] H := by first | (rw [mTc_p c_2]; exact hP) | (rw [mTc_n c_2]; exact hP)
          have hl : lv_has ls 3 [(2, .int (nI (co + 1))), (1, .int (mTn g co + ((upd (mTc g co) (10 + co) (nI 20)) (10 + co)))), (0, .ref xo)] := lv_sub hl [0, 1, 2] rfl
          have hl : lv_has ls 3 [(2, .int (nI (co + 1))), (1, .int (mTn g (co + 1))), (0, .ref xo)] := by first | (rw [mTn_s, mTc_p c_2]; exact hl) | (rw [mTn_s, mTc_n c_2]; exact hl)
          exact ih4 (co + 1) (by omega) (by omega) _ _ hP hS _ hl
        · refine lv_aload_n hx hb dX8_cards_27 rfl (lv_at hl 2 rfl) ?_
          refine lv_iload_n hx hb dX8_cards_28 rfl (lv_at hl 0 rfl) ?_
          refine rwV1 (rest := [.int (nI (10 + co)), .ref st]) S (c_X8_lost l E xo st sp th so sv pd nu sn ln ta sg (mTc g co) co (by omega)) cd_X8_lost bw_910 ⟨Nat.le_of_ble_eq_true rfl, Nat.le_of_ble_eq_true rfl⟩ ⟨Nat.zero_le _, Nat.zero_le _⟩ hP (hDa.to rfl) hE hA hS [0, 1] rfl rfl [xo, st] rfl rfl (ci := 5) rfl (q0 := 0) rfl (Nat.le_of_ble_eq_true rfl) hl.1 dX8_cards_29 (fun H locs hP _ hS => ?_)
          have hP : va_P E.1 vwCl [(xo, .inr (5, [.ref st, .ref sp, .ref th, .int (nI sn), .ref so, .ref sv, .ref pd, .int (nI ln), .int (nI ta), .int sg, .ref nu])), (st, .inl (E.2.1, 293, .inl (mTc g co)))] H := hP
          refine lv_goto (tgt := 37) hx hb dX8_cards_32 (by decide) ?_
          refine rn_iast (i := 10 + co) hx hb hK hP (hDa.to rfl) hS 1 0 rfl rfl (by omega) (by omega) dX8_cards_37 (fun H locs hP _ hS => ?_)
          have hP : va_P E.1 vwCl [(xo, .inr (5, [.ref st, .ref sp, .ref th, .int (nI sn), .ref so, .ref sv, .ref pd, .int (nI ln), .int (nI ta), .int sg, .ref nu])), (st, .inl (E.2.1, 293, .inl (upd (mTc g co) (10 + co) (mLo (mTc g co) co))))] H := hP
          refine lv_iload_n hx hb dX8_cards_38 rfl (lv_at hl 1 rfl) ?_
          refine lv_aload_n hx hb dX8_cards_39 rfl (lv_at hl 2 rfl) ?_
          refine va_get (D := E.1) (ci := 5) (v := .ref st) (C := RX8) (T := TX8) (N := 11) hx hb hts inb_X8 hown hK hP 0 rfl rfl 0 (by decide) (hts _ bw_710) (fun _ h9 => h9) rfl dX8_cards_40 ?_
          refine lv_bipush (v := nI 10) hx hb dX8_cards_43 (by decide) ?_
          refine lv_iload_n hx hb dX8_cards_45 rfl (lv_at hl 0 rfl) ?_
          refine rn_add (a := 10) (b := co) hx hb dX8_cards_46 ?_
          refine rn_iald (i := 10 + co) hx hb hK hP 1 0 rfl rfl (by omega) (by omega) dX8_cards_47 ?_
          refine lv_iadd hx hb dX8_cards_48 ?_
          refine lv_istore_n (lv' := [(1, .int (mTn g co + ((upd (mTc g co) (10 + co) (mLo (mTc g co) co)) (10 + co)))), (2, .int (nI co)), (0, .ref xo)]) hx hb dX8_cards_49 rfl hl (by decide) rfl (fun ls hl => ?_)
          refine rn_inc (a := co) (d := 1) (lv' := [(2, .int (nI (co + 1))), (1, .int (mTn g co + ((upd (mTc g co) (10 + co) (mLo (mTc g co) co)) (10 + co)))), (0, .ref xo)]) hx hb dX8_cards_50 hl (k := 1) rfl (by decide) (by decide) rfl (fun ls hl => ?_)
          refine lv_goto (tgt := 4) hx hb dX8_cards_53 (by decide) ?_
          have hP : va_P E.1 vwCl [(xo, .inr (5, [.ref st, .ref sp, .ref th, .int (nI sn), .ref so, .ref sv, .ref pd, .int (nI ln), .int (nI ta), .int sg, .ref nu])), (st, .inl (E.2.1, 293, .inl (mTc g (co + 1))))] H := by first | (rw [mTc_p c_2]; exact hP) | (rw [mTc_n c_2]; exact hP)
          have hl : lv_has ls 3 [(2, .int (nI (co + 1))), (1, .int (mTn g co + ((upd (mTc g co) (10 + co) (mLo (mTc g co) co)) (10 + co)))), (0, .ref xo)] := lv_sub hl [0, 1, 2] rfl
          have hl : lv_has ls 3 [(2, .int (nI (co + 1))), (1, .int (mTn g (co + 1))), (0, .ref xo)] := by first | (rw [mTn_s, mTc_p c_2]; exact hl) | (rw [mTn_s, mTc_n c_2]; exact hl)
          exact ih4 (co + 1) (by omega) (by omega) _ _ hP hS _ hl
  have hP : va_P E.1 vwCl [(xo, .inr (5, [.ref st, .ref sp, .ref th, .int (nI sn), .ref so, .ref sv, .ref pd, .int (nI ln), .int (nI ta), .int sg, .ref nu])), (st, .inl (E.2.1, 293, .inl (mTc g 0)))] s.heap := by exact hP
  have hl : lv_has ls 3 [(2, .int (nI 0)), (1, .int (mTn g 0)), (0, .ref xo)] := lv_sub hl [0, 1, 2] rfl
  exact loop4 _ 0 (Nat.lt_succ_self _) (by omega) _ _ hP hS _ hl

