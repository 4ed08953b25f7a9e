/-! the reference: texts -/
theorem nz_ite {c : Prop} [Decidable c] {a b : Int32} (ha : narrow .boolean (.int a) = .int a) (hb : narrow .boolean (.int b) = .int b) : narrow .boolean (.int (if c then a else b)) = .int (if c then a else b) := by
  split
  · exact ha
  · exact hb
def mSk (z : Int64) (i : Nat) : Int32 := if lg_cmp (pkR z i &&& 255) 0 = 0 then 0 else if mIh (pkR z i &&& 255).toInt32 = 0 then 0 else 1
theorem mSk_a {z : Int64} {i : Nat} (h : lg_cmp (pkR z i &&& 255) 0 = 0) : mSk z i = 0 := if_pos h
theorem mSk_b {z : Int64} {i : Nat} (h : ¬ lg_cmp (pkR z i &&& 255) 0 = 0) (h2 : mIh (pkR z i &&& 255).toInt32 = 0) : mSk z i = 0 := by rw [mSk, if_neg h, if_pos h2]
theorem mSk_n {z : Int64} {i : Nat} (h : ¬ lg_cmp (pkR z i &&& 255) 0 = 0) (h2 : ¬ mIh (pkR z i &&& 255).toInt32 = 0) : ¬ mSk z i = 0 := by rw [mSk, if_neg h, if_neg h2]; decide
def mIK (z : Int64) : Nat := ffz (mSk z) 8
def mCtl (z : Int64) (k : Nat) : Nat := if lg_cmp (pkR z k) 0 = 0 then k else 0
def mCin (z : Int64) : Nat := if mIK z = 8 then mCtl z 8 else if lg_cmp (pkR z (mIK z) &&& 255) 0 = 0 then mCtl z (mIK z) else 0
theorem mIK_le (z : Int64) : mIK z ≤ 8 := ffz_le _ _
theorem mCtl_le (z : Int64) {k : Nat} (h : k ≤ 8) : mCtl z k ≤ 8 := by
  rw [mCtl]
  by_cases c : lg_cmp (pkR z k) 0 = 0
  · rw [if_pos c]; exact h
  · rw [if_neg c]; omega
theorem mCin_le (z : Int64) : mCin z ≤ 8 := by
  rw [mCin]
  by_cases c : mIK z = 8
  · rw [if_pos c]; exact mCtl_le z (by omega)
  · rw [if_neg c]
    by_cases c : lg_cmp (pkR z (mIK z) &&& 255) 0 = 0
    · rw [if_pos c]; exact mCtl_le z (mIK_le z)
    · rw [if_neg c]; omega
theorem cd_X8_charactersIn : cdS yX8_charactersIn cX8_charactersIn 5 (some .int) 1 := ⟨⟨bw_1038, bw_65, by decide, by decide, by decide +kernel⟩, bw_1037⟩
set_option maxHeartbeats 4000000 in
set_option maxRecDepth 100000 in
theorem c_X8_charactersIn (l : Launch) (E : EV) (z : Int64)  : rcI l E yX8_charactersIn cX8_charactersIn 5 .int 2 [.long z] [] (nI (mCin z)) [] := by
  refine rcI_of (by decide) (Nat.le_of_ble_eq_true rfl) ?_
  intro pg e s m below meth c Q A ls S hP hD0 hE hA hl hret
  have hx := S.1
  have hb := S.2.1
  have hown := S.2.2.2.1
  have hts := S.2.2.2.2
  have hK := hE.1
  have hS : va_S A s.heap s.heap [] := va_S.rf
  have hDa : va_Da A [] := ⟨_, hD0, rfl⟩
  have hl : lv_has ls 5 [(0, .long z)] := hl
  refine lv_iconst (v := nI 0) hx hb dX8_charactersIn_0 (by decide) ?_
  refine lv_istore_n (lv' := [(2, .int (nI 0)), (0, .long z)]) hx hb dX8_charactersIn_1 rfl hl (by decide) rfl (fun ls hl => ?_)
  refine lv_lload_n hx hb dX8_charactersIn_2 rfl (lv_at hl 1 rfl) ?_
  refine lv_lstore_n (lv' := [(3, .long z), (2, .int (nI 0)), (0, .long z)]) hx hb dX8_charactersIn_3 rfl hl (by decide) rfl (fun ls hl => ?_)
  have loop4 : ∀ (fuel : Nat) (k : Nat), 8 - k < fuel → (k ≤ 8) → (∀ i, i < k → ¬ mSk z i = 0) → ∀ (H : Heap) (locs : List Loc), va_P E.1 vwCl [] H → va_S A s.heap H locs → ∀ ls : Array Slot, lv_has ls 5 [(3, .long (pkR z k)), (2, .int (nI k)), (0, .long z)] → W pg l e (rq 2) s m ([.long z] : List Value).toArray below meth c H locs 0 0 Q (F0 m 4 ls []) := by
    intro fuel
    induction fuel with
    | zero => intro k h9; exact absurd h9 (Nat.not_lt_zero _)
    | succ fuel ih4 =>
      intro k hfu4 hk hall H locs hP hS ls hl
      refine lv_iload_n hx hb dX8_charactersIn_4 rfl (lv_at hl 1 rfl) ?_
      refine lv_bipush (v := nI 8) hx hb dX8_charactersIn_5 (by decide) ?_
      refine rn_icmp_ge (a := k) (b := 8) (tgt := 45) hx hb (by omega) (by omega) dX8_charactersIn_7 (by decide) (fun c_1 => ?_) (fun c_1 => ?_)
      · have hv9 : mCin z = mCtl z k := by first | (have e9 : k = 8 := (by omega); subst e9; rw [mCin, show mIK z = 8 from ffz_no hall, if_pos rfl]) | (rw [mCin, show mIK z = k from ffz_at hall (mSk_a c_1) (by omega), if_neg (by omega), if_pos c_1])
        refine lv_lload_n hx hb dX8_charactersIn_45 rfl (lv_at hl 0 rfl) ?_
        refine lv_lconst (v := 0) hx hb dX8_charactersIn_46 (by decide) ?_
        refine W.lcmp hx hb dX8_charactersIn_47 ?_
        refine lv_if_ne (tgt := 55) hx hb dX8_charactersIn_48 (by decide) (fun c_2 => ?_) (fun c_2 => ?_)
        · refine lv_iconst (v := nI 0) hx hb dX8_charactersIn_55 (by decide) ?_
          exact hret _ _ _ _ _ _ (by first | rw [hv9, mCtl, if_pos c_2] | rw [hv9, mCtl, if_neg c_2]) rfl rfl hP hS dX8_charactersIn_56
        · refine lv_iload_n hx hb dX8_charactersIn_51 rfl (lv_at hl 1 rfl) ?_
          refine lv_goto (tgt := 56) hx hb dX8_charactersIn_52 (by decide) ?_
          exact hret _ _ _ _ _ _ (by first | rw [hv9, mCtl, if_pos c_2] | rw [hv9, mCtl, if_neg c_2]) rfl rfl hP hS dX8_charactersIn_56
      · refine lv_lload_n hx hb dX8_charactersIn_10 rfl (lv_at hl 0 rfl) ?_
        refine lv_ldc2 (own := RX8) (v := 255) hx hb hown (hts _ bw_1039) dX8_charactersIn_11 ?_
        refine lv_land hx hb dX8_charactersIn_14 ?_
        refine lv_lconst (v := 0) hx hb dX8_charactersIn_15 (by decide) ?_
        refine W.lcmp hx hb dX8_charactersIn_16 ?_
        refine lv_if_eq (tgt := 45) hx hb dX8_charactersIn_17 (by decide) (fun c_3 => ?_) (fun c_3 => ?_)
        · have hv9 : mCin z = mCtl z k := by first | (have e9 : k = 8 := (by omega); subst e9; rw [mCin, show mIK z = 8 from ffz_no hall, if_pos rfl]) | (rw [mCin, show mIK z = k from ffz_at hall (mSk_a c_3) (by omega), if_neg (by omega), if_pos c_3])
          refine lv_lload_n hx hb dX8_charactersIn_45 rfl (lv_at hl 0 rfl) ?_
          refine lv_lconst (v := 0) hx hb dX8_charactersIn_46 (by decide) ?_
          refine W.lcmp hx hb dX8_charactersIn_47 ?_
          refine lv_if_ne (tgt := 55) hx hb dX8_charactersIn_48 (by decide) (fun c_4 => ?_) (fun c_4 => ?_)
          · refine lv_iconst (v := nI 0) hx hb dX8_charactersIn_55 (by decide) ?_
            exact hret _ _ _ _ _ _ (by first | rw [hv9, mCtl, if_pos c_4] | rw [hv9, mCtl, if_neg c_4]) rfl rfl hP hS dX8_charactersIn_56
          · refine lv_iload_n hx hb dX8_charactersIn_51 rfl (lv_at hl 1 rfl) ?_
            refine lv_goto (tgt := 56) hx hb dX8_charactersIn_52 (by decide) ?_
            exact hret _ _ _ _ _ _ (by first | rw [hv9, mCtl, if_pos c_4] | rw [hv9, mCtl, if_neg c_4]) rfl rfl hP hS dX8_charactersIn_56
        · refine lv_lload_n hx hb dX8_charactersIn_20 rfl (lv_at hl 0 rfl) ?_
          refine lv_ldc2 (own := RX8) (v := 255) hx hb hown (hts _ bw_1039) dX8_charactersIn_21 ?_
          refine lv_land hx hb dX8_charactersIn_24 ?_
          refine lv_l2i hx hb dX8_charactersIn_25 rfl ?_
          refine rwS1 (rest := []) S (c_X8_isCharacter l E (((pkR z k) &&& 255).toInt32)) cd_X8_isCharacter bw_1040 ⟨Nat.le_of_ble_eq_true rfl, Nat.le_of_ble_eq_true rfl⟩ ⟨Nat.zero_le _, Nat.zero_le _⟩ hP (hDa.to rfl) hE hA hS [] rfl rfl [] rfl rfl (Nat.le_of_ble_eq_true rfl) hl.1 dX8_charactersIn_26 (fun H locs hP _ hS => ?_)
          have hP : va_P E.1 vwCl [] H := hP
          refine lv_if_ne (tgt := 34) hx hb dX8_charactersIn_29 (by decide) (fun c_5 => ?_) (fun c_5 => ?_)
          · refine lv_lload_n hx hb dX8_charactersIn_34 rfl (lv_at hl 0 rfl) ?_
            refine lv_bipush (v := nI 8) hx hb dX8_charactersIn_35 (by decide) ?_
            refine lv_lushr hx hb dX8_charactersIn_37 rfl ?_
            refine lv_lstore_n (lv' := [(3, .long (((pkR z k).toUInt64 >>> ((nI 8).toInt64.toUInt64 &&& Int64.toUInt64 63)).toInt64)), (2, .int (nI k)), (0, .long z)]) hx hb dX8_charactersIn_38 rfl hl (by decide) rfl (fun ls hl => ?_)
            refine rn_inc (a := k) (d := 1) (lv' := [(2, .int (nI (k + 1))), (3, .long (((pkR z k).toUInt64 >>> ((nI 8).toInt64.toUInt64 &&& Int64.toUInt64 63)).toInt64)), (0, .long z)]) hx hb dX8_charactersIn_39 hl (k := 1) rfl (by decide) (by decide) rfl (fun ls hl => ?_)
            refine lv_goto (tgt := 4) hx hb dX8_charactersIn_42 (by decide) ?_
            have hl : lv_has ls 5 [(3, .long (pkR z (k + 1))), (2, .int (nI (k + 1))), (0, .long z)] := lv_sub hl [1, 0, 2] rfl
            exact ih4 (k + 1) (by omega) (by omega) (lt_s hall (mSk_n c_3 c_5)) _ _ hP hS _ hl
          · refine lv_iconst (v := nI 0) hx hb dX8_charactersIn_32 (by decide) ?_
            exact hret _ _ _ _ _ _ (by rw [mCin, show mIK z = k from ffz_at hall (mSk_b c_3 c_5) (by omega), if_neg (by omega), if_neg c_3]) rfl rfl hP hS dX8_charactersIn_33
  have hl : lv_has ls 5 [(3, .long (pkR z 0)), (2, .int (nI 0)), (0, .long z)] := lv_sub hl [0, 1, 2] rfl
  exact loop4 _ 0 (Nat.lt_succ_self _) (by omega) (fun i h9 => absurd h9 (Nat.not_lt_zero i)) _ _ hP hS _ hl

def chrM (z : Int64) (j : Nat) : Int32 := ((z >>> ((nI (8 * j)).toInt64 &&& 63)) &&& 255).toInt32
def mPt (t : Nat → Int32) (L : Nat) (z : Int64) (n : Nat) : Nat → Nat → Int32
  | 0 => t
  | m + 1 => upd (mPt t L z n m) (L + m) (chrM z (n - m - 1))
def mPuV (L : Nat) (z : Int64) : Int32 := if mCin z = 0 then -2 else if L + mCin z ≤ 80 then nI (L + mCin z) else -4
def mPuL (L : Nat) (z : Int64) : Nat := if mCin z = 0 then L else if L + mCin z ≤ 80 then L + mCin z else L
def mPuT (t : Nat → Int32) (L : Nat) (z : Int64) : Nat → Int32 := if mCin z = 0 then t else if L + mCin z ≤ 80 then mPt t L z (mCin z) (mCin z) else t
theorem cd_X8_put : cdV RX8 yX8_put cX8_put 5 (some .int) 1 := ⟨⟨bw_1035, bw_65, by decide, by decide, by decide +kernel⟩, bw_1033, bw_1034⟩
set_option maxHeartbeats 4000000 in
set_option maxRecDepth 100000 in
theorem c_X8_put (l : Launch) (E : EV) (xo : Nat) (st : Nat) (sp : Nat) (th : Nat) (so : Nat) (sv : Nat) (pd : Nat) (nu : Nat) (sn : Nat) (ln : Nat) (ta : Nat) (sg : Int32) (gt : Nat → Int32) (z : Int64) (hln : ln ≤ 80) : rcI l E yX8_put cX8_put 5 .int 3 [.ref xo, .long z] [(xo, .inr (5, [.ref st, .ref sp, .ref th, .int (nI sn), .ref so, .ref sv, .ref pd, .int (nI ln), .int (nI ta), .int sg, .ref nu])), (pd, .inl (E.2.1, 80, .inl gt))] (mPuV ln z) [(xo, .inr (5, [.ref st, .ref sp, .ref th, .int (nI sn), .ref so, .ref sv, .ref pd, .int (nI (mPuL ln z)), .int (nI ta), .int sg, .ref nu])), (pd, .inl (E.2.1, 80, .inl (mPuT gt ln z)))] := by
  refine rcI_of (by decide) (Nat.le_of_ble_eq_true rfl) ?_
  intro pg e s m below meth c Q A ls S hP hD0 hE hA hl hret
  have hx := S.1
  have hb := S.2.1
  have hown := S.2.2.2.1
  have hts := S.2.2.2.2
  have hK := hE.1
  have hS : va_S A s.heap s.heap [] := va_S.rf
  have hDa : va_Da A [xo, pd] := ⟨_, hD0, rfl⟩
  have hl : lv_has ls 5 [(0, .ref xo), (1, .long z)] := hl
  have hcz := mCin_le z
  refine lv_lload_n hx hb dX8_put_0 rfl (lv_at hl 1 rfl) ?_
  refine rwS1 (rest := []) S (c_X8_charactersIn l E z) cd_X8_charactersIn bw_1036 ⟨Nat.le_of_ble_eq_true rfl, Nat.le_of_ble_eq_true rfl⟩ ⟨Nat.zero_le _, Nat.zero_le _⟩ hP (hDa.to rfl) hE hA hS [] rfl rfl [] rfl rfl (Nat.le_of_ble_eq_true rfl) hl.1 dX8_put_1 (fun H locs hP _ hS => ?_)
  have hP : va_P E.1 vwCl [(xo, .inr (5, [.ref st, .ref sp, .ref th, .int (nI sn), .ref so, .ref sv, .ref pd, .int (nI ln), .int (nI ta), .int sg, .ref nu])), (pd, .inl (E.2.1, 80, .inl gt))] H := hP
  generalize hcn : mCin z = n9 at hcz ⊢
  refine lv_istore_n (lv' := [(3, .int (nI n9)), (0, .ref xo), (1, .long z)]) hx hb dX8_put_4 rfl hl (by decide) rfl (fun ls hl => ?_)
  refine lv_iload_n hx hb dX8_put_5 rfl (lv_at hl 0 rfl) ?_
  refine rn_if_ne (a := n9) (tgt := 12) hx hb (by omega) dX8_put_6 (by decide) (fun c_1 => ?_) (fun c_1 => ?_)
  · refine lv_aload_n hx hb dX8_put_12 rfl (lv_at hl 1 rfl) ?_
    refine va_get (D := E.1) (ci := 5) (v := .int (nI ln)) (C := RX8) (T := TX8) (N := 11) hx hb hts inb_X8 hown hK hP 0 rfl rfl 7 (by decide) (hts _ bw_717) (fun _ h9 => h9) rfl dX8_put_13 ?_
    refine lv_iload_n hx hb dX8_put_16 rfl (lv_at hl 0 rfl) ?_
    refine rn_add (a := ln) (b := n9) hx hb dX8_put_17 ?_
    refine lv_bipush (v := nI 80) hx hb dX8_put_18 (by decide) ?_
    refine rn_icmp_le (a := ln + n9) (b := 80) (tgt := 26) hx hb (by omega) (by omega) dX8_put_20 (by decide) (fun c_2 => ?_) (fun c_2 => ?_)
    · refine lv_iload_n hx hb dX8_put_26 rfl (lv_at hl 0 rfl) ?_
      refine lv_iconst (v := nI 1) hx hb dX8_put_27 (by decide) ?_
      refine rn_sub (a := n9) (b := 1) hx hb dX8_put_28 (by omega) ?_
      refine lv_istore (lv' := [(4, .int (nI (n9 - 1))), (3, .int (nI n9)), (0, .ref xo), (1, .long z)]) hx hb dX8_put_29 hl (by decide) rfl (fun ls hl => ?_)
      have loop31 : ∀ (fuel : Nat) (m9 : Nat), n9 - m9 < fuel → (m9 ≤ n9) → ∀ (H : Heap) (locs : List Loc), va_P E.1 vwCl [(xo, .inr (5, [.ref st, .ref sp, .ref th, .int (nI sn), .ref so, .ref sv, .ref pd, .int (nI (ln + m9)), .int (nI ta), .int sg, .ref nu])), (pd, .inl (E.2.1, 80, .inl (mPt gt ln z n9 m9)))] H → va_S A s.heap H locs → ∀ ls : Array Slot, lv_has ls 5 [(4, .int (nI (n9 - m9) - nI 1)), (3, .int (nI n9)), (0, .ref xo), (1, .long z)] → W pg l e (rq 3) s m ([.ref xo, .long z] : List Value).toArray below meth c H locs 0 0 Q (F0 m 31 ls []) := by
        intro fuel
        induction fuel with
        | zero => intro m9 h9; exact absurd h9 (Nat.not_lt_zero _)
        | succ fuel ih31 =>
          intro m9 hfu31 hm H locs hP hS ls hl
          refine lv_iload hx hb dX8_put_31 (lv_at hl 0 rfl) ?_
          refine lv_if_lt (tgt := 73) hx hb dX8_put_33 (by decide) (fun c_3 => ?_) (fun c_3 => ?_)
          · have hm9 : m9 = n9 := (by have e9 := i32_lt1 (by omega) c_3; omega)
            refine lv_aload_n hx hb dX8_put_73 rfl (lv_at hl 2 rfl) ?_
            refine va_get (D := E.1) (ci := 5) (v := .int (nI (ln + m9))) (C := RX8) (T := TX8) (N := 11) hx hb hts inb_X8 hown hK hP 0 rfl rfl 7 (by decide) (hts _ bw_717) (fun _ h9 => h9) rfl dX8_put_74 ?_
            exact hret _ _ _ _ _ _ (by rw [mPuV, hcn, if_neg c_1, if_pos c_2, hm9]) (by rw [mPuL, mPuT, hcn, if_neg c_1, if_pos c_2, if_neg c_1, if_pos c_2, hm9]) rfl hP hS dX8_put_77
          · have hp9 := i32_ge1 (by omega) c_3
            have hl : lv_has ls 5 [(4, .int (nI (n9 - m9 - 1))), (3, .int (nI n9)), (0, .ref xo), (1, .long z)] := by rw [show nI (n9 - m9) - nI 1 = nI (n9 - m9 - 1) from pk_sub hp9] at hl; exact hl
            refine lv_aload_n hx hb dX8_put_36 rfl (lv_at hl 2 rfl) ?_
            refine va_get (D := E.1) (ci := 5) (v := .ref pd) (C := RX8) (T := TX8) (N := 11) hx hb hts inb_X8 hown hK hP 0 rfl rfl 6 (by decide) (hts _ bw_716) (fun _ h9 => h9) rfl dX8_put_37 ?_
            refine lv_aload_n hx hb dX8_put_40 rfl (lv_at hl 2 rfl) ?_
            refine va_get (D := E.1) (ci := 5) (v := .int (nI (ln + m9))) (C := RX8) (T := TX8) (N := 11) hx hb hts inb_X8 hown hK hP 0 rfl rfl 7 (by decide) (hts _ bw_717) (fun _ h9 => h9) rfl dX8_put_41 ?_
            refine lv_lload_n hx hb dX8_put_44 rfl (lv_at hl 3 rfl) ?_
            refine lv_bipush (v := nI 8) hx hb dX8_put_45 (by decide) ?_
            refine lv_iload hx hb dX8_put_47 (lv_at hl 0 rfl) ?_
            refine rn_mul (a := 8) (b := n9 - m9 - 1) hx hb dX8_put_49 ?_
            refine lv_lshr hx hb dX8_put_50 rfl ?_
            refine lv_ldc2 (own := RX8) (v := 255) hx hb hown (hts _ bw_1039) dX8_put_51 ?_
            refine lv_land hx hb dX8_put_54 ?_
            refine lv_l2i hx hb dX8_put_55 rfl ?_
            refine rn_iast (i := ln + m9) hx hb hK hP (hDa.to rfl) hS 1 0 rfl rfl (by omega) (by omega) dX8_put_56 (fun H locs hP _ hS => ?_)
            have hP : va_P E.1 vwCl [(xo, .inr (5, [.ref st, .ref sp, .ref th, .int (nI sn), .ref so, .ref sv, .ref pd, .int (nI (ln + m9)), .int (nI ta), .int sg, .ref nu])), (pd, .inl (E.2.1, 80, .inl (upd (mPt gt ln z n9 m9) (ln + m9) (((z >>> ((nI (8 * (n9 - m9 - 1))).toInt64 &&& 63)) &&& 255).toInt32))))] H := hP
            refine lv_aload_n hx hb dX8_put_57 rfl (lv_at hl 2 rfl) ?_
            refine lv_dup hx hb dX8_put_58 rfl ?_
            refine va_get (D := E.1) (ci := 5) (v := .int (nI (ln + m9))) (C := RX8) (T := TX8) (N := 11) hx hb hts inb_X8 hown hK hP 0 rfl rfl 7 (by decide) (hts _ bw_717) (fun _ h9 => h9) rfl dX8_put_59 ?_
            refine lv_iconst (v := nI 1) hx hb dX8_put_62 (by decide) ?_
            refine rn_add (a := ln + m9) (b := 1) hx hb dX8_put_63 ?_
            refine va_put (D := E.1) (ci := 5) (v := .int (nI (ln + m9 + 1))) (ty := .int) (C := RX8) (T := TX8) (N := 11) hx hb hts inb_X8 tyX8 tyX8_ok nmX8 hown hK hP (hDa.to rfl) hS 0 rfl rfl 7 (by decide) (hts _ bw_717) (fun _ h9 => h9) rfl (by decide +kernel) rfl rfl (Nat.le_of_ble_eq_true rfl) dX8_put_64 (fun H locs hP _ hS => ?_)
            have hP : va_P E.1 vwCl [(xo, .inr (5, [.ref st, .ref sp, .ref th, .int (nI sn), .ref so, .ref sv, .ref pd, .int (nI (ln + m9 + 1)), .int (nI ta), .int sg, .ref nu])), (pd, .inl (E.2.1, 80, .inl (upd (mPt gt ln z n9 m9) (ln + m9) (((z >>> ((nI (8 * (n9 - m9 - 1))).toInt64 &&& 63)) &&& 255).toInt32))))] H := hP
            refine lv_iinc (v := nI (n9 - m9 - 1) + (-1)) (lv' := [(4, .int (nI (n9 - m9 - 1) + (-1))), (3, .int (nI n9)), (0, .ref xo), (1, .long z)]) hx hb dX8_put_67 hl (k := 0) rfl (by rfl) (by decide) rfl (fun ls hl => ?_)
            refine lv_goto (tgt := 31) hx hb dX8_put_70 (by decide) ?_
            have hP : va_P E.1 vwCl [(xo, .inr (5, [.ref st, .ref sp, .ref th, .int (nI sn), .ref so, .ref sv, .ref pd, .int (nI (ln + (m9 + 1))), .int (nI ta), .int sg, .ref nu])), (pd, .inl (E.2.1, 80, .inl (mPt gt ln z n9 (m9 + 1))))] H := by exact hP
            have hl : lv_has ls 5 [(4, .int (nI (n9 - m9 - 1) + (-1))), (3, .int (nI n9)), (0, .ref xo), (1, .long z)] := lv_sub hl [0, 1, 2, 3] rfl
            have hl : lv_has ls 5 [(4, .int (nI (n9 - (m9 + 1)) - nI 1)), (3, .int (nI n9)), (0, .ref xo), (1, .long z)] := by rw [show n9 - (m9 + 1) = n9 - m9 - 1 by omega, i32_m1]; exact hl
            exact ih31 (m9 + 1) (by omega) (by omega) _ _ hP hS _ hl
      have hP : va_P E.1 vwCl [(xo, .inr (5, [.ref st, .ref sp, .ref th, .int (nI sn), .ref so, .ref sv, .ref pd, .int (nI (ln + 0)), .int (nI ta), .int sg, .ref nu])), (pd, .inl (E.2.1, 80, .inl (mPt gt ln z n9 0)))] H := by exact hP
      have hl : lv_has ls 5 [(4, .int (nI (n9 - 1))), (3, .int (nI n9)), (0, .ref xo), (1, .long z)] := lv_sub hl [0, 1, 2, 3] rfl
      have hl : lv_has ls 5 [(4, .int (nI (n9 - 0) - nI 1)), (3, .int (nI n9)), (0, .ref xo), (1, .long z)] := by rw [Nat.sub_zero, pk_sub (by omega)]; exact hl
      exact loop31 _ 0 (Nat.lt_succ_self _) (by omega) _ _ hP hS _ hl
    · refine lv_bipush (v := (-4)) hx hb dX8_put_23 (by decide) ?_
      exact hret _ _ _ _ _ _ (by rw [mPuV, hcn, if_neg c_1, if_neg c_2]) (by rw [mPuL, mPuT, hcn, if_neg c_1, if_neg c_2, if_neg c_1, if_neg c_2]) rfl hP hS dX8_put_25
  · refine lv_bipush (v := (-2)) hx hb dX8_put_9 (by decide) ?_
    exact hret _ _ _ _ _ _ (by rw [mPuV, hcn, if_pos c_1]) (by rw [mPuL, mPuT, hcn, if_pos c_1, if_pos c_1]) rfl hP hS dX8_put_11

theorem cd_X8_wipe : cdV RX8 yX8_wipe cX8_wipe 2 (some .int) 0 := ⟨⟨bw_1046, bw_65, by decide, by decide, by decide +kernel⟩, bw_1044, bw_1045⟩
set_option maxHeartbeats 4000000 in
set_option maxRecDepth 100000 in
theorem c_X8_wipe (l : Launch) (E : EV) (xo : Nat) (st : Nat) (sp : Nat) (th : Nat) (so : Nat) (sv : Nat) (pd : Nat) (nu : Nat) (sn : Nat) (ln : Nat) (ta : Nat) (sg : Int32)  : rcI l E yX8_wipe cX8_wipe 2 .int 0 [.ref xo] [(xo, .inr (5, [.ref st, .ref sp, .ref th, .int (nI sn), .ref so, .ref sv, .ref pd, .int (nI ln), .int (nI ta), .int sg, .ref nu]))] (nI ln) [(xo, .inr (5, [.ref st, .ref sp, .ref th, .int (nI sn), .ref so, .ref sv, .ref pd, .int (nI 0), .int (nI ta), .int sg, .ref nu]))] := by
  refine rcI_of (by decide) (Nat.le_of_ble_eq_true rfl) ?_
  intro pg e s m below meth c Q A ls S hP hD0 hE hA hl hret
  have hx := S.1
  have hb := S.2.1
  have hown := S.2.2.2.1
  have hts := S.2.2.2.2
  have hK := hE.1
  have hS : va_S A s.heap s.heap [] := va_S.rf
  have hDa : va_Da A [xo] := ⟨_, hD0, rfl⟩
  have hl : lv_has ls 2 [(0, .ref xo)] := hl
  refine lv_aload_n hx hb dX8_wipe_0 rfl (lv_at hl 0 rfl) ?_
  refine va_get (D := E.1) (ci := 5) (v := .int (nI ln)) (C := RX8) (T := TX8) (N := 11) hx hb hts inb_X8 hown hK hP 0 rfl rfl 7 (by decide) (hts _ bw_717) (fun _ h9 => h9) rfl dX8_wipe_1 ?_
  refine lv_istore_n (lv' := [(1, .int (nI ln)), (0, .ref xo)]) hx hb dX8_wipe_4 rfl hl (by decide) rfl (fun ls hl => ?_)
  refine lv_aload_n hx hb dX8_wipe_5 rfl (lv_at hl 1 rfl) ?_
  refine lv_iconst (v := nI 0) hx hb dX8_wipe_6 (by decide) ?_
  refine va_put (D := E.1) (ci := 5) (v := .int (nI 0)) (ty := .int) (C := RX8) (T := TX8) (N := 11) hx hb hts inb_X8 tyX8 tyX8_ok nmX8 hown hK hP (hDa.to rfl) hS 0 rfl rfl 7 (by decide) (hts _ bw_717) (fun _ h9 => h9) rfl (by decide +kernel) rfl rfl (Nat.le_of_ble_eq_true rfl) dX8_wipe_7 (fun H locs hP _ hS => ?_)
  have hP : va_P E.1 vwCl [(xo, .inr (5, [.ref st, .ref sp, .ref th, .int (nI sn), .ref so, .ref sv, .ref pd, .int (nI 0), .int (nI ta), .int sg, .ref nu]))] H := hP
  refine lv_iload_n hx hb dX8_wipe_10 rfl (lv_at hl 0 rfl) ?_
  exact hret _ _ _ _ _ _ rfl rfl rfl hP hS dX8_wipe_11

theorem cd_X8_code : cdV RX8 yX8_code cX8_code 1 (some .int) 0 := ⟨⟨bw_1062, bw_65, by decide, by decide, by decide +kernel⟩, bw_1061, bw_51⟩
def mCd (gt : Nat → Int32) (ln : Nat) (ta : Nat) : Int32 := if ln ≤ ta then nI 0 else gt ta
set_option maxHeartbeats 4000000 in
set_option maxRecDepth 100000 in
theorem c_X8_code (l : Launch) (E : EV) (xo : Nat) (st : Nat) (sp : Nat) (th : Nat) (so : Nat) (sv : Nat) (pd : Nat) (nu : Nat) (sn : Nat) (ln : Nat) (ta : Nat) (sg : Int32) (gt : Nat → Int32) (hln : ln ≤ 80) (hta : ta ≤ ln) : rcI l E yX8_code cX8_code 1 .int 0 [.ref xo] [(xo, .inr (5, [.ref st, .ref sp, .ref th, .int (nI sn), .ref so, .ref sv, .ref pd, .int (nI ln), .int (nI ta), .int sg, .ref nu])), (pd, .inl (E.2.1, 80, .inl gt))] (mCd gt ln ta) [(xo, .inr (5, [.ref st, .ref sp, .ref th, .int (nI sn), .ref so, .ref sv, .ref pd, .int (nI ln), .int (nI ta), .int sg, .ref nu])), (pd, .inl (E.2.1, 80, .inl gt))] := by
  refine rcI_of (by decide) (Nat.le_of_ble_eq_true rfl) ?_
  intro pg e s m below meth c Q A ls S hP hD0 hE hA hl hret
  have hx := S.1
  have hb := S.2.1
  have hown := S.2.2.2.1
  have hts := S.2.2.2.2
  have hK := hE.1
  have hS : va_S A s.heap s.heap [] := va_S.rf
  have hDa : va_Da A [xo, pd] := ⟨_, hD0, rfl⟩
  have hl : lv_has ls 1 [(0, .ref xo)] := hl
  refine lv_aload_n hx hb dX8_code_0 rfl (lv_at hl 0 rfl) ?_
  refine va_get (D := E.1) (ci := 5) (v := .int (nI ta)) (C := RX8) (T := TX8) (N := 11) hx hb hts inb_X8 hown hK hP 0 rfl rfl 8 (by decide) (hts _ bw_718) (fun _ h9 => h9) rfl dX8_code_1 ?_
  refine lv_aload_n hx hb dX8_code_4 rfl (lv_at hl 0 rfl) ?_
  refine va_get (D := E.1) (ci := 5) (v := .int (nI ln)) (C := RX8) (T := TX8) (N := 11) hx hb hts inb_X8 hown hK hP 0 rfl rfl 7 (by decide) (hts _ bw_717) (fun _ h9 => h9) rfl dX8_code_5 ?_
  refine rn_icmp_ge (a := ta) (b := ln) (tgt := 23) hx hb (by omega) (by omega) dX8_code_8 (by decide) (fun c_1 => ?_) (fun c_1 => ?_)
  · refine lv_iconst (v := nI 0) hx hb dX8_code_23 (by decide) ?_
    exact hret _ _ _ _ _ _ (by rw [mCd, if_pos c_1]) rfl rfl hP hS dX8_code_24
  · refine lv_aload_n hx hb dX8_code_11 rfl (lv_at hl 0 rfl) ?_
    refine va_get (D := E.1) (ci := 5) (v := .ref pd) (C := RX8) (T := TX8) (N := 11) hx hb hts inb_X8 hown hK hP 0 rfl rfl 6 (by decide) (hts _ bw_716) (fun _ h9 => h9) rfl dX8_code_12 ?_
    refine lv_aload_n hx hb dX8_code_15 rfl (lv_at hl 0 rfl) ?_
    refine va_get (D := E.1) (ci := 5) (v := .int (nI ta)) (C := RX8) (T := TX8) (N := 11) hx hb hts inb_X8 hown hK hP 0 rfl rfl 8 (by decide) (hts _ bw_718) (fun _ h9 => h9) rfl dX8_code_16 ?_
    refine rn_iald (i := ta) hx hb hK hP 1 0 rfl rfl (by omega) (by omega) dX8_code_19 ?_
    refine lv_goto (tgt := 24) hx hb dX8_code_20 (by decide) ?_
    exact hret _ _ _ _ _ _ (by rw [mCd, if_neg c_1]) rfl rfl hP hS dX8_code_24

theorem mCd_0 {gt : Nat → Int32} {ln ta : Nat} (h : ln ≤ ta) : mCd gt ln ta = nI 0 := by
  unfold mCd
  rw [if_pos h]
theorem mCd_lt {gt : Nat → Int32} {ln ta : Nat} (h : ¬ mCd gt ln ta = 0) : ta < ln := by
  rcases Nat.lt_or_ge ta ln with c | c
  · exact c
  · exact absurd (mCd_0 c) h
theorem mNm_lt {gt : Nat → Int32} {ln ta : Nat} (h : ¬ mIw (mCd gt ln ta - nI 48) (nI 0) (nI 9) = 0) : ta < ln := by
  rcases Nat.lt_or_ge ta ln with c | c
  · exact c
  · rw [mCd_0 c] at h; exact absurd (by decide) h
theorem mNd_lt {gt : Nat → Int32} {ln ta : Nat} (h : ¬ mIw (mCd gt ln ta) (nI 48) (nI 57) = 0) : ta < ln := by
  rcases Nat.lt_or_ge ta ln with c | c
  · exact c
  · rw [mCd_0 c] at h; exact absurd (by decide) h
theorem cd_X8_takes : cdV RX8 yX8_takes cX8_takes 3 (some .boolean) 1 := ⟨⟨bw_1070, bw_65, by decide, by decide, by decide +kernel⟩, bw_1069, bw_53⟩
def mTk (gt : Nat → Int32) (ln : Nat) (ta : Nat) (x : Int32) : Int32 := if mCd gt ln ta = x then nI 1 else nI 0
theorem mTk_z (gt : Nat → Int32) (ln : Nat) (ta : Nat) (x : Int32) : narrow .boolean (.int (mTk gt ln ta x)) = .int (mTk gt ln ta x) := by
  unfold mTk
  (repeat' (with_reducible refine nz_ite ?_ ?_))
  all_goals first | decide | rfl
def mTkA (gt : Nat → Int32) (ln : Nat) (ta : Nat) (x : Int32) : Nat := if mCd gt ln ta = x then ta + 1 else ta + 0
set_option maxHeartbeats 4000000 in
set_option maxRecDepth 100000 in
theorem c_X8_takes (l : Launch) (E : EV) (xo : Nat) (st : Nat) (sp : Nat) (th : Nat) (so : Nat) (sv : Nat) (pd : Nat) (nu : Nat) (sn : Nat) (ln : Nat) (ta : Nat) (sg : Int32) (gt : Nat → Int32) (x : Int32) (hln : ln ≤ 80) (hta : ta ≤ ln) : rcI l E yX8_takes cX8_takes 3 .boolean 1 [.ref xo, .int x] [(xo, .inr (5, [.ref st, .ref sp, .ref th, .int (nI sn), .ref so, .ref sv, .ref pd, .int (nI ln), .int (nI ta), .int sg, .ref nu])), (pd, .inl (E.2.1, 80, .inl gt))] (mTk gt ln ta x) [(xo, .inr (5, [.ref st, .ref sp, .ref th, .int (nI sn), .ref so, .ref sv, .ref pd, .int (nI ln), .int (nI (mTkA gt ln ta x)), .int sg, .ref nu])), (pd, .inl (E.2.1, 80, .inl gt))] := by
  refine rcI_of (by decide) (Nat.le_of_ble_eq_true rfl) ?_
  intro pg e s m below meth c Q A ls S hP hD0 hE hA hl hret
  have hx := S.1
  have hb := S.2.1
  have hown := S.2.2.2.1
  have hts := S.2.2.2.2
  have hK := hE.1
  have hS : va_S A s.heap s.heap [] := va_S.rf
  have hDa : va_Da A [xo, pd] := ⟨_, hD0, rfl⟩
  have hl : lv_has ls 3 [(0, .ref xo), (1, .int x)] := hl
  refine lv_aload_n hx hb dX8_takes_0 rfl (lv_at hl 0 rfl) ?_
  refine rwV0 (rest := []) S (c_X8_code l E xo st sp th so sv pd nu sn ln ta sg gt hln hta) cd_X8_code bw_1059 ⟨Nat.le_of_ble_eq_true rfl, Nat.le_of_ble_eq_true rfl⟩ ⟨Nat.zero_le _, Nat.zero_le _⟩ hP (hDa.to rfl) hE hA hS [0, 1] rfl rfl [xo, pd] rfl rfl (ci := 5) rfl (q0 := 0) rfl (Nat.le_of_ble_eq_true rfl) hl.1 dX8_takes_1 (fun H locs hP _ hS => ?_)
  have hP : va_P E.1 vwCl [(xo, .inr (5, [.ref st, .ref sp, .ref th, .int (nI sn), .ref so, .ref sv, .ref pd, .int (nI ln), .int (nI ta), .int sg, .ref nu])), (pd, .inl (E.2.1, 80, .inl gt))] H := hP
  refine lv_iload_n hx hb dX8_takes_4 rfl (lv_at hl 1 rfl) ?_
  refine lv_icmp_ne (tgt := 12) hx hb dX8_takes_5 (by decide) (fun c_1 => ?_) (fun c_1 => ?_)
  · refine lv_iconst (v := nI 0) hx hb dX8_takes_12 (by decide) ?_
    refine lv_istore_n (lv' := [(2, .int (nI 0)), (0, .ref xo), (1, .int x)]) hx hb dX8_takes_13 rfl hl (by decide) rfl (fun ls hl => ?_)
    refine lv_aload_n hx hb dX8_takes_14 rfl (lv_at hl 1 rfl) ?_
    refine lv_dup hx hb dX8_takes_15 rfl ?_
    refine va_get (D := E.1) (ci := 5) (v := .int (nI ta)) (C := RX8) (T := TX8) (N := 11) hx hb hts inb_X8 hown hK hP 0 rfl rfl 8 (by decide) (hts _ bw_718) (fun _ h9 => h9) rfl dX8_takes_16 ?_
    refine lv_iload_n hx hb dX8_takes_19 rfl (lv_at hl 0 rfl) ?_
    refine lv_if_eq (tgt := 27) hx hb dX8_takes_20 (by decide) (fun _ => ?_) (fun c9 => by first | exact absurd (by decide) c9 | exact absurd c9 (by decide))
    refine lv_iconst (v := nI 0) hx hb dX8_takes_27 (by decide) ?_
    refine rn_add (a := ta) (b := 0) hx hb dX8_takes_28 ?_
    refine va_put (D := E.1) (ci := 5) (v := .int (nI (ta + 0))) (ty := .int) (C := RX8) (T := TX8) (N := 11) hx hb hts inb_X8 tyX8 tyX8_ok nmX8 hown hK hP (hDa.to rfl) hS 0 rfl rfl 8 (by decide) (hts _ bw_718) (fun _ h9 => h9) rfl (by decide +kernel) rfl rfl (Nat.le_of_ble_eq_true rfl) dX8_takes_29 (fun H locs hP _ hS => ?_)
    have hP : va_P E.1 vwCl [(xo, .inr (5, [.ref st, .ref sp, .ref th, .int (nI sn), .ref so, .ref sv, .ref pd, .int (nI ln), .int (nI (ta + 0)), .int sg, .ref nu])), (pd, .inl (E.2.1, 80, .inl gt))] H := hP
    refine lv_iload_n hx hb dX8_takes_32 rfl (lv_at hl 0 rfl) ?_
    exact hret _ _ _ _ _ _ (by rw [mTk, if_neg c_1]) (by rw [mTkA, if_neg c_1]) (by decide) hP hS dX8_takes_33
  · refine lv_iconst (v := nI 1) hx hb dX8_takes_8 (by decide) ?_
    refine lv_goto (tgt := 13) hx hb dX8_takes_9 (by decide) ?_
    refine lv_istore_n (lv' := [(2, .int (nI 1)), (0, .ref xo), (1, .int x)]) hx hb dX8_takes_13 rfl hl (by decide) rfl (fun ls hl => ?_)
    refine lv_aload_n hx hb dX8_takes_14 rfl (lv_at hl 1 rfl) ?_
    refine lv_dup hx hb dX8_takes_15 rfl ?_
    refine va_get (D := E.1) (ci := 5) (v := .int (nI ta)) (C := RX8) (T := TX8) (N := 11) hx hb hts inb_X8 hown hK hP 0 rfl rfl 8 (by decide) (hts _ bw_718) (fun _ h9 => h9) rfl dX8_takes_16 ?_
    refine lv_iload_n hx hb dX8_takes_19 rfl (lv_at hl 0 rfl) ?_
    refine lv_if_eq (tgt := 27) hx hb dX8_takes_20 (by decide) (fun c9 => by first | exact absurd c9 (by decide) | exact absurd (by decide) c9) (fun _ => ?_)
    refine lv_iconst (v := nI 1) hx hb dX8_takes_23 (by decide) ?_
    refine lv_goto (tgt := 28) hx hb dX8_takes_24 (by decide) ?_
    refine rn_add (a := ta) (b := 1) hx hb dX8_takes_28 ?_
    refine va_put (D := E.1) (ci := 5) (v := .int (nI (ta + 1))) (ty := .int) (C := RX8) (T := TX8) (N := 11) hx hb hts inb_X8 tyX8 tyX8_ok nmX8 hown hK hP (hDa.to rfl) hS 0 rfl rfl 8 (by decide) (hts _ bw_718) (fun _ h9 => h9) rfl (by decide +kernel) rfl rfl (Nat.le_of_ble_eq_true rfl) dX8_takes_29 (fun H locs hP _ hS => ?_)
    have hP : va_P E.1 vwCl [(xo, .inr (5, [.ref st, .ref sp, .ref th, .int (nI sn), .ref so, .ref sv, .ref pd, .int (nI ln), .int (nI (ta + 1)), .int sg, .ref nu])), (pd, .inl (E.2.1, 80, .inl gt))] H := hP
    refine lv_iload_n hx hb dX8_takes_32 rfl (lv_at hl 0 rfl) ?_
    exact hret _ _ _ _ _ _ (by rw [mTk, if_pos c_1]) (by rw [mTkA, if_pos c_1]) (by decide) hP hS dX8_takes_33

theorem mTkA_le {gt : Nat → Int32} {ln ta : Nat} {x : Int32} (hta : ta ≤ ln) (hx0 : ¬ x = 0) : mTkA gt ln ta x ≤ ln := by
  unfold mTkA
  split
  · rename_i c
    have : ta < ln := mCd_lt (by rw [c]; exact hx0)
    omega
  · omega
theorem cd_X8_readsNumber : cdV RX8 yX8_readsNumber cX8_readsNumber 3 (some .boolean) 1 := ⟨⟨bw_1066, bw_65, by decide, by decide, by decide +kernel⟩, bw_1065, bw_52⟩
def mRn (gt : Nat → Int32) (ln : Nat) (ta : Nat) (gu : Nat → Int32) (q : Nat) : Int32 := if mIw (mCd gt ln ta - (nI 48)) (nI 0) (nI 9) = 0 then nI 0 else nI 1
theorem mRn_z (gt : Nat → Int32) (ln : Nat) (ta : Nat) (gu : Nat → Int32) (q : Nat) : narrow .boolean (.int (mRn gt ln ta gu q)) = .int (mRn gt ln ta gu q) := by
  unfold mRn
  (repeat' (with_reducible refine nz_ite ?_ ?_))
  all_goals first | decide | rfl
def mRnA (gt : Nat → Int32) (ln : Nat) (ta : Nat) (gu : Nat → Int32) (q : Nat) : Nat := if mIw (mCd gt ln ta - (nI 48)) (nI 0) (nI 9) = 0 then ta else if mCd gt ln ta - (nI 48) ≤ 0 then ta + 1 else if mIw (mCd gt ln (ta + 1)) (nI 48) (nI 57) = 0 then (ta + 1) else (ta + 1) + 1
def mRnU (gt : Nat → Int32) (ln : Nat) (ta : Nat) (gu : Nat → Int32) (q : Nat) : Nat → Int32 := if mIw (mCd gt ln ta - (nI 48)) (nI 0) (nI 9) = 0 then gu else if mCd gt ln ta - (nI 48) ≤ 0 then upd gu q (mCd gt ln ta - (nI 48)) else if mIw (mCd gt ln (ta + 1)) (nI 48) (nI 57) = 0 then upd gu q (mCd gt ln ta - (nI 48)) else upd gu q ((nI 10) * (mCd gt ln ta - (nI 48)) + (mCd gt ln (ta + 1)) - (nI 48))
set_option maxHeartbeats 4000000 in
set_option maxRecDepth 100000 in
theorem c_X8_readsNumber (l : Launch) (E : EV) (xo : Nat) (st : Nat) (sp : Nat) (th : Nat) (so : Nat) (sv : Nat) (pd : Nat) (nu : Nat) (sn : Nat) (ln : Nat) (ta : Nat) (sg : Int32) (gt : Nat → Int32) (gu : Nat → Int32) (q : Nat) (hln : ln ≤ 80) (hta : ta ≤ ln) (hq : q < 4) : rcI l E yX8_readsNumber cX8_readsNumber 3 .boolean 1 [.ref xo, .int (nI q)] [(xo, .inr (5, [.ref st, .ref sp, .ref th, .int (nI sn), .ref so, .ref sv, .ref pd, .int (nI ln), .int (nI ta), .int sg, .ref nu])), (pd, .inl (E.2.1, 80, .inl gt)), (nu, .inl (E.2.1, 4, .inl gu))] (mRn gt ln ta gu q) [(xo, .inr (5, [.ref st, .ref sp, .ref th, .int (nI sn), .ref so, .ref sv, .ref pd, .int (nI ln), .int (nI (mRnA gt ln ta gu q)), .int sg, .ref nu])), (pd, .inl (E.2.1, 80, .inl gt)), (nu, .inl (E.2.1, 4, .inl (mRnU gt ln ta gu q)))] := by
  refine rcI_of (by decide) (Nat.le_of_ble_eq_true rfl) ?_
  intro pg e s m below meth c Q A ls S hP hD0 hE hA hl hret
  have hx := S.1
  have hb := S.2.1
  have hown := S.2.2.2.1
  have hts := S.2.2.2.2
  have hK := hE.1
  have hS : va_S A s.heap s.heap [] := va_S.rf
  have hDa : va_Da A [xo, pd, nu] := ⟨_, hD0, rfl⟩
  have hl : lv_has ls 3 [(0, .ref xo), (1, .int (nI q))] := hl
  refine lv_aload_n hx hb dX8_readsNumber_0 rfl (lv_at hl 0 rfl) ?_
  refine rwV0 (rest := []) S (c_X8_code l E xo st sp th so sv pd nu sn ln ta sg gt hln hta) cd_X8_code bw_1059 ⟨Nat.le_of_ble_eq_true rfl, Nat.le_of_ble_eq_true rfl⟩ ⟨Nat.zero_le _, Nat.zero_le _⟩ hP (hDa.to rfl) hE hA hS [0, 1] rfl rfl [xo, pd] rfl rfl (ci := 5) rfl (q0 := 0) rfl (Nat.le_of_ble_eq_true rfl) hl.1 dX8_readsNumber_1 (fun H locs hP _ hS => ?_)
  have hP : va_P E.1 vwCl [(xo, .inr (5, [.ref st, .ref sp, .ref th, .int (nI sn), .ref so, .ref sv, .ref pd, .int (nI ln), .int (nI ta), .int sg, .ref nu])), (pd, .inl (E.2.1, 80, .inl gt)), (nu, .inl (E.2.1, 4, .inl gu))] H := hP
  refine lv_bipush (v := nI 48) hx hb dX8_readsNumber_4 (by decide) ?_
  refine lv_isub hx hb dX8_readsNumber_6 ?_
  refine lv_istore_n (lv' := [(2, .int (mCd gt ln ta - (nI 48))), (0, .ref xo), (1, .int (nI q))]) hx hb dX8_readsNumber_7 rfl hl (by decide) rfl (fun ls hl => ?_)
  refine lv_iload_n hx hb dX8_readsNumber_8 rfl (lv_at hl 0 rfl) ?_
  refine lv_iconst (v := nI 0) hx hb dX8_readsNumber_9 (by decide) ?_
  refine lv_bipush (v := nI 9) hx hb dX8_readsNumber_10 (by decide) ?_
  refine rwS3 (rest := []) S (c_X8_within l E (mCd gt ln ta - (nI 48)) (nI 0) (nI 9)) cd_X8_within bw_755 ⟨Nat.le_of_ble_eq_true rfl, Nat.le_of_ble_eq_true rfl⟩ ⟨Nat.zero_le _, Nat.zero_le _⟩ hP (hDa.to rfl) hE hA hS [] rfl rfl [] rfl rfl (Nat.le_of_ble_eq_true rfl) hl.1 dX8_readsNumber_12 (fun H locs hP _ hS => ?_)
  have hP : va_P E.1 vwCl [(xo, .inr (5, [.ref st, .ref sp, .ref th, .int (nI sn), .ref so, .ref sv, .ref pd, .int (nI ln), .int (nI ta), .int sg, .ref nu])), (pd, .inl (E.2.1, 80, .inl gt)), (nu, .inl (E.2.1, 4, .inl gu))] H := hP
  refine lv_if_ne (tgt := 20) hx hb dX8_readsNumber_15 (by decide) (fun c_1 => ?_) (fun c_1 => ?_)
  · have hlt9 := mNm_lt c_1
    refine lv_aload_n hx hb dX8_readsNumber_20 rfl (lv_at hl 1 rfl) ?_
    refine lv_dup hx hb dX8_readsNumber_21 rfl ?_
    refine va_get (D := E.1) (ci := 5) (v := .int (nI ta)) (C := RX8) (T := TX8) (N := 11) hx hb hts inb_X8 hown hK hP 0 rfl rfl 8 (by decide) (hts _ bw_718) (fun _ h9 => h9) rfl dX8_readsNumber_22 ?_
    refine lv_iconst (v := nI 1) hx hb dX8_readsNumber_25 (by decide) ?_
    refine rn_add (a := ta) (b := 1) hx hb dX8_readsNumber_26 ?_
    refine va_put (D := E.1) (ci := 5) (v := .int (nI (ta + 1))) (ty := .int) (C := RX8) (T := TX8) (N := 11) hx hb hts inb_X8 tyX8 tyX8_ok nmX8 hown hK hP (hDa.to rfl) hS 0 rfl rfl 8 (by decide) (hts _ bw_718) (fun _ h9 => h9) rfl (by decide +kernel) rfl rfl (Nat.le_of_ble_eq_true rfl) dX8_readsNumber_27 (fun H locs hP _ hS => ?_)
    have hP : va_P E.1 vwCl [(xo, .inr (5, [.ref st, .ref sp, .ref th, .int (nI sn), .ref so, .ref sv, .ref pd, .int (nI ln), .int (nI (ta + 1)), .int sg, .ref nu])), (pd, .inl (E.2.1, 80, .inl gt)), (nu, .inl (E.2.1, 4, .inl gu))] H := hP
    refine lv_iload_n hx hb dX8_readsNumber_30 rfl (lv_at hl 0 rfl) ?_
    refine lv_if_le (tgt := 71) hx hb dX8_readsNumber_31 (by decide) (fun c_2 => ?_) (fun c_2 => ?_)
    · refine lv_aload_n hx hb dX8_readsNumber_71 rfl (lv_at hl 1 rfl) ?_
      refine va_get (D := E.1) (ci := 5) (v := .ref nu) (C := RX8) (T := TX8) (N := 11) hx hb hts inb_X8 hown hK hP 0 rfl rfl 10 (by decide) (hts _ bw_720) (fun _ h9 => h9) rfl dX8_readsNumber_72 ?_
      refine lv_iload_n hx hb dX8_readsNumber_75 rfl (lv_at hl 2 rfl) ?_
      refine lv_iload_n hx hb dX8_readsNumber_76 rfl (lv_at hl 0 rfl) ?_
      refine rn_iast (i := q) hx hb hK hP (hDa.to rfl) hS 2 0 rfl rfl (by omega) (by omega) dX8_readsNumber_77 (fun H locs hP _ hS => ?_)
      have hP : va_P E.1 vwCl [(xo, .inr (5, [.ref st, .ref sp, .ref th, .int (nI sn), .ref so, .ref sv, .ref pd, .int (nI ln), .int (nI (ta + 1)), .int sg, .ref nu])), (pd, .inl (E.2.1, 80, .inl gt)), (nu, .inl (E.2.1, 4, .inl (upd gu q (mCd gt ln ta - (nI 48)))))] H := hP
      refine lv_iconst (v := nI 1) hx hb dX8_readsNumber_78 (by decide) ?_
      exact hret _ _ _ _ _ _ (by rw [mRn, if_neg c_1]) (by rw [show mRnA gt ln ta gu q = ta + 1 from by rw [mRnA, if_neg c_1, if_pos c_2], show mRnU gt ln ta gu q = upd gu q (mCd gt ln ta - (nI 48)) from by rw [mRnU, if_neg c_1, if_pos c_2]]) (by decide) hP hS dX8_readsNumber_79
    · refine lv_aload_n hx hb dX8_readsNumber_34 rfl (lv_at hl 1 rfl) ?_
      refine rwV0 (rest := []) S (c_X8_code l E xo st sp th so sv pd nu sn ln (ta + 1) sg gt hln (by omega)) cd_X8_code bw_1059 ⟨Nat.le_of_ble_eq_true rfl, Nat.le_of_ble_eq_true rfl⟩ ⟨Nat.zero_le _, Nat.zero_le _⟩ hP (hDa.to rfl) hE hA hS [0, 1] rfl rfl [xo, pd] rfl rfl (ci := 5) rfl (q0 := 0) rfl (Nat.le_of_ble_eq_true rfl) hl.1 dX8_readsNumber_35 (fun H locs hP _ hS => ?_)
      have hP : va_P E.1 vwCl [(xo, .inr (5, [.ref st, .ref sp, .ref th, .int (nI sn), .ref so, .ref sv, .ref pd, .int (nI ln), .int (nI (ta + 1)), .int sg, .ref nu])), (pd, .inl (E.2.1, 80, .inl gt)), (nu, .inl (E.2.1, 4, .inl gu))] H := hP
      refine lv_bipush (v := nI 48) hx hb dX8_readsNumber_38 (by decide) ?_
      refine lv_bipush (v := nI 57) hx hb dX8_readsNumber_40 (by decide) ?_
      refine rwS3 (rest := []) S (c_X8_within l E (mCd gt ln (ta + 1)) (nI 48) (nI 57)) cd_X8_within bw_755 ⟨Nat.le_of_ble_eq_true rfl, Nat.le_of_ble_eq_true rfl⟩ ⟨Nat.zero_le _, Nat.zero_le _⟩ hP (hDa.to rfl) hE hA hS [] rfl rfl [] rfl rfl (Nat.le_of_ble_eq_true rfl) hl.1 dX8_readsNumber_42 (fun H locs hP _ hS => ?_)
      have hP : va_P E.1 vwCl [(xo, .inr (5, [.ref st, .ref sp, .ref th, .int (nI sn), .ref so, .ref sv, .ref pd, .int (nI ln), .int (nI (ta + 1)), .int sg, .ref nu])), (pd, .inl (E.2.1, 80, .inl gt)), (nu, .inl (E.2.1, 4, .inl gu))] H := hP
      refine lv_if_eq (tgt := 71) hx hb dX8_readsNumber_45 (by decide) (fun c_3 => ?_) (fun c_3 => ?_)
      · refine lv_aload_n hx hb dX8_readsNumber_71 rfl (lv_at hl 1 rfl) ?_
        refine va_get (D := E.1) (ci := 5) (v := .ref nu) (C := RX8) (T := TX8) (N := 11) hx hb hts inb_X8 hown hK hP 0 rfl rfl 10 (by decide) (hts _ bw_720) (fun _ h9 => h9) rfl dX8_readsNumber_72 ?_
        refine lv_iload_n hx hb dX8_readsNumber_75 rfl (lv_at hl 2 rfl) ?_
        refine lv_iload_n hx hb dX8_readsNumber_76 rfl (lv_at hl 0 rfl) ?_
        refine rn_iast (i := q) hx hb hK hP (hDa.to rfl) hS 2 0 rfl rfl (by omega) (by omega) dX8_readsNumber_77 (fun H locs hP _ hS => ?_)
        have hP : va_P E.1 vwCl [(xo, .inr (5, [.ref st, .ref sp, .ref th, .int (nI sn), .ref so, .ref sv, .ref pd, .int (nI ln), .int (nI (ta + 1)), .int sg, .ref nu])), (pd, .inl (E.2.1, 80, .inl gt)), (nu, .inl (E.2.1, 4, .inl (upd gu q (mCd gt ln ta - (nI 48)))))] H := hP
        refine lv_iconst (v := nI 1) hx hb dX8_readsNumber_78 (by decide) ?_
        exact hret _ _ _ _ _ _ (by rw [mRn, if_neg c_1]) (by rw [show mRnA gt ln ta gu q = (ta + 1) from by rw [mRnA, if_neg c_1, if_neg c_2, if_pos c_3], show mRnU gt ln ta gu q = upd gu q (mCd gt ln ta - (nI 48)) from by rw [mRnU, if_neg c_1, if_neg c_2, if_pos c_3]]) (by decide) hP hS dX8_readsNumber_79
      · have hlt8 := mNd_lt c_3
        refine lv_bipush (v := nI 10) hx hb dX8_readsNumber_48 (by decide) ?_
        refine lv_iload_n hx hb dX8_readsNumber_50 rfl (lv_at hl 0 rfl) ?_
        refine lv_imul hx hb dX8_readsNumber_51 ?_
        refine lv_aload_n hx hb dX8_readsNumber_52 rfl (lv_at hl 1 rfl) ?_
        refine rwV0 (rest := [.int ((nI 10) * (mCd gt ln ta - (nI 48)))]) S (c_X8_code l E xo st sp th so sv pd nu sn ln (ta + 1) sg gt hln (by omega)) cd_X8_code bw_1059 ⟨Nat.le_of_ble_eq_true rfl, Nat.le_of_ble_eq_true rfl⟩ ⟨Nat.zero_le _, Nat.zero_le _⟩ hP (hDa.to rfl) hE hA hS [0, 1] rfl rfl [xo, pd] rfl rfl (ci := 5) rfl (q0 := 0) rfl (Nat.le_of_ble_eq_true rfl) hl.1 dX8_readsNumber_53 (fun H locs hP _ hS => ?_)
        have hP : va_P E.1 vwCl [(xo, .inr (5, [.ref st, .ref sp, .ref th, .int (nI sn), .ref so, .ref sv, .ref pd, .int (nI ln), .int (nI (ta + 1)), .int sg, .ref nu])), (pd, .inl (E.2.1, 80, .inl gt)), (nu, .inl (E.2.1, 4, .inl gu))] H := hP
        refine lv_iadd hx hb dX8_readsNumber_56 ?_
        refine lv_bipush (v := nI 48) hx hb dX8_readsNumber_57 (by decide) ?_
        refine lv_isub hx hb dX8_readsNumber_59 ?_
        refine lv_istore_n (lv' := [(2, .int ((nI 10) * (mCd gt ln ta - (nI 48)) + (mCd gt ln (ta + 1)) - (nI 48))), (0, .ref xo), (1, .int (nI q))]) hx hb dX8_readsNumber_60 rfl hl (by decide) rfl (fun ls hl => ?_)
        refine lv_aload_n hx hb dX8_readsNumber_61 rfl (lv_at hl 1 rfl) ?_
        refine lv_dup hx hb dX8_readsNumber_62 rfl ?_
        refine va_get (D := E.1) (ci := 5) (v := .int (nI (ta + 1))) (C := RX8) (T := TX8) (N := 11) hx hb hts inb_X8 hown hK hP 0 rfl rfl 8 (by decide) (hts _ bw_718) (fun _ h9 => h9) rfl dX8_readsNumber_63 ?_
        refine lv_iconst (v := nI 1) hx hb dX8_readsNumber_66 (by decide) ?_
        refine rn_add (a := (ta + 1)) (b := 1) hx hb dX8_readsNumber_67 ?_
        refine va_put (D := E.1) (ci := 5) (v := .int (nI ((ta + 1) + 1))) (ty := .int) (C := RX8) (T := TX8) (N := 11) hx hb hts inb_X8 tyX8 tyX8_ok nmX8 hown hK hP (hDa.to rfl) hS 0 rfl rfl 8 (by decide) (hts _ bw_718) (fun _ h9 => h9) rfl (by decide +kernel) rfl rfl (Nat.le_of_ble_eq_true rfl) dX8_readsNumber_68 (fun H locs hP _ hS => ?_)
        have hP : va_P E.1 vwCl [(xo, .inr (5, [.ref st, .ref sp, .ref th, .int (nI sn), .ref so, .ref sv, .ref pd, .int (nI ln), .int (nI ((ta + 1) + 1)), .int sg, .ref nu])), (pd, .inl (E.2.1, 80, .inl gt)), (nu, .inl (E.2.1, 4, .inl gu))] H := hP
        refine lv_aload_n hx hb dX8_readsNumber_71 rfl (lv_at hl 1 rfl) ?_
        refine va_get (D := E.1) (ci := 5) (v := .ref nu) (C := RX8) (T := TX8) (N := 11) hx hb hts inb_X8 hown hK hP 0 rfl rfl 10 (by decide) (hts _ bw_720) (fun _ h9 => h9) rfl dX8_readsNumber_72 ?_
        refine lv_iload_n hx hb dX8_readsNumber_75 rfl (lv_at hl 2 rfl) ?_
        refine lv_iload_n hx hb dX8_readsNumber_76 rfl (lv_at hl 0 rfl) ?_
        refine rn_iast (i := q) hx hb hK hP (hDa.to rfl) hS 2 0 rfl rfl (by omega) (by omega) dX8_readsNumber_77 (fun H locs hP _ hS => ?_)
        have hP : va_P E.1 vwCl [(xo, .inr (5, [.ref st, .ref sp, .ref th, .int (nI sn), .ref so, .ref sv, .ref pd, .int (nI ln), .int (nI ((ta + 1) + 1)), .int sg, .ref nu])), (pd, .inl (E.2.1, 80, .inl gt)), (nu, .inl (E.2.1, 4, .inl (upd gu q ((nI 10) * (mCd gt ln ta - (nI 48)) + (mCd gt ln (ta + 1)) - (nI 48)))))] H := hP
        refine lv_iconst (v := nI 1) hx hb dX8_readsNumber_78 (by decide) ?_
        exact hret _ _ _ _ _ _ (by rw [mRn, if_neg c_1]) (by rw [show mRnA gt ln ta gu q = (ta + 1) + 1 from by rw [mRnA, if_neg c_1, if_neg c_2, if_neg c_3], show mRnU gt ln ta gu q = upd gu q ((nI 10) * (mCd gt ln ta - (nI 48)) + (mCd gt ln (ta + 1)) - (nI 48)) from by rw [mRnU, if_neg c_1, if_neg c_2, if_neg c_3]]) (by decide) hP hS dX8_readsNumber_79
  · refine lv_iconst (v := nI 0) hx hb dX8_readsNumber_18 (by decide) ?_
    exact hret _ _ _ _ _ _ (by rw [mRn, if_pos c_1]) (by rw [show mRnA gt ln ta gu q = ta from by rw [mRnA, if_pos c_1], show mRnU gt ln ta gu q = gu from by rw [mRnU, if_pos c_1]]) (by decide) hP hS dX8_readsNumber_19

theorem mRnA_le {gt : Nat → Int32} {ln ta : Nat} {gu : Nat → Int32} {q : Nat} (hta : ta ≤ ln) : mRnA gt ln ta gu q ≤ ln := by
  unfold mRnA
  split
  · exact hta
  · rename_i c
    have h1 := mNm_lt c
    split
    · omega
    · split
      · omega
      · rename_i c
        have h2 := mNd_lt c
        omega
theorem cd_X8_readsColour : cdV RX8 yX8_readsColour cX8_readsColour 2 (some .boolean) 0 := ⟨⟨bw_1074, bw_65, by decide, by decide, by decide +kernel⟩, bw_1073, bw_54⟩
def mRc (gt : Nat → Int32) (ln : Nat) (ta : Nat) (gu : Nat → Int32) : Int32 := if mCd gt ln ta = nI 114 then nI 1 else if mCd gt ln ta = nI 103 then nI 1 else if mCd gt ln ta = nI 98 then nI 1 else nI 0
theorem mRc_z (gt : Nat → Int32) (ln : Nat) (ta : Nat) (gu : Nat → Int32) : narrow .boolean (.int (mRc gt ln ta gu)) = .int (mRc gt ln ta gu) := by
  unfold mRc
  (repeat' (with_reducible refine nz_ite ?_ ?_))
  all_goals first | decide | rfl
def mRcA (gt : Nat → Int32) (ln : Nat) (ta : Nat) (gu : Nat → Int32) : Nat := if mCd gt ln ta = nI 114 then ta + 1 else if mCd gt ln ta = nI 103 then ta + 1 else if mCd gt ln ta = nI 98 then ta + 1 else ta + 0
def mRcU (gt : Nat → Int32) (ln : Nat) (ta : Nat) (gu : Nat → Int32) : Nat → Int32 := if mCd gt ln ta = nI 114 then upd gu 1 (nI 0) else if mCd gt ln ta = nI 103 then upd gu 1 (nI 1) else if mCd gt ln ta = nI 98 then upd gu 1 (nI 2) else upd gu 1 (-6)
set_option maxHeartbeats 4000000 in
set_option maxRecDepth 100000 in
theorem c_X8_readsColour (l : Launch) (E : EV) (xo : Nat) (st : Nat) (sp : Nat) (th : Nat) (so : Nat) (sv : Nat) (pd : Nat) (nu : Nat) (sn : Nat) (ln : Nat) (ta : Nat) (sg : Int32) (gt : Nat → Int32) (gu : Nat → Int32) (hln : ln ≤ 80) (hta : ta ≤ ln) : rcI l E yX8_readsColour cX8_readsColour 2 .boolean 1 [.ref xo] [(xo, .inr (5, [.ref st, .ref sp, .ref th, .int (nI sn), .ref so, .ref sv, .ref pd, .int (nI ln), .int (nI ta), .int sg, .ref nu])), (pd, .inl (E.2.1, 80, .inl gt)), (nu, .inl (E.2.1, 4, .inl gu))] (mRc gt ln ta gu) [(xo, .inr (5, [.ref st, .ref sp, .ref th, .int (nI sn), .ref so, .ref sv, .ref pd, .int (nI ln), .int (nI (mRcA gt ln ta gu)), .int sg, .ref nu])), (pd, .inl (E.2.1, 80, .inl gt)), (nu, .inl (E.2.1, 4, .inl (mRcU gt ln ta gu)))] := by
  refine rcI_of (by decide) (Nat.le_of_ble_eq_true rfl) ?_
  intro pg e s m below meth c Q A ls S hP hD0 hE hA hl hret
  have hx := S.1
  have hb := S.2.1
  have hown := S.2.2.2.1
  have hts := S.2.2.2.2
  have hK := hE.1
  have hS : va_S A s.heap s.heap [] := va_S.rf
  have hDa : va_Da A [xo, pd, nu] := ⟨_, hD0, rfl⟩
  have hl : lv_has ls 2 [(0, .ref xo)] := hl
  refine lv_aload_n hx hb dX8_readsColour_0 rfl (lv_at hl 0 rfl) ?_
  refine rwV0 (rest := []) S (c_X8_code l E xo st sp th so sv pd nu sn ln ta sg gt hln hta) cd_X8_code bw_1059 ⟨Nat.le_of_ble_eq_true rfl, Nat.le_of_ble_eq_true rfl⟩ ⟨Nat.zero_le _, Nat.zero_le _⟩ hP (hDa.to rfl) hE hA hS [0, 1] rfl rfl [xo, pd] rfl rfl (ci := 5) rfl (q0 := 0) rfl (Nat.le_of_ble_eq_true rfl) hl.1 dX8_readsColour_1 (fun H locs hP _ hS => ?_)
  have hP : va_P E.1 vwCl [(xo, .inr (5, [.ref st, .ref sp, .ref th, .int (nI sn), .ref so, .ref sv, .ref pd, .int (nI ln), .int (nI ta), .int sg, .ref nu])), (pd, .inl (E.2.1, 80, .inl gt)), (nu, .inl (E.2.1, 4, .inl gu))] H := hP
  refine lv_istore_n (lv' := [(1, .int (mCd gt ln ta)), (0, .ref xo)]) hx hb dX8_readsColour_4 rfl hl (by decide) rfl (fun ls hl => ?_)
  refine lv_aload_n hx hb dX8_readsColour_5 rfl (lv_at hl 1 rfl) ?_
  refine va_get (D := E.1) (ci := 5) (v := .ref nu) (C := RX8) (T := TX8) (N := 11) hx hb hts inb_X8 hown hK hP 0 rfl rfl 10 (by decide) (hts _ bw_720) (fun _ h9 => h9) rfl dX8_readsColour_6 ?_
  refine lv_iconst (v := nI 1) hx hb dX8_readsColour_9 (by decide) ?_
  refine lv_iload_n hx hb dX8_readsColour_10 rfl (lv_at hl 0 rfl) ?_
  refine lv_bipush (v := nI 114) hx hb dX8_readsColour_11 (by decide) ?_
  refine lv_icmp_ne (tgt := 20) hx hb dX8_readsColour_13 (by decide) (fun c_1 => ?_) (fun c_1 => ?_)
  · refine lv_iload_n hx hb dX8_readsColour_20 rfl (lv_at hl 0 rfl) ?_
    refine lv_bipush (v := nI 103) hx hb dX8_readsColour_21 (by decide) ?_
    refine lv_icmp_ne (tgt := 30) hx hb dX8_readsColour_23 (by decide) (fun c_2 => ?_) (fun c_2 => ?_)
    · refine lv_iload_n hx hb dX8_readsColour_30 rfl (lv_at hl 0 rfl) ?_
      refine lv_bipush (v := nI 98) hx hb dX8_readsColour_31 (by decide) ?_
      refine lv_icmp_ne (tgt := 40) hx hb dX8_readsColour_33 (by decide) (fun c_3 => ?_) (fun c_3 => ?_)
      · refine lv_bipush (v := (-6)) hx hb dX8_readsColour_40 (by decide) ?_
        refine rn_iast (i := 1) hx hb hK hP (hDa.to rfl) hS 2 0 rfl rfl (by omega) (by omega) dX8_readsColour_42 (fun H locs hP _ hS => ?_)
        have hP : va_P E.1 vwCl [(xo, .inr (5, [.ref st, .ref sp, .ref th, .int (nI sn), .ref so, .ref sv, .ref pd, .int (nI ln), .int (nI ta), .int sg, .ref nu])), (pd, .inl (E.2.1, 80, .inl gt)), (nu, .inl (E.2.1, 4, .inl (upd gu 1 (-6))))] H := hP
        refine lv_aload_n hx hb dX8_readsColour_43 rfl (lv_at hl 1 rfl) ?_
        refine lv_dup hx hb dX8_readsColour_44 rfl ?_
        refine va_get (D := E.1) (ci := 5) (v := .int (nI ta)) (C := RX8) (T := TX8) (N := 11) hx hb hts inb_X8 hown hK hP 0 rfl rfl 8 (by decide) (hts _ bw_718) (fun _ h9 => h9) rfl dX8_readsColour_45 ?_
        refine lv_aload_n hx hb dX8_readsColour_48 rfl (lv_at hl 1 rfl) ?_
        refine va_get (D := E.1) (ci := 5) (v := .ref nu) (C := RX8) (T := TX8) (N := 11) hx hb hts inb_X8 hown hK hP 0 rfl rfl 10 (by decide) (hts _ bw_720) (fun _ h9 => h9) rfl dX8_readsColour_49 ?_
        refine lv_iconst (v := nI 1) hx hb dX8_readsColour_52 (by decide) ?_
        refine rn_iald (i := 1) hx hb hK hP 2 0 rfl rfl (by omega) (by omega) dX8_readsColour_53 ?_
        refine W.eq (congrArg (fun z => F0 m 54 ls (.int z :: [.int (nI ta), .ref xo])) (show (upd gu 1 (-6)) 1 = (-6) from pk_us)) ?_
        refine lv_bipush (v := (-6)) hx hb dX8_readsColour_54 (by decide) ?_
        refine lv_icmp_ne (tgt := 63) hx hb dX8_readsColour_56 (by decide) (fun c9 => by first | exact absurd c9 (by decide) | exact absurd (by decide) c9) (fun _ => ?_)
        refine lv_iconst (v := nI 0) hx hb dX8_readsColour_59 (by decide) ?_
        refine lv_goto (tgt := 64) hx hb dX8_readsColour_60 (by decide) ?_
        refine rn_add (a := ta) (b := 0) hx hb dX8_readsColour_64 ?_
        refine va_put (D := E.1) (ci := 5) (v := .int (nI (ta + 0))) (ty := .int) (C := RX8) (T := TX8) (N := 11) hx hb hts inb_X8 tyX8 tyX8_ok nmX8 hown hK hP (hDa.to rfl) hS 0 rfl rfl 8 (by decide) (hts _ bw_718) (fun _ h9 => h9) rfl (by decide +kernel) rfl rfl (Nat.le_of_ble_eq_true rfl) dX8_readsColour_65 (fun H locs hP _ hS => ?_)
        have hP : va_P E.1 vwCl [(xo, .inr (5, [.ref st, .ref sp, .ref th, .int (nI sn), .ref so, .ref sv, .ref pd, .int (nI ln), .int (nI (ta + 0)), .int sg, .ref nu])), (pd, .inl (E.2.1, 80, .inl gt)), (nu, .inl (E.2.1, 4, .inl (upd gu 1 (-6))))] H := hP
        refine lv_aload_n hx hb dX8_readsColour_68 rfl (lv_at hl 1 rfl) ?_
        refine va_get (D := E.1) (ci := 5) (v := .ref nu) (C := RX8) (T := TX8) (N := 11) hx hb hts inb_X8 hown hK hP 0 rfl rfl 10 (by decide) (hts _ bw_720) (fun _ h9 => h9) rfl dX8_readsColour_69 ?_
        refine lv_iconst (v := nI 1) hx hb dX8_readsColour_72 (by decide) ?_
        refine rn_iald (i := 1) hx hb hK hP 2 0 rfl rfl (by omega) (by omega) dX8_readsColour_73 ?_
        refine W.eq (congrArg (fun z => F0 m 74 ls (.int z :: [])) (show (upd gu 1 (-6)) 1 = (-6) from pk_us)) ?_
        refine lv_bipush (v := (-6)) hx hb dX8_readsColour_74 (by decide) ?_
        refine lv_icmp_eq (tgt := 83) hx hb dX8_readsColour_76 (by decide) (fun _ => ?_) (fun c9 => by first | exact absurd c9 (by decide) | exact absurd (by decide) c9)
        refine lv_iconst (v := nI 0) hx hb dX8_readsColour_83 (by decide) ?_
        exact hret _ _ _ _ _ _ (by rw [mRc, if_neg c_1, if_neg c_2, if_neg c_3]) (by rw [show mRcA gt ln ta gu = ta + 0 from by rw [mRcA, if_neg c_1, if_neg c_2, if_neg c_3], show mRcU gt ln ta gu = upd gu 1 (-6) from by rw [mRcU, if_neg c_1, if_neg c_2, if_neg c_3]]) (by decide) hP hS dX8_readsColour_84
      · refine lv_iconst (v := nI 2) hx hb dX8_readsColour_36 (by decide) ?_
        refine lv_goto (tgt := 42) hx hb dX8_readsColour_37 (by decide) ?_
        refine rn_iast (i := 1) hx hb hK hP (hDa.to rfl) hS 2 0 rfl rfl (by omega) (by omega) dX8_readsColour_42 (fun H locs hP _ hS => ?_)
        have hP : va_P E.1 vwCl [(xo, .inr (5, [.ref st, .ref sp, .ref th, .int (nI sn), .ref so, .ref sv, .ref pd, .int (nI ln), .int (nI ta), .int sg, .ref nu])), (pd, .inl (E.2.1, 80, .inl gt)), (nu, .inl (E.2.1, 4, .inl (upd gu 1 (nI 2))))] H := hP
        refine lv_aload_n hx hb dX8_readsColour_43 rfl (lv_at hl 1 rfl) ?_
        refine lv_dup hx hb dX8_readsColour_44 rfl ?_
        refine va_get (D := E.1) (ci := 5) (v := .int (nI ta)) (C := RX8) (T := TX8) (N := 11) hx hb hts inb_X8 hown hK hP 0 rfl rfl 8 (by decide) (hts _ bw_718) (fun _ h9 => h9) rfl dX8_readsColour_45 ?_
        refine lv_aload_n hx hb dX8_readsColour_48 rfl (lv_at hl 1 rfl) ?_
        refine va_get (D := E.1) (ci := 5) (v := .ref nu) (C := RX8) (T := TX8) (N := 11) hx hb hts inb_X8 hown hK hP 0 rfl rfl 10 (by decide) (hts _ bw_720) (fun _ h9 => h9) rfl dX8_readsColour_49 ?_
        refine lv_iconst (v := nI 1) hx hb dX8_readsColour_52 (by decide) ?_
        refine rn_iald (i := 1) hx hb hK hP 2 0 rfl rfl (by omega) (by omega) dX8_readsColour_53 ?_
        refine W.eq (congrArg (fun z => F0 m 54 ls (.int z :: [.int (nI ta), .ref xo])) (show (upd gu 1 (nI 2)) 1 = nI 2 from pk_us)) ?_
        refine lv_bipush (v := (-6)) hx hb dX8_readsColour_54 (by decide) ?_
        refine lv_icmp_ne (tgt := 63) hx hb dX8_readsColour_56 (by decide) (fun _ => ?_) (fun c9 => by first | exact absurd c9 (by decide) | exact absurd (by decide) c9)
        refine lv_iconst (v := nI 1) hx hb dX8_readsColour_63 (by decide) ?_
        refine rn_add (a := ta) (b := 1) hx hb dX8_readsColour_64 ?_
        refine va_put (D := E.1) (ci := 5) (v := .int (nI (ta + 1))) (ty := .int) (C := RX8) (T := TX8) (N := 11) hx hb hts inb_X8 tyX8 tyX8_ok nmX8 hown hK hP (hDa.to rfl) hS 0 rfl rfl 8 (by decide) (hts _ bw_718) (fun _ h9 => h9) rfl (by decide +kernel) rfl rfl (Nat.le_of_ble_eq_true rfl) dX8_readsColour_65 (fun H locs hP _ hS => ?_)
        have hP : va_P E.1 vwCl [(xo, .inr (5, [.ref st, .ref sp, .ref th, .int (nI sn), .ref so, .ref sv, .ref pd, .int (nI ln), .int (nI (ta + 1)), .int sg, .ref nu])), (pd, .inl (E.2.1, 80, .inl gt)), (nu, .inl (E.2.1, 4, .inl (upd gu 1 (nI 2))))] H := hP
        refine lv_aload_n hx hb dX8_readsColour_68 rfl (lv_at hl 1 rfl) ?_
        refine va_get (D := E.1) (ci := 5) (v := .ref nu) (C := RX8) (T := TX8) (N := 11) hx hb hts inb_X8 hown hK hP 0 rfl rfl 10 (by decide) (hts _ bw_720) (fun _ h9 => h9) rfl dX8_readsColour_69 ?_
        refine lv_iconst (v := nI 1) hx hb dX8_readsColour_72 (by decide) ?_
        refine rn_iald (i := 1) hx hb hK hP 2 0 rfl rfl (by omega) (by omega) dX8_readsColour_73 ?_
        refine W.eq (congrArg (fun z => F0 m 74 ls (.int z :: [])) (show (upd gu 1 (nI 2)) 1 = nI 2 from pk_us)) ?_
        refine lv_bipush (v := (-6)) hx hb dX8_readsColour_74 (by decide) ?_
        refine lv_icmp_eq (tgt := 83) hx hb dX8_readsColour_76 (by decide) (fun c9 => by first | exact absurd c9 (by decide) | exact absurd (by decide) c9) (fun _ => ?_)
        refine lv_iconst (v := nI 1) hx hb dX8_readsColour_79 (by decide) ?_
        refine lv_goto (tgt := 84) hx hb dX8_readsColour_80 (by decide) ?_
        exact hret _ _ _ _ _ _ (by rw [mRc, if_neg c_1, if_neg c_2, if_pos c_3]) (by rw [show mRcA gt ln ta gu = ta + 1 from by rw [mRcA, if_neg c_1, if_neg c_2, if_pos c_3], show mRcU gt ln ta gu = upd gu 1 (nI 2) from by rw [mRcU, if_neg c_1, if_neg c_2, if_pos c_3]]) (by decide) hP hS dX8_readsColour_84
    · refine lv_iconst (v := nI 1) hx hb dX8_readsColour_26 (by decide) ?_
      refine lv_goto (tgt := 42) hx hb dX8_readsColour_27 (by decide) ?_
      refine rn_iast (i := 1) hx hb hK hP (hDa.to rfl) hS 2 0 rfl rfl (by omega) (by omega) dX8_readsColour_42 (fun H locs hP _ hS => ?_)
      have hP : va_P E.1 vwCl [(xo, .inr (5, [.ref st, .ref sp, .ref th, .int (nI sn), .ref so, .ref sv, .ref pd, .int (nI ln), .int (nI ta), .int sg, .ref nu])), (pd, .inl (E.2.1, 80, .inl gt)), (nu, .inl (E.2.1, 4, .inl (upd gu 1 (nI 1))))] H := hP
      refine lv_aload_n hx hb dX8_readsColour_43 rfl (lv_at hl 1 rfl) ?_
      refine lv_dup hx hb dX8_readsColour_44 rfl ?_
      refine va_get (D := E.1) (ci := 5) (v := .int (nI ta)) (C := RX8) (T := TX8) (N := 11) hx hb hts inb_X8 hown hK hP 0 rfl rfl 8 (by decide) (hts _ bw_718) (fun _ h9 => h9) rfl dX8_readsColour_45 ?_
      refine lv_aload_n hx hb dX8_readsColour_48 rfl (lv_at hl 1 rfl) ?_
      refine va_get (D := E.1) (ci := 5) (v := .ref nu) (C := RX8) (T := TX8) (N := 11) hx hb hts inb_X8 hown hK hP 0 rfl rfl 10 (by decide) (hts _ bw_720) (fun _ h9 => h9) rfl dX8_readsColour_49 ?_
      refine lv_iconst (v := nI 1) hx hb dX8_readsColour_52 (by decide) ?_
      refine rn_iald (i := 1) hx hb hK hP 2 0 rfl rfl (by omega) (by omega) dX8_readsColour_53 ?_
      refine W.eq (congrArg (fun z => F0 m 54 ls (.int z :: [.int (nI ta), .ref xo])) (show (upd gu 1 (nI 1)) 1 = nI 1 from pk_us)) ?_
      refine lv_bipush (v := (-6)) hx hb dX8_readsColour_54 (by decide) ?_
      refine lv_icmp_ne (tgt := 63) hx hb dX8_readsColour_56 (by decide) (fun _ => ?_) (fun c9 => by first | exact absurd c9 (by decide) | exact absurd (by decide) c9)
      refine lv_iconst (v := nI 1) hx hb dX8_readsColour_63 (by decide) ?_
      refine rn_add (a := ta) (b := 1) hx hb dX8_readsColour_64 ?_
      refine va_put (D := E.1) (ci := 5) (v := .int (nI (ta + 1))) (ty := .int) (C := RX8) (T := TX8) (N := 11) hx hb hts inb_X8 tyX8 tyX8_ok nmX8 hown hK hP (hDa.to rfl) hS 0 rfl rfl 8 (by decide) (hts _ bw_718) (fun _ h9 => h9) rfl (by decide +kernel) rfl rfl (Nat.le_of_ble_eq_true rfl) dX8_readsColour_65 (fun H locs hP _ hS => ?_)
      have hP : va_P E.1 vwCl [(xo, .inr (5, [.ref st, .ref sp, .ref th, .int (nI sn), .ref so, .ref sv, .ref pd, .int (nI ln), .int (nI (ta + 1)), .int sg, .ref nu])), (pd, .inl (E.2.1, 80, .inl gt)), (nu, .inl (E.2.1, 4, .inl (upd gu 1 (nI 1))))] H := hP
      refine lv_aload_n hx hb dX8_readsColour_68 rfl (lv_at hl 1 rfl) ?_
      refine va_get (D := E.1) (ci := 5) (v := .ref nu) (C := RX8) (T := TX8) (N := 11) hx hb hts inb_X8 hown hK hP 0 rfl rfl 10 (by decide) (hts _ bw_720) (fun _ h9 => h9) rfl dX8_readsColour_69 ?_
      refine lv_iconst (v := nI 1) hx hb dX8_readsColour_72 (by decide) ?_
      refine rn_iald (i := 1) hx hb hK hP 2 0 rfl rfl (by omega) (by omega) dX8_readsColour_73 ?_
      refine W.eq (congrArg (fun z => F0 m 74 ls (.int z :: [])) (show (upd gu 1 (nI 1)) 1 = nI 1 from pk_us)) ?_
      refine lv_bipush (v := (-6)) hx hb dX8_readsColour_74 (by decide) ?_
      refine lv_icmp_eq (tgt := 83) hx hb dX8_readsColour_76 (by decide) (fun c9 => by first | exact absurd c9 (by decide) | exact absurd (by decide) c9) (fun _ => ?_)
      refine lv_iconst (v := nI 1) hx hb dX8_readsColour_79 (by decide) ?_
      refine lv_goto (tgt := 84) hx hb dX8_readsColour_80 (by decide) ?_
      exact hret _ _ _ _ _ _ (by rw [mRc, if_neg c_1, if_pos c_2]) (by rw [show mRcA gt ln ta gu = ta + 1 from by rw [mRcA, if_neg c_1, if_pos c_2], show mRcU gt ln ta gu = upd gu 1 (nI 1) from by rw [mRcU, if_neg c_1, if_pos c_2]]) (by decide) hP hS dX8_readsColour_84
  · refine lv_iconst (v := nI 0) hx hb dX8_readsColour_16 (by decide) ?_
    refine lv_goto (tgt := 42) hx hb dX8_readsColour_17 (by decide) ?_
    refine rn_iast (i := 1) hx hb hK hP (hDa.to rfl) hS 2 0 rfl rfl (by omega) (by omega) dX8_readsColour_42 (fun H locs hP _ hS => ?_)
    have hP : va_P E.1 vwCl [(xo, .inr (5, [.ref st, .ref sp, .ref th, .int (nI sn), .ref so, .ref sv, .ref pd, .int (nI ln), .int (nI ta), .int sg, .ref nu])), (pd, .inl (E.2.1, 80, .inl gt)), (nu, .inl (E.2.1, 4, .inl (upd gu 1 (nI 0))))] H := hP
    refine lv_aload_n hx hb dX8_readsColour_43 rfl (lv_at hl 1 rfl) ?_
    refine lv_dup hx hb dX8_readsColour_44 rfl ?_
    refine va_get (D := E.1) (ci := 5) (v := .int (nI ta)) (C := RX8) (T := TX8) (N := 11) hx hb hts inb_X8 hown hK hP 0 rfl rfl 8 (by decide) (hts _ bw_718) (fun _ h9 => h9) rfl dX8_readsColour_45 ?_
    refine lv_aload_n hx hb dX8_readsColour_48 rfl (lv_at hl 1 rfl) ?_
    refine va_get (D := E.1) (ci := 5) (v := .ref nu) (C := RX8) (T := TX8) (N := 11) hx hb hts inb_X8 hown hK hP 0 rfl rfl 10 (by decide) (hts _ bw_720) (fun _ h9 => h9) rfl dX8_readsColour_49 ?_
    refine lv_iconst (v := nI 1) hx hb dX8_readsColour_52 (by decide) ?_
    refine rn_iald (i := 1) hx hb hK hP 2 0 rfl rfl (by omega) (by omega) dX8_readsColour_53 ?_
    refine W.eq (congrArg (fun z => F0 m 54 ls (.int z :: [.int (nI ta), .ref xo])) (show (upd gu 1 (nI 0)) 1 = nI 0 from pk_us)) ?_
    refine lv_bipush (v := (-6)) hx hb dX8_readsColour_54 (by decide) ?_
    refine lv_icmp_ne (tgt := 63) hx hb dX8_readsColour_56 (by decide) (fun _ => ?_) (fun c9 => by first | exact absurd c9 (by decide) | exact absurd (by decide) c9)
    refine lv_iconst (v := nI 1) hx hb dX8_readsColour_63 (by decide) ?_
    refine rn_add (a := ta) (b := 1) hx hb dX8_readsColour_64 ?_
    refine va_put (D := E.1) (ci := 5) (v := .int (nI (ta + 1))) (ty := .int) (C := RX8) (T := TX8) (N := 11) hx hb hts inb_X8 tyX8 tyX8_ok nmX8 hown hK hP (hDa.to rfl) hS 0 rfl rfl 8 (by decide) (hts _ bw_718) (fun _ h9 => h9) rfl (by decide +kernel) rfl rfl (Nat.le_of_ble_eq_true rfl) dX8_readsColour_65 (fun H locs hP _ hS => ?_)
    have hP : va_P E.1 vwCl [(xo, .inr (5, [.ref st, .ref sp, .ref th, .int (nI sn), .ref so, .ref sv, .ref pd, .int (nI ln), .int (nI (ta + 1)), .int sg, .ref nu])), (pd, .inl (E.2.1, 80, .inl gt)), (nu, .inl (E.2.1, 4, .inl (upd gu 1 (nI 0))))] H := hP
    refine lv_aload_n hx hb dX8_readsColour_68 rfl (lv_at hl 1 rfl) ?_
    refine va_get (D := E.1) (ci := 5) (v := .ref nu) (C := RX8) (T := TX8) (N := 11) hx hb hts inb_X8 hown hK hP 0 rfl rfl 10 (by decide) (hts _ bw_720) (fun _ h9 => h9) rfl dX8_readsColour_69 ?_
    refine lv_iconst (v := nI 1) hx hb dX8_readsColour_72 (by decide) ?_
    refine rn_iald (i := 1) hx hb hK hP 2 0 rfl rfl (by omega) (by omega) dX8_readsColour_73 ?_
    refine W.eq (congrArg (fun z => F0 m 74 ls (.int z :: [])) (show (upd gu 1 (nI 0)) 1 = nI 0 from pk_us)) ?_
    refine lv_bipush (v := (-6)) hx hb dX8_readsColour_74 (by decide) ?_
    refine lv_icmp_eq (tgt := 83) hx hb dX8_readsColour_76 (by decide) (fun c9 => by first | exact absurd c9 (by decide) | exact absurd (by decide) c9) (fun _ => ?_)
    refine lv_iconst (v := nI 1) hx hb dX8_readsColour_79 (by decide) ?_
    refine lv_goto (tgt := 84) hx hb dX8_readsColour_80 (by decide) ?_
    exact hret _ _ _ _ _ _ (by rw [mRc, if_pos c_1]) (by rw [show mRcA gt ln ta gu = ta + 1 from by rw [mRcA, if_pos c_1], show mRcU gt ln ta gu = upd gu 1 (nI 0) from by rw [mRcU, if_pos c_1]]) (by decide) hP hS dX8_readsColour_84

theorem mRcA_le {gt : Nat → Int32} {ln ta : Nat} {gu : Nat → Int32} (hta : ta ≤ ln) : mRcA gt ln ta gu ≤ ln := by
  unfold mRcA
  repeat' split
  all_goals first | (rename_i c; have := mCd_lt (gt := gt) (ln := ln) (ta := ta) (by rw [c]; decide); omega) | omega
theorem cd_X8_readsWish : cdV RX8 yX8_readsWish cX8_readsWish 3 (some .boolean) 0 := ⟨⟨bw_1078, bw_65, by decide, by decide, by decide +kernel⟩, bw_1077, bw_55⟩
def mRw (gt : Nat → Int32) (ln : Nat) (ta : Nat) (gu : Nat → Int32) : Int32 := if mRn gt ln ta gu 0 = 0 then nI 0 else if mRc gt ln (mRnA gt ln ta gu 0) (mRnU gt ln ta gu 0) = 0 then nI 0 else if mCd gt ln (mRcA gt ln (mRnA gt ln ta gu 0) (mRnU gt ln ta gu 0)) = nI 45 then if mTk gt ln (mRcA gt ln (mRnA gt ln ta gu 0) (mRnU gt ln ta gu 0)) (nI 43) = 0 then if mTk gt ln (mTkA gt ln (mRcA gt ln (mRnA gt ln ta gu 0) (mRnU gt ln ta gu 0)) (nI 43)) (nI 45) = 0 then nI 0 else mRn gt ln (mTkA gt ln (mTkA gt ln (mRcA gt ln (mRnA gt ln ta gu 0) (mRnU gt ln ta gu 0)) (nI 43)) (nI 45)) (mRcU gt ln (mRnA gt ln ta gu 0) (mRnU gt ln ta gu 0)) 2 else mRn gt ln (mTkA gt ln (mRcA gt ln (mRnA gt ln ta gu 0) (mRnU gt ln ta gu 0)) (nI 43)) (mRcU gt ln (mRnA gt ln ta gu 0) (mRnU gt ln ta gu 0)) 2 else if mTk gt ln (mRcA gt ln (mRnA gt ln ta gu 0) (mRnU gt ln ta gu 0)) (nI 43) = 0 then if mTk gt ln (mTkA gt ln (mRcA gt ln (mRnA gt ln ta gu 0) (mRnU gt ln ta gu 0)) (nI 43)) (nI 45) = 0 then nI 0 else mRn gt ln (mTkA gt ln (mTkA gt ln (mRcA gt ln (mRnA gt ln ta gu 0) (mRnU gt ln ta gu 0)) (nI 43)) (nI 45)) (mRcU gt ln (mRnA gt ln ta gu 0) (mRnU gt ln ta gu 0)) 2 else mRn gt ln (mTkA gt ln (mRcA gt ln (mRnA gt ln ta gu 0) (mRnU gt ln ta gu 0)) (nI 43)) (mRcU gt ln (mRnA gt ln ta gu 0) (mRnU gt ln ta gu 0)) 2
theorem mRw_z (gt : Nat → Int32) (ln : Nat) (ta : Nat) (gu : Nat → Int32) : narrow .boolean (.int (mRw gt ln ta gu)) = .int (mRw gt ln ta gu) := by
  unfold mRw
  (repeat' (with_reducible refine nz_ite ?_ ?_))
  all_goals first | (with_reducible exact mRn_z _ _ _ _ _) | decide | rfl
def mRwA (gt : Nat → Int32) (ln : Nat) (ta : Nat) (gu : Nat → Int32) : Nat := if mRn gt ln ta gu 0 = 0 then mRnA gt ln ta gu 0 else if mRc gt ln (mRnA gt ln ta gu 0) (mRnU gt ln ta gu 0) = 0 then mRcA gt ln (mRnA gt ln ta gu 0) (mRnU gt ln ta gu 0) else if mCd gt ln (mRcA gt ln (mRnA gt ln ta gu 0) (mRnU gt ln ta gu 0)) = nI 45 then if mTk gt ln (mRcA gt ln (mRnA gt ln ta gu 0) (mRnU gt ln ta gu 0)) (nI 43) = 0 then if mTk gt ln (mTkA gt ln (mRcA gt ln (mRnA gt ln ta gu 0) (mRnU gt ln ta gu 0)) (nI 43)) (nI 45) = 0 then mTkA gt ln (mTkA gt ln (mRcA gt ln (mRnA gt ln ta gu 0) (mRnU gt ln ta gu 0)) (nI 43)) (nI 45) else mRnA gt ln (mTkA gt ln (mTkA gt ln (mRcA gt ln (mRnA gt ln ta gu 0) (mRnU gt ln ta gu 0)) (nI 43)) (nI 45)) (mRcU gt ln (mRnA gt ln ta gu 0) (mRnU gt ln ta gu 0)) 2 else mRnA gt ln (mTkA gt ln (mRcA gt ln (mRnA gt ln ta gu 0) (mRnU gt ln ta gu 0)) (nI 43)) (mRcU gt ln (mRnA gt ln ta gu 0) (mRnU gt ln ta gu 0)) 2 else if mTk gt ln (mRcA gt ln (mRnA gt ln ta gu 0) (mRnU gt ln ta gu 0)) (nI 43) = 0 then if mTk gt ln (mTkA gt ln (mRcA gt ln (mRnA gt ln ta gu 0) (mRnU gt ln ta gu 0)) (nI 43)) (nI 45) = 0 then mTkA gt ln (mTkA gt ln (mRcA gt ln (mRnA gt ln ta gu 0) (mRnU gt ln ta gu 0)) (nI 43)) (nI 45) else mRnA gt ln (mTkA gt ln (mTkA gt ln (mRcA gt ln (mRnA gt ln ta gu 0) (mRnU gt ln ta gu 0)) (nI 43)) (nI 45)) (mRcU gt ln (mRnA gt ln ta gu 0) (mRnU gt ln ta gu 0)) 2 else mRnA gt ln (mTkA gt ln (mRcA gt ln (mRnA gt ln ta gu 0) (mRnU gt ln ta gu 0)) (nI 43)) (mRcU gt ln (mRnA gt ln ta gu 0) (mRnU gt ln ta gu 0)) 2
def mRwU (gt : Nat → Int32) (ln : Nat) (ta : Nat) (gu : Nat → Int32) : Nat → Int32 := if mRn gt ln ta gu 0 = 0 then mRnU gt ln ta gu 0 else if mRc gt ln (mRnA gt ln ta gu 0) (mRnU gt ln ta gu 0) = 0 then mRcU gt ln (mRnA gt ln ta gu 0) (mRnU gt ln ta gu 0) else if mCd gt ln (mRcA gt ln (mRnA gt ln ta gu 0) (mRnU gt ln ta gu 0)) = nI 45 then if mTk gt ln (mRcA gt ln (mRnA gt ln ta gu 0) (mRnU gt ln ta gu 0)) (nI 43) = 0 then if mTk gt ln (mTkA gt ln (mRcA gt ln (mRnA gt ln ta gu 0) (mRnU gt ln ta gu 0)) (nI 43)) (nI 45) = 0 then mRcU gt ln (mRnA gt ln ta gu 0) (mRnU gt ln ta gu 0) else upd (mRnU gt ln (mTkA gt ln (mTkA gt ln (mRcA gt ln (mRnA gt ln ta gu 0) (mRnU gt ln ta gu 0)) (nI 43)) (nI 45)) (mRcU gt ln (mRnA gt ln ta gu 0) (mRnU gt ln ta gu 0)) 2) 2 (-((mRnU gt ln (mTkA gt ln (mTkA gt ln (mRcA gt ln (mRnA gt ln ta gu 0) (mRnU gt ln ta gu 0)) (nI 43)) (nI 45)) (mRcU gt ln (mRnA gt ln ta gu 0) (mRnU gt ln ta gu 0)) 2) 2)) else upd (mRnU gt ln (mTkA gt ln (mRcA gt ln (mRnA gt ln ta gu 0) (mRnU gt ln ta gu 0)) (nI 43)) (mRcU gt ln (mRnA gt ln ta gu 0) (mRnU gt ln ta gu 0)) 2) 2 (-((mRnU gt ln (mTkA gt ln (mRcA gt ln (mRnA gt ln ta gu 0) (mRnU gt ln ta gu 0)) (nI 43)) (mRcU gt ln (mRnA gt ln ta gu 0) (mRnU gt ln ta gu 0)) 2) 2)) else if mTk gt ln (mRcA gt ln (mRnA gt ln ta gu 0) (mRnU gt ln ta gu 0)) (nI 43) = 0 then if mTk gt ln (mTkA gt ln (mRcA gt ln (mRnA gt ln ta gu 0) (mRnU gt ln ta gu 0)) (nI 43)) (nI 45) = 0 then mRcU gt ln (mRnA gt ln ta gu 0) (mRnU gt ln ta gu 0) else upd (mRnU gt ln (mTkA gt ln (mTkA gt ln (mRcA gt ln (mRnA gt ln ta gu 0) (mRnU gt ln ta gu 0)) (nI 43)) (nI 45)) (mRcU gt ln (mRnA gt ln ta gu 0) (mRnU gt ln ta gu 0)) 2) 2 ((mRnU gt ln (mTkA gt ln (mTkA gt ln (mRcA gt ln (mRnA gt ln ta gu 0) (mRnU gt ln ta gu 0)) (nI 43)) (nI 45)) (mRcU gt ln (mRnA gt ln ta gu 0) (mRnU gt ln ta gu 0)) 2) 2) else upd (mRnU gt ln (mTkA gt ln (mRcA gt ln (mRnA gt ln ta gu 0) (mRnU gt ln ta gu 0)) (nI 43)) (mRcU gt ln (mRnA gt ln ta gu 0) (mRnU gt ln ta gu 0)) 2) 2 ((mRnU gt ln (mTkA gt ln (mRcA gt ln (mRnA gt ln ta gu 0) (mRnU gt ln ta gu 0)) (nI 43)) (mRcU gt ln (mRnA gt ln ta gu 0) (mRnU gt ln ta gu 0)) 2) 2)
set_option maxHeartbeats 4000000 in
set_option maxRecDepth 100000 in
theorem c_X8_readsWish (l : Launch) (E : EV) (xo : Nat) (st : Nat) (sp : Nat) (th : Nat) (so : Nat) (sv : Nat) (pd : Nat) (nu : Nat) (sn : Nat) (ln : Nat) (ta : Nat) (sg : Int32) (gt : Nat → Int32) (gu : Nat → Int32) (hln : ln ≤ 80) (hta : ta ≤ ln) : rcI l E yX8_readsWish cX8_readsWish 3 .boolean 2 [.ref xo] [(xo, .inr (5, [.ref st, .ref sp, .ref th, .int (nI sn), .ref so, .ref sv, .ref pd, .int (nI ln), .int (nI ta), .int sg, .ref nu])), (pd, .inl (E.2.1, 80, .inl gt)), (nu, .inl (E.2.1, 4, .inl gu))] (mRw gt ln ta gu) [(xo, .inr (5, [.ref st, .ref sp, .ref th, .int (nI sn), .ref so, .ref sv, .ref pd, .int (nI ln), .int (nI (mRwA gt ln ta gu)), .int sg, .ref nu])), (pd, .inl (E.2.1, 80, .inl gt)), (nu, .inl (E.2.1, 4, .inl (mRwU gt ln ta gu)))] := by
  refine rcI_of (by decide) (Nat.le_of_ble_eq_true rfl) ?_
  intro pg e s m below meth c Q A ls S hP hD0 hE hA hl hret
  have hx := S.1
  have hb := S.2.1
  have hown := S.2.2.2.1
  have hts := S.2.2.2.2
  have hK := hE.1
  have hS : va_S A s.heap s.heap [] := va_S.rf
  have hDa : va_Da A [xo, pd, nu] := ⟨_, hD0, rfl⟩
  have hl : lv_has ls 3 [(0, .ref xo)] := hl
  refine lv_aload_n hx hb dX8_readsWish_0 rfl (lv_at hl 0 rfl) ?_
  refine lv_iconst (v := nI 0) hx hb dX8_readsWish_1 (by decide) ?_
  refine rwV1 (rest := []) S (c_X8_readsNumber l E xo st sp th so sv pd nu sn ln ta sg gt gu 0 hln hta (by omega)) cd_X8_readsNumber bw_1063 ⟨Nat.le_of_ble_eq_true rfl, Nat.le_of_ble_eq_true rfl⟩ ⟨Nat.zero_le _, Nat.zero_le _⟩ hP (hDa.to rfl) hE hA hS [0, 1, 2] rfl rfl [xo, pd, nu] rfl rfl (ci := 5) rfl (q0 := 0) rfl (Nat.le_of_ble_eq_true rfl) hl.1 dX8_readsWish_2 (fun H locs hP _ hS => ?_)
  have hP : va_P E.1 vwCl [(xo, .inr (5, [.ref st, .ref sp, .ref th, .int (nI sn), .ref so, .ref sv, .ref pd, .int (nI ln), .int (nI (mRnA gt ln ta gu 0)), .int sg, .ref nu])), (pd, .inl (E.2.1, 80, .inl gt)), (nu, .inl (E.2.1, 4, .inl (mRnU gt ln ta gu 0)))] H := hP
  refine lv_if_eq (tgt := 15) hx hb dX8_readsWish_5 (by decide) (fun c_1 => ?_) (fun c_1 => ?_)
  · refine lv_iconst (v := nI 0) hx hb dX8_readsWish_15 (by decide) ?_
    exact hret _ _ _ _ _ _ (by rw [mRw, if_pos c_1]) (by rw [show mRwA gt ln ta gu = mRnA gt ln ta gu 0 from by rw [mRwA, if_pos c_1], show mRwU gt ln ta gu = mRnU gt ln ta gu 0 from by rw [mRwU, if_pos c_1]]) (by decide) hP hS dX8_readsWish_16
  · refine lv_aload_n hx hb dX8_readsWish_8 rfl (lv_at hl 0 rfl) ?_
    refine rwV0 (rest := []) S (c_X8_readsColour l E xo st sp th so sv pd nu sn ln (mRnA gt ln ta gu 0) sg gt (mRnU gt ln ta gu 0) hln (mRnA_le hta)) cd_X8_readsColour bw_1071 ⟨Nat.le_of_ble_eq_true rfl, Nat.le_of_ble_eq_true rfl⟩ ⟨Nat.zero_le _, Nat.zero_le _⟩ hP (hDa.to rfl) hE hA hS [0, 1, 2] rfl rfl [xo, pd, nu] rfl rfl (ci := 5) rfl (q0 := 0) rfl (Nat.le_of_ble_eq_true rfl) hl.1 dX8_readsWish_9 (fun H locs hP _ hS => ?_)
    have hP : va_P E.1 vwCl [(xo, .inr (5, [.ref st, .ref sp, .ref th, .int (nI sn), .ref so, .ref sv, .ref pd, .int (nI ln), .int (nI (mRcA gt ln (mRnA gt ln ta gu 0) (mRnU gt ln ta gu 0))), .int sg, .ref nu])), (pd, .inl (E.2.1, 80, .inl gt)), (nu, .inl (E.2.1, 4, .inl (mRcU gt ln (mRnA gt ln ta gu 0) (mRnU gt ln ta gu 0))))] H := hP
    refine lv_if_ne (tgt := 17) hx hb dX8_readsWish_12 (by decide) (fun c_2 => ?_) (fun c_2 => ?_)
    · refine lv_aload_n hx hb dX8_readsWish_17 rfl (lv_at hl 0 rfl) ?_
      refine rwV0 (rest := []) S (c_X8_code l E xo st sp th so sv pd nu sn ln (mRcA gt ln (mRnA gt ln ta gu 0) (mRnU gt ln ta gu 0)) sg gt hln (mRcA_le (mRnA_le hta))) cd_X8_code bw_1059 ⟨Nat.le_of_ble_eq_true rfl, Nat.le_of_ble_eq_true rfl⟩ ⟨Nat.zero_le _, Nat.zero_le _⟩ hP (hDa.to rfl) hE hA hS [0, 1] rfl rfl [xo, pd] rfl rfl (ci := 5) rfl (q0 := 0) rfl (Nat.le_of_ble_eq_true rfl) hl.1 dX8_readsWish_18 (fun H locs hP _ hS => ?_)
      have hP : va_P E.1 vwCl [(xo, .inr (5, [.ref st, .ref sp, .ref th, .int (nI sn), .ref so, .ref sv, .ref pd, .int (nI ln), .int (nI (mRcA gt ln (mRnA gt ln ta gu 0) (mRnU gt ln ta gu 0))), .int sg, .ref nu])), (pd, .inl (E.2.1, 80, .inl gt)), (nu, .inl (E.2.1, 4, .inl (mRcU gt ln (mRnA gt ln ta gu 0) (mRnU gt ln ta gu 0))))] H := hP
      refine lv_bipush (v := nI 45) hx hb dX8_readsWish_21 (by decide) ?_
      refine lv_icmp_ne (tgt := 30) hx hb dX8_readsWish_23 (by decide) (fun c_3 => ?_) (fun c_3 => ?_)
      · refine lv_iconst (v := nI 0) hx hb dX8_readsWish_30 (by decide) ?_
        refine lv_istore_n (lv' := [(1, .int (nI 0)), (0, .ref xo)]) hx hb dX8_readsWish_31 rfl hl (by decide) rfl (fun ls hl => ?_)
        refine lv_aload_n hx hb dX8_readsWish_32 rfl (lv_at hl 1 rfl) ?_
        refine lv_bipush (v := nI 43) hx hb dX8_readsWish_33 (by decide) ?_
        refine rwV1 (rest := []) S (c_X8_takes l E xo st sp th so sv pd nu sn ln (mRcA gt ln (mRnA gt ln ta gu 0) (mRnU gt ln ta gu 0)) sg gt (nI 43) hln (mRcA_le (mRnA_le hta))) cd_X8_takes bw_1067 ⟨Nat.le_of_ble_eq_true rfl, Nat.le_of_ble_eq_true rfl⟩ ⟨Nat.zero_le _, Nat.zero_le _⟩ hP (hDa.to rfl) hE hA hS [0, 1] rfl rfl [xo, pd] rfl rfl (ci := 5) rfl (q0 := 0) rfl (Nat.le_of_ble_eq_true rfl) hl.1 dX8_readsWish_35 (fun H locs hP _ hS => ?_)
        have hP : va_P E.1 vwCl [(xo, .inr (5, [.ref st, .ref sp, .ref th, .int (nI sn), .ref so, .ref sv, .ref pd, .int (nI ln), .int (nI (mTkA gt ln (mRcA gt ln (mRnA gt ln ta gu 0) (mRnU gt ln ta gu 0)) (nI 43))), .int sg, .ref nu])), (pd, .inl (E.2.1, 80, .inl gt)), (nu, .inl (E.2.1, 4, .inl (mRcU gt ln (mRnA gt ln ta gu 0) (mRnU gt ln ta gu 0))))] H := hP
        refine lv_if_ne (tgt := 52) hx hb dX8_readsWish_38 (by decide) (fun c_4 => ?_) (fun c_4 => ?_)
        · refine lv_aload_n hx hb dX8_readsWish_52 rfl (lv_at hl 1 rfl) ?_
          refine lv_iconst (v := nI 2) hx hb dX8_readsWish_53 (by decide) ?_
          refine rwV1 (rest := []) S (c_X8_readsNumber l E xo st sp th so sv pd nu sn ln (mTkA gt ln (mRcA gt ln (mRnA gt ln ta gu 0) (mRnU gt ln ta gu 0)) (nI 43)) sg gt (mRcU gt ln (mRnA gt ln ta gu 0) (mRnU gt ln ta gu 0)) 2 hln (mTkA_le (mRcA_le (mRnA_le hta)) (by decide)) (by omega)) cd_X8_readsNumber bw_1063 ⟨Nat.le_of_ble_eq_true rfl, Nat.le_of_ble_eq_true rfl⟩ ⟨Nat.zero_le _, Nat.zero_le _⟩ hP (hDa.to rfl) hE hA hS [0, 1, 2] rfl rfl [xo, pd, nu] rfl rfl (ci := 5) rfl (q0 := 0) rfl (Nat.le_of_ble_eq_true rfl) hl.1 dX8_readsWish_54 (fun H locs hP _ hS => ?_)
          have hP : va_P E.1 vwCl [(xo, .inr (5, [.ref st, .ref sp, .ref th, .int (nI sn), .ref so, .ref sv, .ref pd, .int (nI ln), .int (nI (mRnA gt ln (mTkA gt ln (mRcA gt ln (mRnA gt ln ta gu 0) (mRnU gt ln ta gu 0)) (nI 43)) (mRcU gt ln (mRnA gt ln ta gu 0) (mRnU gt ln ta gu 0)) 2)), .int sg, .ref nu])), (pd, .inl (E.2.1, 80, .inl gt)), (nu, .inl (E.2.1, 4, .inl (mRnU gt ln (mTkA gt ln (mRcA gt ln (mRnA gt ln ta gu 0) (mRnU gt ln ta gu 0)) (nI 43)) (mRcU gt ln (mRnA gt ln ta gu 0) (mRnU gt ln ta gu 0)) 2)))] H := hP
          refine lv_istore_n (lv' := [(2, .int (mRn gt ln (mTkA gt ln (mRcA gt ln (mRnA gt ln ta gu 0) (mRnU gt ln ta gu 0)) (nI 43)) (mRcU gt ln (mRnA gt ln ta gu 0) (mRnU gt ln ta gu 0)) 2)), (1, .int (nI 0)), (0, .ref xo)]) hx hb dX8_readsWish_57 rfl hl (by decide) rfl (fun ls hl => ?_)
          refine lv_aload_n hx hb dX8_readsWish_58 rfl (lv_at hl 2 rfl) ?_
          refine va_get (D := E.1) (ci := 5) (v := .ref nu) (C := RX8) (T := TX8) (N := 11) hx hb hts inb_X8 hown hK hP 0 rfl rfl 10 (by decide) (hts _ bw_720) (fun _ h9 => h9) rfl dX8_readsWish_59 ?_
          refine lv_iconst (v := nI 2) hx hb dX8_readsWish_62 (by decide) ?_
          refine lv_iload_n hx hb dX8_readsWish_63 rfl (lv_at hl 1 rfl) ?_
          refine lv_if_eq (tgt := 77) hx hb dX8_readsWish_64 (by decide) (fun _ => ?_) (fun c9 => by first | exact absurd (by decide) c9 | exact absurd c9 (by decide))
          refine lv_aload_n hx hb dX8_readsWish_77 rfl (lv_at hl 2 rfl) ?_
          refine va_get (D := E.1) (ci := 5) (v := .ref nu) (C := RX8) (T := TX8) (N := 11) hx hb hts inb_X8 hown hK hP 0 rfl rfl 10 (by decide) (hts _ bw_720) (fun _ h9 => h9) rfl dX8_readsWish_78 ?_
          refine lv_iconst (v := nI 2) hx hb dX8_readsWish_81 (by decide) ?_
          refine rn_iald (i := 2) hx hb hK hP 2 0 rfl rfl (by omega) (by omega) dX8_readsWish_82 ?_
          refine rn_iast (i := 2) hx hb hK hP (hDa.to rfl) hS 2 0 rfl rfl (by omega) (by omega) dX8_readsWish_83 (fun H locs hP _ hS => ?_)
          have hP : va_P E.1 vwCl [(xo, .inr (5, [.ref st, .ref sp, .ref th, .int (nI sn), .ref so, .ref sv, .ref pd, .int (nI ln), .int (nI (mRnA gt ln (mTkA gt ln (mRcA gt ln (mRnA gt ln ta gu 0) (mRnU gt ln ta gu 0)) (nI 43)) (mRcU gt ln (mRnA gt ln ta gu 0) (mRnU gt ln ta gu 0)) 2)), .int sg, .ref nu])), (pd, .inl (E.2.1, 80, .inl gt)), (nu, .inl (E.2.1, 4, .inl (upd (mRnU gt ln (mTkA gt ln (mRcA gt ln (mRnA gt ln ta gu 0) (mRnU gt ln ta gu 0)) (nI 43)) (mRcU gt ln (mRnA gt ln ta gu 0) (mRnU gt ln ta gu 0)) 2) 2 ((mRnU gt ln (mTkA gt ln (mRcA gt ln (mRnA gt ln ta gu 0) (mRnU gt ln ta gu 0)) (nI 43)) (mRcU gt ln (mRnA gt ln ta gu 0) (mRnU gt ln ta gu 0)) 2) 2))))] H := hP
          refine lv_iload_n hx hb dX8_readsWish_84 rfl (lv_at hl 0 rfl) ?_
          exact hret _ _ _ _ _ _ (by rw [mRw, if_neg c_1, if_neg c_2, if_neg c_3, if_neg c_4]) (by rw [show mRwA gt ln ta gu = mRnA gt ln (mTkA gt ln (mRcA gt ln (mRnA gt ln ta gu 0) (mRnU gt ln ta gu 0)) (nI 43)) (mRcU gt ln (mRnA gt ln ta gu 0) (mRnU gt ln ta gu 0)) 2 from by rw [mRwA, if_neg c_1, if_neg c_2, if_neg c_3, if_neg c_4], show mRwU gt ln ta gu = upd (mRnU gt ln (mTkA gt ln (mRcA gt ln (mRnA gt ln ta gu 0) (mRnU gt ln ta gu 0)) (nI 43)) (mRcU gt ln (mRnA gt ln ta gu 0) (mRnU gt ln ta gu 0)) 2) 2 ((mRnU gt ln (mTkA gt ln (mRcA gt ln (mRnA gt ln ta gu 0) (mRnU gt ln ta gu 0)) (nI 43)) (mRcU gt ln (mRnA gt ln ta gu 0) (mRnU gt ln ta gu 0)) 2) 2) from by rw [mRwU, if_neg c_1, if_neg c_2, if_neg c_3, if_neg c_4]]) (by first | (with_reducible exact mRn_z _ _ _ _ _) | assumption) hP hS dX8_readsWish_85
        · refine lv_aload_n hx hb dX8_readsWish_41 rfl (lv_at hl 1 rfl) ?_
          refine lv_bipush (v := nI 45) hx hb dX8_readsWish_42 (by decide) ?_
          refine rwV1 (rest := []) S (c_X8_takes l E xo st sp th so sv pd nu sn ln (mTkA gt ln (mRcA gt ln (mRnA gt ln ta gu 0) (mRnU gt ln ta gu 0)) (nI 43)) sg gt (nI 45) hln (mTkA_le (mRcA_le (mRnA_le hta)) (by decide))) cd_X8_takes bw_1067 ⟨Nat.le_of_ble_eq_true rfl, Nat.le_of_ble_eq_true rfl⟩ ⟨Nat.zero_le _, Nat.zero_le _⟩ hP (hDa.to rfl) hE hA hS [0, 1] rfl rfl [xo, pd] rfl rfl (ci := 5) rfl (q0 := 0) rfl (Nat.le_of_ble_eq_true rfl) hl.1 dX8_readsWish_44 (fun H locs hP _ hS => ?_)
          have hP : va_P E.1 vwCl [(xo, .inr (5, [.ref st, .ref sp, .ref th, .int (nI sn), .ref so, .ref sv, .ref pd, .int (nI ln), .int (nI (mTkA gt ln (mTkA gt ln (mRcA gt ln (mRnA gt ln ta gu 0) (mRnU gt ln ta gu 0)) (nI 43)) (nI 45))), .int sg, .ref nu])), (pd, .inl (E.2.1, 80, .inl gt)), (nu, .inl (E.2.1, 4, .inl (mRcU gt ln (mRnA gt ln ta gu 0) (mRnU gt ln ta gu 0))))] H := hP
          refine lv_if_ne (tgt := 52) hx hb dX8_readsWish_47 (by decide) (fun c_5 => ?_) (fun c_5 => ?_)
          · refine lv_aload_n hx hb dX8_readsWish_52 rfl (lv_at hl 1 rfl) ?_
            refine lv_iconst (v := nI 2) hx hb dX8_readsWish_53 (by decide) ?_
            refine rwV1 (rest := []) S (c_X8_readsNumber l E xo st sp th so sv pd nu sn ln (mTkA gt ln (mTkA gt ln (mRcA gt ln (mRnA gt ln ta gu 0) (mRnU gt ln ta gu 0)) (nI 43)) (nI 45)) sg gt (mRcU gt ln (mRnA gt ln ta gu 0) (mRnU gt ln ta gu 0)) 2 hln (mTkA_le (mTkA_le (mRcA_le (mRnA_le hta)) (by decide)) (by decide)) (by omega)) cd_X8_readsNumber bw_1063 ⟨Nat.le_of_ble_eq_true rfl, Nat.le_of_ble_eq_true rfl⟩ ⟨Nat.zero_le _, Nat.zero_le _⟩ hP (hDa.to rfl) hE hA hS [0, 1, 2] rfl rfl [xo, pd, nu] rfl rfl (ci := 5) rfl (q0 := 0) rfl (Nat.le_of_ble_eq_true rfl) hl.1 dX8_readsWish_54 (fun H locs hP _ hS => ?_)
            have hP : va_P E.1 vwCl [(xo, .inr (5, [.ref st, .ref sp, .ref th, .int (nI sn), .ref so, .ref sv, .ref pd, .int (nI ln), .int (nI (mRnA gt ln (mTkA gt ln (mTkA gt ln (mRcA gt ln (mRnA gt ln ta gu 0) (mRnU gt ln ta gu 0)) (nI 43)) (nI 45)) (mRcU gt ln (mRnA gt ln ta gu 0) (mRnU gt ln ta gu 0)) 2)), .int sg, .ref nu])), (pd, .inl (E.2.1, 80, .inl gt)), (nu, .inl (E.2.1, 4, .inl (mRnU gt ln (mTkA gt ln (mTkA gt ln (mRcA gt ln (mRnA gt ln ta gu 0) (mRnU gt ln ta gu 0)) (nI 43)) (nI 45)) (mRcU gt ln (mRnA gt ln ta gu 0) (mRnU gt ln ta gu 0)) 2)))] H := hP
            refine lv_istore_n (lv' := [(2, .int (mRn gt ln (mTkA gt ln (mTkA gt ln (mRcA gt ln (mRnA gt ln ta gu 0) (mRnU gt ln ta gu 0)) (nI 43)) (nI 45)) (mRcU gt ln (mRnA gt ln ta gu 0) (mRnU gt ln ta gu 0)) 2)), (1, .int (nI 0)), (0, .ref xo)]) hx hb dX8_readsWish_57 rfl hl (by decide) rfl (fun ls hl => ?_)
            refine lv_aload_n hx hb dX8_readsWish_58 rfl (lv_at hl 2 rfl) ?_
            refine va_get (D := E.1) (ci := 5) (v := .ref nu) (C := RX8) (T := TX8) (N := 11) hx hb hts inb_X8 hown hK hP 0 rfl rfl 10 (by decide) (hts _ bw_720) (fun _ h9 => h9) rfl dX8_readsWish_59 ?_
            refine lv_iconst (v := nI 2) hx hb dX8_readsWish_62 (by decide) ?_
            refine lv_iload_n hx hb dX8_readsWish_63 rfl (lv_at hl 1 rfl) ?_
            refine lv_if_eq (tgt := 77) hx hb dX8_readsWish_64 (by decide) (fun _ => ?_) (fun c9 => by first | exact absurd (by decide) c9 | exact absurd c9 (by decide))
            refine lv_aload_n hx hb dX8_readsWish_77 rfl (lv_at hl 2 rfl) ?_
            refine va_get (D := E.1) (ci := 5) (v := .ref nu) (C := RX8) (T := TX8) (N := 11) hx hb hts inb_X8 hown hK hP 0 rfl rfl 10 (by decide) (hts _ bw_720) (fun _ h9 => h9) rfl dX8_readsWish_78 ?_
            refine lv_iconst (v := nI 2) hx hb dX8_readsWish_81 (by decide) ?_
            refine rn_iald (i := 2) hx hb hK hP 2 0 rfl rfl (by omega) (by omega) dX8_readsWish_82 ?_
            refine rn_iast (i := 2) hx hb hK hP (hDa.to rfl) hS 2 0 rfl rfl (by omega) (by omega) dX8_readsWish_83 (fun H locs hP _ hS => ?_)
            have hP : va_P E.1 vwCl [(xo, .inr (5, [.ref st, .ref sp, .ref th, .int (nI sn), .ref so, .ref sv, .ref pd, .int (nI ln), .int (nI (mRnA gt ln (mTkA gt ln (mTkA gt ln (mRcA gt ln (mRnA gt ln ta gu 0) (mRnU gt ln ta gu 0)) (nI 43)) (nI 45)) (mRcU gt ln (mRnA gt ln ta gu 0) (mRnU gt ln ta gu 0)) 2)), .int sg, .ref nu])), (pd, .inl (E.2.1, 80, .inl gt)), (nu, .inl (E.2.1, 4, .inl (upd (mRnU gt ln (mTkA gt ln (mTkA gt ln (mRcA gt ln (mRnA gt ln ta gu 0) (mRnU gt ln ta gu 0)) (nI 43)) (nI 45)) (mRcU gt ln (mRnA gt ln ta gu 0) (mRnU gt ln ta gu 0)) 2) 2 ((mRnU gt ln (mTkA gt ln (mTkA gt ln (mRcA gt ln (mRnA gt ln ta gu 0) (mRnU gt ln ta gu 0)) (nI 43)) (nI 45)) (mRcU gt ln (mRnA gt ln ta gu 0) (mRnU gt ln ta gu 0)) 2) 2))))] H := hP
            refine lv_iload_n hx hb dX8_readsWish_84 rfl (lv_at hl 0 rfl) ?_
            exact hret _ _ _ _ _ _ (by rw [mRw, if_neg c_1, if_neg c_2, if_neg c_3, if_pos c_4, if_neg c_5]) (by rw [show mRwA gt ln ta gu = mRnA gt ln (mTkA gt ln (mTkA gt ln (mRcA gt ln (mRnA gt ln ta gu 0) (mRnU gt ln ta gu 0)) (nI 43)) (nI 45)) (mRcU gt ln (mRnA gt ln ta gu 0) (mRnU gt ln ta gu 0)) 2 from by rw [mRwA, if_neg c_1, if_neg c_2, if_neg c_3, if_pos c_4, if_neg c_5], show mRwU gt ln ta gu = upd (mRnU gt ln (mTkA gt ln (mTkA gt ln (mRcA gt ln (mRnA gt ln ta gu 0) (mRnU gt ln ta gu 0)) (nI 43)) (nI 45)) (mRcU gt ln (mRnA gt ln ta gu 0) (mRnU gt ln ta gu 0)) 2) 2 ((mRnU gt ln (mTkA gt ln (mTkA gt ln (mRcA gt ln (mRnA gt ln ta gu 0) (mRnU gt ln ta gu 0)) (nI 43)) (nI 45)) (mRcU gt ln (mRnA gt ln ta gu 0) (mRnU gt ln ta gu 0)) 2) 2) from by rw [mRwU, if_neg c_1, if_neg c_2, if_neg c_3, if_pos c_4, if_neg c_5]]) (by first | (with_reducible exact mRn_z _ _ _ _ _) | assumption) hP hS dX8_readsWish_85
          · refine lv_iconst (v := nI 0) hx hb dX8_readsWish_50 (by decide) ?_
            exact hret _ _ _ _ _ _ (by rw [mRw, if_neg c_1, if_neg c_2, if_neg c_3, if_pos c_4, if_pos c_5]) (by rw [show mRwA gt ln ta gu = mTkA gt ln (mTkA gt ln (mRcA gt ln (mRnA gt ln ta gu 0) (mRnU gt ln ta gu 0)) (nI 43)) (nI 45) from by rw [mRwA, if_neg c_1, if_neg c_2, if_neg c_3, if_pos c_4, if_pos c_5], show mRwU gt ln ta gu = mRcU gt ln (mRnA gt ln ta gu 0) (mRnU gt ln ta gu 0) from by rw [mRwU, if_neg c_1, if_neg c_2, if_neg c_3, if_pos c_4, if_pos c_5]]) (by decide) hP hS dX8_readsWish_51
      · refine lv_iconst (v := nI 1) hx hb dX8_readsWish_26 (by decide) ?_
        refine lv_goto (tgt := 31) hx hb dX8_readsWish_27 (by decide) ?_
        refine lv_istore_n (lv' := [(1, .int (nI 1)), (0, .ref xo)]) hx hb dX8_readsWish_31 rfl hl (by decide) rfl (fun ls hl => ?_)
        refine lv_aload_n hx hb dX8_readsWish_32 rfl (lv_at hl 1 rfl) ?_
        refine lv_bipush (v := nI 43) hx hb dX8_readsWish_33 (by decide) ?_
        refine rwV1 (rest := []) S (c_X8_takes l E xo st sp th so sv pd nu sn ln (mRcA gt ln (mRnA gt ln ta gu 0) (mRnU gt ln ta gu 0)) sg gt (nI 43) hln (mRcA_le (mRnA_le hta))) cd_X8_takes bw_1067 ⟨Nat.le_of_ble_eq_true rfl, Nat.le_of_ble_eq_true rfl⟩ ⟨Nat.zero_le _, Nat.zero_le _⟩ hP (hDa.to rfl) hE hA hS [0, 1] rfl rfl [xo, pd] rfl rfl (ci := 5) rfl (q0 := 0) rfl (Nat.le_of_ble_eq_true rfl) hl.1 dX8_readsWish_35 (fun H locs hP _ hS => ?_)
        have hP : va_P E.1 vwCl [(xo, .inr (5, [.ref st, .ref sp, .ref th, .int (nI sn), .ref so, .ref sv, .ref pd, .int (nI ln), .int (nI (mTkA gt ln (mRcA gt ln (mRnA gt ln ta gu 0) (mRnU gt ln ta gu 0)) (nI 43))), .int sg, .ref nu])), (pd, .inl (E.2.1, 80, .inl gt)), (nu, .inl (E.2.1, 4, .inl (mRcU gt ln (mRnA gt ln ta gu 0) (mRnU gt ln ta gu 0))))] H := hP
        refine lv_if_ne (tgt := 52) hx hb dX8_readsWish_38 (by decide) (fun c_6 => ?_) (fun c_6 => ?_)
        · refine lv_aload_n hx hb dX8_readsWish_52 rfl (lv_at hl 1 rfl) ?_
          refine lv_iconst (v := nI 2) hx hb dX8_readsWish_53 (by decide) ?_
          refine rwV1 (rest := []) S (c_X8_readsNumber l E xo st sp th so sv pd nu sn ln (mTkA gt ln (mRcA gt ln (mRnA gt ln ta gu 0) (mRnU gt ln ta gu 0)) (nI 43)) sg gt (mRcU gt ln (mRnA gt ln ta gu 0) (mRnU gt ln ta gu 0)) 2 hln (mTkA_le (mRcA_le (mRnA_le hta)) (by decide)) (by omega)) cd_X8_readsNumber bw_1063 ⟨Nat.le_of_ble_eq_true rfl, Nat.le_of_ble_eq_true rfl⟩ ⟨Nat.zero_le _, Nat.zero_le _⟩ hP (hDa.to rfl) hE hA hS [0, 1, 2] rfl rfl [xo, pd, nu] rfl rfl (ci := 5) rfl (q0 := 0) rfl (Nat.le_of_ble_eq_true rfl) hl.1 dX8_readsWish_54 (fun H locs hP _ hS => ?_)
          have hP : va_P E.1 vwCl [(xo, .inr (5, [.ref st, .ref sp, .ref th, .int (nI sn), .ref so, .ref sv, .ref pd, .int (nI ln), .int (nI (mRnA gt ln (mTkA gt ln (mRcA gt ln (mRnA gt ln ta gu 0) (mRnU gt ln ta gu 0)) (nI 43)) (mRcU gt ln (mRnA gt ln ta gu 0) (mRnU gt ln ta gu 0)) 2)), .int sg, .ref nu])), (pd, .inl (E.2.1, 80, .inl gt)), (nu, .inl (E.2.1, 4, .inl (mRnU gt ln (mTkA gt ln (mRcA gt ln (mRnA gt ln ta gu 0) (mRnU gt ln ta gu 0)) (nI 43)) (mRcU gt ln (mRnA gt ln ta gu 0) (mRnU gt ln ta gu 0)) 2)))] H := hP
          refine lv_istore_n (lv' := [(2, .int (mRn gt ln (mTkA gt ln (mRcA gt ln (mRnA gt ln ta gu 0) (mRnU gt ln ta gu 0)) (nI 43)) (mRcU gt ln (mRnA gt ln ta gu 0) (mRnU gt ln ta gu 0)) 2)), (1, .int (nI 1)), (0, .ref xo)]) hx hb dX8_readsWish_57 rfl hl (by decide) rfl (fun ls hl => ?_)
          refine lv_aload_n hx hb dX8_readsWish_58 rfl (lv_at hl 2 rfl) ?_
          refine va_get (D := E.1) (ci := 5) (v := .ref nu) (C := RX8) (T := TX8) (N := 11) hx hb hts inb_X8 hown hK hP 0 rfl rfl 10 (by decide) (hts _ bw_720) (fun _ h9 => h9) rfl dX8_readsWish_59 ?_
          refine lv_iconst (v := nI 2) hx hb dX8_readsWish_62 (by decide) ?_
          refine lv_iload_n hx hb dX8_readsWish_63 rfl (lv_at hl 1 rfl) ?_
          refine lv_if_eq (tgt := 77) hx hb dX8_readsWish_64 (by decide) (fun c9 => by first | exact absurd c9 (by decide) | exact absurd (by decide) c9) (fun _ => ?_)
          refine lv_aload_n hx hb dX8_readsWish_67 rfl (lv_at hl 2 rfl) ?_
          refine va_get (D := E.1) (ci := 5) (v := .ref nu) (C := RX8) (T := TX8) (N := 11) hx hb hts inb_X8 hown hK hP 0 rfl rfl 10 (by decide) (hts _ bw_720) (fun _ h9 => h9) rfl dX8_readsWish_68 ?_
          refine lv_iconst (v := nI 2) hx hb dX8_readsWish_71 (by decide) ?_
          refine rn_iald (i := 2) hx hb hK hP 2 0 rfl rfl (by omega) (by omega) dX8_readsWish_72 ?_
          refine lv_ineg hx hb dX8_readsWish_73 ?_
          refine lv_goto (tgt := 83) hx hb dX8_readsWish_74 (by decide) ?_
          refine rn_iast (i := 2) hx hb hK hP (hDa.to rfl) hS 2 0 rfl rfl (by omega) (by omega) dX8_readsWish_83 (fun H locs hP _ hS => ?_)
          have hP : va_P E.1 vwCl [(xo, .inr (5, [.ref st, .ref sp, .ref th, .int (nI sn), .ref so, .ref sv, .ref pd, .int (nI ln), .int (nI (mRnA gt ln (mTkA gt ln (mRcA gt ln (mRnA gt ln ta gu 0) (mRnU gt ln ta gu 0)) (nI 43)) (mRcU gt ln (mRnA gt ln ta gu 0) (mRnU gt ln ta gu 0)) 2)), .int sg, .ref nu])), (pd, .inl (E.2.1, 80, .inl gt)), (nu, .inl (E.2.1, 4, .inl (upd (mRnU gt ln (mTkA gt ln (mRcA gt ln (mRnA gt ln ta gu 0) (mRnU gt ln ta gu 0)) (nI 43)) (mRcU gt ln (mRnA gt ln ta gu 0) (mRnU gt ln ta gu 0)) 2) 2 (-((mRnU gt ln (mTkA gt ln (mRcA gt ln (mRnA gt ln ta gu 0) (mRnU gt ln ta gu 0)) (nI 43)) (mRcU gt ln (mRnA gt ln ta gu 0) (mRnU gt ln ta gu 0)) 2) 2)))))] H := hP
          refine lv_iload_n hx hb dX8_readsWish_84 rfl (lv_at hl 0 rfl) ?_
          exact hret _ _ _ _ _ _ (by rw [mRw, if_neg c_1, if_neg c_2, if_pos c_3, if_neg c_6]) (by rw [show mRwA gt ln ta gu = mRnA gt ln (mTkA gt ln (mRcA gt ln (mRnA gt ln ta gu 0) (mRnU gt ln ta gu 0)) (nI 43)) (mRcU gt ln (mRnA gt ln ta gu 0) (mRnU gt ln ta gu 0)) 2 from by rw [mRwA, if_neg c_1, if_neg c_2, if_pos c_3, if_neg c_6], show mRwU gt ln ta gu = upd (mRnU gt ln (mTkA gt ln (mRcA gt ln (mRnA gt ln ta gu 0) (mRnU gt ln ta gu 0)) (nI 43)) (mRcU gt ln (mRnA gt ln ta gu 0) (mRnU gt ln ta gu 0)) 2) 2 (-((mRnU gt ln (mTkA gt ln (mRcA gt ln (mRnA gt ln ta gu 0) (mRnU gt ln ta gu 0)) (nI 43)) (mRcU gt ln (mRnA gt ln ta gu 0) (mRnU gt ln ta gu 0)) 2) 2)) from by rw [mRwU, if_neg c_1, if_neg c_2, if_pos c_3, if_neg c_6]]) (by first | (with_reducible exact mRn_z _ _ _ _ _) | assumption) hP hS dX8_readsWish_85
        · refine lv_aload_n hx hb dX8_readsWish_41 rfl (lv_at hl 1 rfl) ?_
          refine lv_bipush (v := nI 45) hx hb dX8_readsWish_42 (by decide) ?_
          refine rwV1 (rest := []) S (c_X8_takes l E xo st sp th so sv pd nu sn ln (mTkA gt ln (mRcA gt ln (mRnA gt ln ta gu 0) (mRnU gt ln ta gu 0)) (nI 43)) sg gt (nI 45) hln (mTkA_le (mRcA_le (mRnA_le hta)) (by decide))) cd_X8_takes bw_1067 ⟨Nat.le_of_ble_eq_true rfl, Nat.le_of_ble_eq_true rfl⟩ ⟨Nat.zero_le _, Nat.zero_le _⟩ hP (hDa.to rfl) hE hA hS [0, 1] rfl rfl [xo, pd] rfl rfl (ci := 5) rfl (q0 := 0) rfl (Nat.le_of_ble_eq_true rfl) hl.1 dX8_readsWish_44 (fun H locs hP _ hS => ?_)
          have hP : va_P E.1 vwCl [(xo, .inr (5, [.ref st, .ref sp, .ref th, .int (nI sn), .ref so, .ref sv, .ref pd, .int (nI ln), .int (nI (mTkA gt ln (mTkA gt ln (mRcA gt ln (mRnA gt ln ta gu 0) (mRnU gt ln ta gu 0)) (nI 43)) (nI 45))), .int sg, .ref nu])), (pd, .inl (E.2.1, 80, .inl gt)), (nu, .inl (E.2.1, 4, .inl (mRcU gt ln (mRnA gt ln ta gu 0) (mRnU gt ln ta gu 0))))] H := hP
          refine lv_if_ne (tgt := 52) hx hb dX8_readsWish_47 (by decide) (fun c_7 => ?_) (fun c_7 => ?_)
          · refine lv_aload_n hx hb dX8_readsWish_52 rfl (lv_at hl 1 rfl) ?_
            refine lv_iconst (v := nI 2) hx hb dX8_readsWish_53 (by decide) ?_
            refine rwV1 (rest := []) S (c_X8_readsNumber l E xo st sp th so sv pd nu sn ln (mTkA gt ln (mTkA gt ln (mRcA gt ln (mRnA gt ln ta gu 0) (mRnU gt ln ta gu 0)) (nI 43)) (nI 45)) sg gt (mRcU gt ln (mRnA gt ln ta gu 0) (mRnU gt ln ta gu 0)) 2 hln (mTkA_le (mTkA_le (mRcA_le (mRnA_le hta)) (by decide)) (by decide)) (by omega)) cd_X8_readsNumber bw_1063 ⟨Nat.le_of_ble_eq_true rfl, Nat.le_of_ble_eq_true rfl⟩ ⟨Nat.zero_le _, Nat.zero_le _⟩ hP (hDa.to rfl) hE hA hS [0, 1, 2] rfl rfl [xo, pd, nu] rfl rfl (ci := 5) rfl (q0 := 0) rfl (Nat.le_of_ble_eq_true rfl) hl.1 dX8_readsWish_54 (fun H locs hP _ hS => ?_)
            have hP : va_P E.1 vwCl [(xo, .inr (5, [.ref st, .ref sp, .ref th, .int (nI sn), .ref so, .ref sv, .ref pd, .int (nI ln), .int (nI (mRnA gt ln (mTkA gt ln (mTkA gt ln (mRcA gt ln (mRnA gt ln ta gu 0) (mRnU gt ln ta gu 0)) (nI 43)) (nI 45)) (mRcU gt ln (mRnA gt ln ta gu 0) (mRnU gt ln ta gu 0)) 2)), .int sg, .ref nu])), (pd, .inl (E.2.1, 80, .inl gt)), (nu, .inl (E.2.1, 4, .inl (mRnU gt ln (mTkA gt ln (mTkA gt ln (mRcA gt ln (mRnA gt ln ta gu 0) (mRnU gt ln ta gu 0)) (nI 43)) (nI 45)) (mRcU gt ln (mRnA gt ln ta gu 0) (mRnU gt ln ta gu 0)) 2)))] H := hP
            refine lv_istore_n (lv' := [(2, .int (mRn gt ln (mTkA gt ln (mTkA gt ln (mRcA gt ln (mRnA gt ln ta gu 0) (mRnU gt ln ta gu 0)) (nI 43)) (nI 45)) (mRcU gt ln (mRnA gt ln ta gu 0) (mRnU gt ln ta gu 0)) 2)), (1, .int (nI 1)), (0, .ref xo)]) hx hb dX8_readsWish_57 rfl hl (by decide) rfl (fun ls hl => ?_)
            refine lv_aload_n hx hb dX8_readsWish_58 rfl (lv_at hl 2 rfl) ?_
            refine va_get (D := E.1) (ci := 5) (v := .ref nu) (C := RX8) (T := TX8) (N := 11) hx hb hts inb_X8 hown hK hP 0 rfl rfl 10 (by decide) (hts _ bw_720) (fun _ h9 => h9) rfl dX8_readsWish_59 ?_
            refine lv_iconst (v := nI 2) hx hb dX8_readsWish_62 (by decide) ?_
            refine lv_iload_n hx hb dX8_readsWish_63 rfl (lv_at hl 1 rfl) ?_
            refine lv_if_eq (tgt := 77) hx hb dX8_readsWish_64 (by decide) (fun c9 => by first | exact absurd c9 (by decide) | exact absurd (by decide) c9) (fun _ => ?_)
            refine lv_aload_n hx hb dX8_readsWish_67 rfl (lv_at hl 2 rfl) ?_
            refine va_get (D := E.1) (ci := 5) (v := .ref nu) (C := RX8) (T := TX8) (N := 11) hx hb hts inb_X8 hown hK hP 0 rfl rfl 10 (by decide) (hts _ bw_720) (fun _ h9 => h9) rfl dX8_readsWish_68 ?_
            refine lv_iconst (v := nI 2) hx hb dX8_readsWish_71 (by decide) ?_
            refine rn_iald (i := 2) hx hb hK hP 2 0 rfl rfl (by omega) (by omega) dX8_readsWish_72 ?_
            refine lv_ineg hx hb dX8_readsWish_73 ?_
            refine lv_goto (tgt := 83) hx hb dX8_readsWish_74 (by decide) ?_
            refine rn_iast (i := 2) hx hb hK hP (hDa.to rfl) hS 2 0 rfl rfl (by omega) (by omega) dX8_readsWish_83 (fun H locs hP _ hS => ?_)
            have hP : va_P E.1 vwCl [(xo, .inr (5, [.ref st, .ref sp, .ref th, .int (nI sn), .ref so, .ref sv, .ref pd, .int (nI ln), .int (nI (mRnA gt ln (mTkA gt ln (mTkA gt ln (mRcA gt ln (mRnA gt ln ta gu 0) (mRnU gt ln ta gu 0)) (nI 43)) (nI 45)) (mRcU gt ln (mRnA gt ln ta gu 0) (mRnU gt ln ta gu 0)) 2)), .int sg, .ref nu])), (pd, .inl (E.2.1, 80, .inl gt)), (nu, .inl (E.2.1, 4, .inl (upd (mRnU gt ln (mTkA gt ln (mTkA gt ln (mRcA gt ln (mRnA gt ln ta gu 0) (mRnU gt ln ta gu 0)) (nI 43)) (nI 45)) (mRcU gt ln (mRnA gt ln ta gu 0) (mRnU gt ln ta gu 0)) 2) 2 (-((mRnU gt ln (mTkA gt ln (mTkA gt ln (mRcA gt ln (mRnA gt ln ta gu 0) (mRnU gt ln ta gu 0)) (nI 43)) (nI 45)) (mRcU gt ln (mRnA gt ln ta gu 0) (mRnU gt ln ta gu 0)) 2) 2)))))] H := hP
            refine lv_iload_n hx hb dX8_readsWish_84 rfl (lv_at hl 0 rfl) ?_
            exact hret _ _ _ _ _ _ (by rw [mRw, if_neg c_1, if_neg c_2, if_pos c_3, if_pos c_6, if_neg c_7]) (by rw [show mRwA gt ln ta gu = mRnA gt ln (mTkA gt ln (mTkA gt ln (mRcA gt ln (mRnA gt ln ta gu 0) (mRnU gt ln ta gu 0)) (nI 43)) (nI 45)) (mRcU gt ln (mRnA gt ln ta gu 0) (mRnU gt ln ta gu 0)) 2 from by rw [mRwA, if_neg c_1, if_neg c_2, if_pos c_3, if_pos c_6, if_neg c_7], show mRwU gt ln ta gu = upd (mRnU gt ln (mTkA gt ln (mTkA gt ln (mRcA gt ln (mRnA gt ln ta gu 0) (mRnU gt ln ta gu 0)) (nI 43)) (nI 45)) (mRcU gt ln (mRnA gt ln ta gu 0) (mRnU gt ln ta gu 0)) 2) 2 (-((mRnU gt ln (mTkA gt ln (mTkA gt ln (mRcA gt ln (mRnA gt ln ta gu 0) (mRnU gt ln ta gu 0)) (nI 43)) (nI 45)) (mRcU gt ln (mRnA gt ln ta gu 0) (mRnU gt ln ta gu 0)) 2) 2)) from by rw [mRwU, if_neg c_1, if_neg c_2, if_pos c_3, if_pos c_6, if_neg c_7]]) (by first | (with_reducible exact mRn_z _ _ _ _ _) | assumption) hP hS dX8_readsWish_85
          · refine lv_iconst (v := nI 0) hx hb dX8_readsWish_50 (by decide) ?_
            exact hret _ _ _ _ _ _ (by rw [mRw, if_neg c_1, if_neg c_2, if_pos c_3, if_pos c_6, if_pos c_7]) (by rw [show mRwA gt ln ta gu = mTkA gt ln (mTkA gt ln (mRcA gt ln (mRnA gt ln ta gu 0) (mRnU gt ln ta gu 0)) (nI 43)) (nI 45) from by rw [mRwA, if_neg c_1, if_neg c_2, if_pos c_3, if_pos c_6, if_pos c_7], show mRwU gt ln ta gu = mRcU gt ln (mRnA gt ln ta gu 0) (mRnU gt ln ta gu 0) from by rw [mRwU, if_neg c_1, if_neg c_2, if_pos c_3, if_pos c_6, if_pos c_7]]) (by decide) hP hS dX8_readsWish_51
    · refine lv_iconst (v := nI 0) hx hb dX8_readsWish_15 (by decide) ?_
      exact hret _ _ _ _ _ _ (by rw [mRw, if_neg c_1, if_pos c_2]) (by rw [show mRwA gt ln ta gu = mRcA gt ln (mRnA gt ln ta gu 0) (mRnU gt ln ta gu 0) from by rw [mRwA, if_neg c_1, if_pos c_2], show mRwU gt ln ta gu = mRcU gt ln (mRnA gt ln ta gu 0) (mRnU gt ln ta gu 0) from by rw [mRwU, if_neg c_1, if_pos c_2]]) (by decide) hP hS dX8_readsWish_16

theorem mRwA_le {gt : Nat → Int32} {ln ta : Nat} {gu : Nat → Int32} (hta : ta ≤ ln) : mRwA gt ln ta gu ≤ ln := by
  unfold mRwA
  repeat' split
  all_goals first | exact mRnA_le hta | exact mRcA_le (mRnA_le hta) | exact mTkA_le (mTkA_le (mRcA_le (mRnA_le hta)) (by decide)) (by decide) | exact mRnA_le (mTkA_le (mRcA_le (mRnA_le hta)) (by decide)) | exact mRnA_le (mTkA_le (mTkA_le (mRcA_le (mRnA_le hta)) (by decide)) (by decide)) | omega
theorem cd_X8_readsOrder : cdV RX8 yX8_readsOrder cX8_readsOrder 1 (some .boolean) 0 := ⟨⟨bw_1058, bw_65, by decide, by decide, by decide +kernel⟩, bw_1057, bw_50⟩
def mRo (gt : Nat → Int32) (ln : Nat) (ta : Nat) (gu : Nat → Int32) : Int32 := if mCd gt ln ta = 0 then nI 0 else if mCd gt ln ta = nI 97 then nI 1 else if mCd gt ln ta = nI 98 then nI 0 else if mCd gt ln ta = nI 99 then mRn gt ln (ta + 1) gu 0 else if mCd gt ln ta = nI 100 then nI 0 else if mCd gt ln ta = nI 101 then nI 0 else if mCd gt ln ta = nI 102 then nI 0 else if mCd gt ln ta = nI 103 then nI 0 else if mCd gt ln ta = nI 104 then nI 0 else if mCd gt ln ta = nI 105 then nI 0 else if mCd gt ln ta = nI 106 then nI 0 else if mCd gt ln ta = nI 107 then nI 1 else if mCd gt ln ta = nI 108 then if mRn gt ln (ta + 1) gu 0 = 0 then nI 0 else if mRc gt ln (mRnA gt ln (ta + 1) gu 0) (mRnU gt ln (ta + 1) gu 0) = 0 then nI 0 else if mTk gt ln (mRcA gt ln (mRnA gt ln (ta + 1) gu 0) (mRnU gt ln (ta + 1) gu 0)) (nI 61) = 0 then nI 0 else if mRn gt ln (mTkA gt ln (mRcA gt ln (mRnA gt ln (ta + 1) gu 0) (mRnU gt ln (ta + 1) gu 0)) (nI 61)) (mRcU gt ln (mRnA gt ln (ta + 1) gu 0) (mRnU gt ln (ta + 1) gu 0)) 2 = 0 then nI 0 else nI 1 else if mCd gt ln ta = nI 109 then if mRn gt ln (ta + 1) gu 0 = 0 then nI 0 else if mTk gt ln (mRnA gt ln (ta + 1) gu 0) (nI 62) = 0 then nI 0 else if mRn gt ln (mTkA gt ln (mRnA gt ln (ta + 1) gu 0) (nI 62)) (mRnU gt ln (ta + 1) gu 0) 1 = 0 then nI 0 else nI 1 else if mCd gt ln ta = nI 110 then nI 0 else if mCd gt ln ta = nI 111 then nI 0 else if mCd gt ln ta = nI 112 then nI 1 else if mCd gt ln ta = nI 113 then nI 0 else if mCd gt ln ta = nI 114 then nI 0 else if mCd gt ln ta = nI 115 then if mRn gt ln (ta + 1) gu 0 = 0 then nI 0 else if mTk gt ln (mRnA gt ln (ta + 1) gu 0) (nI 58) = 0 then nI 0 else if mRn gt ln (mTkA gt ln (mRnA gt ln (ta + 1) gu 0) (nI 58)) (mRnU gt ln (ta + 1) gu 0) 1 = 0 then nI 0 else if mTk gt ln (mRnA gt ln (mTkA gt ln (mRnA gt ln (ta + 1) gu 0) (nI 58)) (mRnU gt ln (ta + 1) gu 0) 1) (nI 44) = 0 then nI 0 else if mRn gt ln (mTkA gt ln (mRnA gt ln (mTkA gt ln (mRnA gt ln (ta + 1) gu 0) (nI 58)) (mRnU gt ln (ta + 1) gu 0) 1) (nI 44)) (mRnU gt ln (mTkA gt ln (mRnA gt ln (ta + 1) gu 0) (nI 58)) (mRnU gt ln (ta + 1) gu 0) 1) 2 = 0 then nI 0 else if mTk gt ln (mRnA gt ln (mTkA gt ln (mRnA gt ln (mTkA gt ln (mRnA gt ln (ta + 1) gu 0) (nI 58)) (mRnU gt ln (ta + 1) gu 0) 1) (nI 44)) (mRnU gt ln (mTkA gt ln (mRnA gt ln (ta + 1) gu 0) (nI 58)) (mRnU gt ln (ta + 1) gu 0) 1) 2) (nI 44) = 0 then nI 0 else if mRn gt ln (mTkA gt ln (mRnA gt ln (mTkA gt ln (mRnA gt ln (mTkA gt ln (mRnA gt ln (ta + 1) gu 0) (nI 58)) (mRnU gt ln (ta + 1) gu 0) 1) (nI 44)) (mRnU gt ln (mTkA gt ln (mRnA gt ln (ta + 1) gu 0) (nI 58)) (mRnU gt ln (ta + 1) gu 0) 1) 2) (nI 44)) (mRnU gt ln (mTkA gt ln (mRnA gt ln (mTkA gt ln (mRnA gt ln (ta + 1) gu 0) (nI 58)) (mRnU gt ln (ta + 1) gu 0) 1) (nI 44)) (mRnU gt ln (mTkA gt ln (mRnA gt ln (ta + 1) gu 0) (nI 58)) (mRnU gt ln (ta + 1) gu 0) 1) 2) 3 = 0 then nI 0 else nI 1 else if mCd gt ln ta = nI 116 then nI 0 else if mCd gt ln ta = nI 117 then nI 0 else if mCd gt ln ta = nI 118 then nI 0 else if mCd gt ln ta = nI 119 then mRw gt ln (ta + 1) gu else nI 0
theorem mRo_z (gt : Nat → Int32) (ln : Nat) (ta : Nat) (gu : Nat → Int32) : narrow .boolean (.int (mRo gt ln ta gu)) = .int (mRo gt ln ta gu) := by
  unfold mRo
  (repeat' (with_reducible refine nz_ite ?_ ?_))
  all_goals first | (with_reducible exact mRn_z _ _ _ _ _) | (with_reducible exact mRw_z _ _ _ _) | decide | rfl
def mRoA (gt : Nat → Int32) (ln : Nat) (ta : Nat) (gu : Nat → Int32) : Nat := if mCd gt ln ta = 0 then (ta + 0) - 0 else if mCd gt ln ta = nI 97 then ta + 1 else if mCd gt ln ta = nI 98 then (ta + 1) - 1 else if mCd gt ln ta = nI 99 then mRnA gt ln (ta + 1) gu 0 else if mCd gt ln ta = nI 100 then (ta + 1) - 1 else if mCd gt ln ta = nI 101 then (ta + 1) - 1 else if mCd gt ln ta = nI 102 then (ta + 1) - 1 else if mCd gt ln ta = nI 103 then (ta + 1) - 1 else if mCd gt ln ta = nI 104 then (ta + 1) - 1 else if mCd gt ln ta = nI 105 then (ta + 1) - 1 else if mCd gt ln ta = nI 106 then (ta + 1) - 1 else if mCd gt ln ta = nI 107 then ta + 1 else if mCd gt ln ta = nI 108 then if mRn gt ln (ta + 1) gu 0 = 0 then mRnA gt ln (ta + 1) gu 0 else if mRc gt ln (mRnA gt ln (ta + 1) gu 0) (mRnU gt ln (ta + 1) gu 0) = 0 then mRcA gt ln (mRnA gt ln (ta + 1) gu 0) (mRnU gt ln (ta + 1) gu 0) else if mTk gt ln (mRcA gt ln (mRnA gt ln (ta + 1) gu 0) (mRnU gt ln (ta + 1) gu 0)) (nI 61) = 0 then mTkA gt ln (mRcA gt ln (mRnA gt ln (ta + 1) gu 0) (mRnU gt ln (ta + 1) gu 0)) (nI 61) else mRnA gt ln (mTkA gt ln (mRcA gt ln (mRnA gt ln (ta + 1) gu 0) (mRnU gt ln (ta + 1) gu 0)) (nI 61)) (mRcU gt ln (mRnA gt ln (ta + 1) gu 0) (mRnU gt ln (ta + 1) gu 0)) 2 else if mCd gt ln ta = nI 109 then if mRn gt ln (ta + 1) gu 0 = 0 then mRnA gt ln (ta + 1) gu 0 else if mTk gt ln (mRnA gt ln (ta + 1) gu 0) (nI 62) = 0 then mTkA gt ln (mRnA gt ln (ta + 1) gu 0) (nI 62) else mRnA gt ln (mTkA gt ln (mRnA gt ln (ta + 1) gu 0) (nI 62)) (mRnU gt ln (ta + 1) gu 0) 1 else if mCd gt ln ta = nI 110 then (ta + 1) - 1 else if mCd gt ln ta = nI 111 then (ta + 1) - 1 else if mCd gt ln ta = nI 112 then ta + 1 else if mCd gt ln ta = nI 113 then (ta + 1) - 1 else if mCd gt ln ta = nI 114 then (ta + 1) - 1 else if mCd gt ln ta = nI 115 then if mRn gt ln (ta + 1) gu 0 = 0 then mRnA gt ln (ta + 1) gu 0 else if mTk gt ln (mRnA gt ln (ta + 1) gu 0) (nI 58) = 0 then mTkA gt ln (mRnA gt ln (ta + 1) gu 0) (nI 58) else if mRn gt ln (mTkA gt ln (mRnA gt ln (ta + 1) gu 0) (nI 58)) (mRnU gt ln (ta + 1) gu 0) 1 = 0 then mRnA gt ln (mTkA gt ln (mRnA gt ln (ta + 1) gu 0) (nI 58)) (mRnU gt ln (ta + 1) gu 0) 1 else if mTk gt ln (mRnA gt ln (mTkA gt ln (mRnA gt ln (ta + 1) gu 0) (nI 58)) (mRnU gt ln (ta + 1) gu 0) 1) (nI 44) = 0 then mTkA gt ln (mRnA gt ln (mTkA gt ln (mRnA gt ln (ta + 1) gu 0) (nI 58)) (mRnU gt ln (ta + 1) gu 0) 1) (nI 44) else if mRn gt ln (mTkA gt ln (mRnA gt ln (mTkA gt ln (mRnA gt ln (ta + 1) gu 0) (nI 58)) (mRnU gt ln (ta + 1) gu 0) 1) (nI 44)) (mRnU gt ln (mTkA gt ln (mRnA gt ln (ta + 1) gu 0) (nI 58)) (mRnU gt ln (ta + 1) gu 0) 1) 2 = 0 then mRnA gt ln (mTkA gt ln (mRnA gt ln (mTkA gt ln (mRnA gt ln (ta + 1) gu 0) (nI 58)) (mRnU gt ln (ta + 1) gu 0) 1) (nI 44)) (mRnU gt ln (mTkA gt ln (mRnA gt ln (ta + 1) gu 0) (nI 58)) (mRnU gt ln (ta + 1) gu 0) 1) 2 else if mTk gt ln (mRnA gt ln (mTkA gt ln (mRnA gt ln (mTkA gt ln (mRnA gt ln (ta + 1) gu 0) (nI 58)) (mRnU gt ln (ta + 1) gu 0) 1) (nI 44)) (mRnU gt ln (mTkA gt ln (mRnA gt ln (ta + 1) gu 0) (nI 58)) (mRnU gt ln (ta + 1) gu 0) 1) 2) (nI 44) = 0 then mTkA gt ln (mRnA gt ln (mTkA gt ln (mRnA gt ln (mTkA gt ln (mRnA gt ln (ta + 1) gu 0) (nI 58)) (mRnU gt ln (ta + 1) gu 0) 1) (nI 44)) (mRnU gt ln (mTkA gt ln (mRnA gt ln (ta + 1) gu 0) (nI 58)) (mRnU gt ln (ta + 1) gu 0) 1) 2) (nI 44) else mRnA gt ln (mTkA gt ln (mRnA gt ln (mTkA gt ln (mRnA gt ln (mTkA gt ln (mRnA gt ln (ta + 1) gu 0) (nI 58)) (mRnU gt ln (ta + 1) gu 0) 1) (nI 44)) (mRnU gt ln (mTkA gt ln (mRnA gt ln (ta + 1) gu 0) (nI 58)) (mRnU gt ln (ta + 1) gu 0) 1) 2) (nI 44)) (mRnU gt ln (mTkA gt ln (mRnA gt ln (mTkA gt ln (mRnA gt ln (ta + 1) gu 0) (nI 58)) (mRnU gt ln (ta + 1) gu 0) 1) (nI 44)) (mRnU gt ln (mTkA gt ln (mRnA gt ln (ta + 1) gu 0) (nI 58)) (mRnU gt ln (ta + 1) gu 0) 1) 2) 3 else if mCd gt ln ta = nI 116 then (ta + 1) - 1 else if mCd gt ln ta = nI 117 then (ta + 1) - 1 else if mCd gt ln ta = nI 118 then (ta + 1) - 1 else if mCd gt ln ta = nI 119 then mRwA gt ln (ta + 1) gu else (ta + 1) - 1
def mRoS (gt : Nat → Int32) (ln : Nat) (ta : Nat) (gu : Nat → Int32) : Int32 := if mCd gt ln ta = 0 then mCd gt ln ta else if mCd gt ln ta = nI 97 then mCd gt ln ta else if mCd gt ln ta = nI 98 then mCd gt ln ta else if mCd gt ln ta = nI 99 then (mCd gt ln ta) else if mCd gt ln ta = nI 100 then mCd gt ln ta else if mCd gt ln ta = nI 101 then mCd gt ln ta else if mCd gt ln ta = nI 102 then mCd gt ln ta else if mCd gt ln ta = nI 103 then mCd gt ln ta else if mCd gt ln ta = nI 104 then mCd gt ln ta else if mCd gt ln ta = nI 105 then mCd gt ln ta else if mCd gt ln ta = nI 106 then mCd gt ln ta else if mCd gt ln ta = nI 107 then mCd gt ln ta else if mCd gt ln ta = nI 108 then (mCd gt ln ta) else if mCd gt ln ta = nI 109 then (mCd gt ln ta) else if mCd gt ln ta = nI 110 then mCd gt ln ta else if mCd gt ln ta = nI 111 then mCd gt ln ta else if mCd gt ln ta = nI 112 then mCd gt ln ta else if mCd gt ln ta = nI 113 then mCd gt ln ta else if mCd gt ln ta = nI 114 then mCd gt ln ta else if mCd gt ln ta = nI 115 then (mCd gt ln ta) else if mCd gt ln ta = nI 116 then mCd gt ln ta else if mCd gt ln ta = nI 117 then mCd gt ln ta else if mCd gt ln ta = nI 118 then mCd gt ln ta else if mCd gt ln ta = nI 119 then (mCd gt ln ta) else mCd gt ln ta
def mRoU (gt : Nat → Int32) (ln : Nat) (ta : Nat) (gu : Nat → Int32) : Nat → Int32 := if mCd gt ln ta = 0 then gu else if mCd gt ln ta = nI 97 then gu else if mCd gt ln ta = nI 98 then gu else if mCd gt ln ta = nI 99 then mRnU gt ln (ta + 1) gu 0 else if mCd gt ln ta = nI 100 then gu else if mCd gt ln ta = nI 101 then gu else if mCd gt ln ta = nI 102 then gu else if mCd gt ln ta = nI 103 then gu else if mCd gt ln ta = nI 104 then gu else if mCd gt ln ta = nI 105 then gu else if mCd gt ln ta = nI 106 then gu else if mCd gt ln ta = nI 107 then gu else if mCd gt ln ta = nI 108 then if mRn gt ln (ta + 1) gu 0 = 0 then mRnU gt ln (ta + 1) gu 0 else if mRc gt ln (mRnA gt ln (ta + 1) gu 0) (mRnU gt ln (ta + 1) gu 0) = 0 then mRcU gt ln (mRnA gt ln (ta + 1) gu 0) (mRnU gt ln (ta + 1) gu 0) else if mTk gt ln (mRcA gt ln (mRnA gt ln (ta + 1) gu 0) (mRnU gt ln (ta + 1) gu 0)) (nI 61) = 0 then mRcU gt ln (mRnA gt ln (ta + 1) gu 0) (mRnU gt ln (ta + 1) gu 0) else mRnU gt ln (mTkA gt ln (mRcA gt ln (mRnA gt ln (ta + 1) gu 0) (mRnU gt ln (ta + 1) gu 0)) (nI 61)) (mRcU gt ln (mRnA gt ln (ta + 1) gu 0) (mRnU gt ln (ta + 1) gu 0)) 2 else if mCd gt ln ta = nI 109 then if mRn gt ln (ta + 1) gu 0 = 0 then mRnU gt ln (ta + 1) gu 0 else if mTk gt ln (mRnA gt ln (ta + 1) gu 0) (nI 62) = 0 then mRnU gt ln (ta + 1) gu 0 else mRnU gt ln (mTkA gt ln (mRnA gt ln (ta + 1) gu 0) (nI 62)) (mRnU gt ln (ta + 1) gu 0) 1 else if mCd gt ln ta = nI 110 then gu else if mCd gt ln ta = nI 111 then gu else if mCd gt ln ta = nI 112 then gu else if mCd gt ln ta = nI 113 then gu else if mCd gt ln ta = nI 114 then gu else if mCd gt ln ta = nI 115 then if mRn gt ln (ta + 1) gu 0 = 0 then mRnU gt ln (ta + 1) gu 0 else if mTk gt ln (mRnA gt ln (ta + 1) gu 0) (nI 58) = 0 then mRnU gt ln (ta + 1) gu 0 else if mRn gt ln (mTkA gt ln (mRnA gt ln (ta + 1) gu 0) (nI 58)) (mRnU gt ln (ta + 1) gu 0) 1 = 0 then mRnU gt ln (mTkA gt ln (mRnA gt ln (ta + 1) gu 0) (nI 58)) (mRnU gt ln (ta + 1) gu 0) 1 else if mTk gt ln (mRnA gt ln (mTkA gt ln (mRnA gt ln (ta + 1) gu 0) (nI 58)) (mRnU gt ln (ta + 1) gu 0) 1) (nI 44) = 0 then mRnU gt ln (mTkA gt ln (mRnA gt ln (ta + 1) gu 0) (nI 58)) (mRnU gt ln (ta + 1) gu 0) 1 else if mRn gt ln (mTkA gt ln (mRnA gt ln (mTkA gt ln (mRnA gt ln (ta + 1) gu 0) (nI 58)) (mRnU gt ln (ta + 1) gu 0) 1) (nI 44)) (mRnU gt ln (mTkA gt ln (mRnA gt ln (ta + 1) gu 0) (nI 58)) (mRnU gt ln (ta + 1) gu 0) 1) 2 = 0 then mRnU gt ln (mTkA gt ln (mRnA gt ln (mTkA gt ln (mRnA gt ln (ta + 1) gu 0) (nI 58)) (mRnU gt ln (ta + 1) gu 0) 1) (nI 44)) (mRnU gt ln (mTkA gt ln (mRnA gt ln (ta + 1) gu 0) (nI 58)) (mRnU gt ln (ta + 1) gu 0) 1) 2 else if mTk gt ln (mRnA gt ln (mTkA gt ln (mRnA gt ln (mTkA gt ln (mRnA gt ln (ta + 1) gu 0) (nI 58)) (mRnU gt ln (ta + 1) gu 0) 1) (nI 44)) (mRnU gt ln (mTkA gt ln (mRnA gt ln (ta + 1) gu 0) (nI 58)) (mRnU gt ln (ta + 1) gu 0) 1) 2) (nI 44) = 0 then mRnU gt ln (mTkA gt ln (mRnA gt ln (mTkA gt ln (mRnA gt ln (ta + 1) gu 0) (nI 58)) (mRnU gt ln (ta + 1) gu 0) 1) (nI 44)) (mRnU gt ln (mTkA gt ln (mRnA gt ln (ta + 1) gu 0) (nI 58)) (mRnU gt ln (ta + 1) gu 0) 1) 2 else mRnU gt ln (mTkA gt ln (mRnA gt ln (mTkA gt ln (mRnA gt ln (mTkA gt ln (mRnA gt ln (ta + 1) gu 0) (nI 58)) (mRnU gt ln (ta + 1) gu 0) 1) (nI 44)) (mRnU gt ln (mTkA gt ln (mRnA gt ln (ta + 1) gu 0) (nI 58)) (mRnU gt ln (ta + 1) gu 0) 1) 2) (nI 44)) (mRnU gt ln (mTkA gt ln (mRnA gt ln (mTkA gt ln (mRnA gt ln (ta + 1) gu 0) (nI 58)) (mRnU gt ln (ta + 1) gu 0) 1) (nI 44)) (mRnU gt ln (mTkA gt ln (mRnA gt ln (ta + 1) gu 0) (nI 58)) (mRnU gt ln (ta + 1) gu 0) 1) 2) 3 else if mCd gt ln ta = nI 116 then gu else if mCd gt ln ta = nI 117 then gu else if mCd gt ln ta = nI 118 then gu else if mCd gt ln ta = nI 119 then mRwU gt ln (ta + 1) gu else gu
set_option maxHeartbeats 4000000 in
set_option maxRecDepth 100000 in
theorem c_X8_readsOrder (l : Launch) (E : EV) (xo : Nat) (st : Nat) (sp : Nat) (th : Nat) (so : Nat) (sv : Nat) (pd : Nat) (nu : Nat) (sn : Nat) (ln : Nat) (ta : Nat) (sg : Int32) (gt : Nat → Int32) (gu : Nat → Int32) (hln : ln ≤ 80) (hta : ta ≤ ln) : rcI l E yX8_readsOrder cX8_readsOrder 1 .boolean 3 [.ref xo] [(xo, .inr (5, [.ref st, .ref sp, .ref th, .int (nI sn), .ref so, .ref sv, .ref pd, .int (nI ln), .int (nI ta), .int sg, .ref nu])), (pd, .inl (E.2.1, 80, .inl gt)), (nu, .inl (E.2.1, 4, .inl gu))] (mRo gt ln ta gu) [(xo, .inr (5, [.ref st, .ref sp, .ref th, .int (nI sn), .ref so, .ref sv, .ref pd, .int (nI ln), .int (nI (mRoA gt ln ta gu)), .int (mRoS gt ln ta gu), .ref nu])), (pd, .inl (E.2.1, 80, .inl gt)), (nu, .inl (E.2.1, 4, .inl (mRoU gt ln ta gu)))] := by
  refine rcI_of (by decide) (Nat.le_of_ble_eq_true rfl) ?_
  intro pg e s m below meth c Q A ls S hP hD0 hE hA hl hret
  have hx := S.1
  have hb := S.2.1
  have hown := S.2.2.2.1
  have hts := S.2.2.2.2
  have hK := hE.1
  have hS : va_S A s.heap s.heap [] := va_S.rf
  have hDa : va_Da A [xo, pd, nu] := ⟨_, hD0, rfl⟩
  have hl : lv_has ls 1 [(0, .ref xo)] := hl
  refine lv_aload_n hx hb dX8_readsOrder_0 rfl (lv_at hl 0 rfl) ?_
  refine lv_aload_n hx hb dX8_readsOrder_1 rfl (lv_at hl 0 rfl) ?_
  refine rwV0 (rest := [.ref xo]) S (c_X8_code l E xo st sp th so sv pd nu sn ln ta sg gt hln hta) cd_X8_code bw_1059 ⟨Nat.le_of_ble_eq_true rfl, Nat.le_of_ble_eq_true rfl⟩ ⟨Nat.zero_le _, Nat.zero_le _⟩ hP (hDa.to rfl) hE hA hS [0, 1] rfl rfl [xo, pd] rfl rfl (ci := 5) rfl (q0 := 0) rfl (Nat.le_of_ble_eq_true rfl) hl.1 dX8_readsOrder_2 (fun H locs hP _ hS => ?_)
  have hP : va_P E.1 vwCl [(xo, .inr (5, [.ref st, .ref sp, .ref th, .int (nI sn), .ref so, .ref sv, .ref pd, .int (nI ln), .int (nI ta), .int sg, .ref nu])), (pd, .inl (E.2.1, 80, .inl gt)), (nu, .inl (E.2.1, 4, .inl gu))] H := hP
  refine va_put (D := E.1) (ci := 5) (v := .int (mCd gt ln ta)) (ty := .int) (C := RX8) (T := TX8) (N := 11) hx hb hts inb_X8 tyX8 tyX8_ok nmX8 hown hK hP (hDa.to rfl) hS 0 rfl rfl 9 (by decide) (hts _ bw_719) (fun _ h9 => h9) rfl (by decide +kernel) rfl rfl (Nat.le_of_ble_eq_true rfl) dX8_readsOrder_5 (fun H locs hP _ hS => ?_)
  have hP : va_P E.1 vwCl [(xo, .inr (5, [.ref st, .ref sp, .ref th, .int (nI sn), .ref so, .ref sv, .ref pd, .int (nI ln), .int (nI ta), .int (mCd gt ln ta), .ref nu])), (pd, .inl (E.2.1, 80, .inl gt)), (nu, .inl (E.2.1, 4, .inl gu))] H := hP
  refine lv_aload_n hx hb dX8_readsOrder_8 rfl (lv_at hl 0 rfl) ?_
  refine lv_dup hx hb dX8_readsOrder_9 rfl ?_
  refine va_get (D := E.1) (ci := 5) (v := .int (nI ta)) (C := RX8) (T := TX8) (N := 11) hx hb hts inb_X8 hown hK hP 0 rfl rfl 8 (by decide) (hts _ bw_718) (fun _ h9 => h9) rfl dX8_readsOrder_10 ?_
  refine lv_aload_n hx hb dX8_readsOrder_13 rfl (lv_at hl 0 rfl) ?_
  refine va_get (D := E.1) (ci := 5) (v := .int (mCd gt ln ta)) (C := RX8) (T := TX8) (N := 11) hx hb hts inb_X8 hown hK hP 0 rfl rfl 9 (by decide) (hts _ bw_719) (fun _ h9 => h9) rfl dX8_readsOrder_14 ?_
  refine lv_if_ne (tgt := 24) hx hb dX8_readsOrder_17 (by decide) (fun c_1 => ?_) (fun c_1 => ?_)
  · refine lv_iconst (v := nI 1) hx hb dX8_readsOrder_24 (by decide) ?_
    refine rn_add (a := ta) (b := 1) hx hb dX8_readsOrder_25 ?_
    refine va_put (D := E.1) (ci := 5) (v := .int (nI (ta + 1))) (ty := .int) (C := RX8) (T := TX8) (N := 11) hx hb hts inb_X8 tyX8 tyX8_ok nmX8 hown hK hP (hDa.to rfl) hS 0 rfl rfl 8 (by decide) (hts _ bw_718) (fun _ h9 => h9) rfl (by decide +kernel) rfl rfl (Nat.le_of_ble_eq_true rfl) dX8_readsOrder_26 (fun H locs hP _ hS => ?_)
    have hP : va_P E.1 vwCl [(xo, .inr (5, [.ref st, .ref sp, .ref th, .int (nI sn), .ref so, .ref sv, .ref pd, .int (nI ln), .int (nI (ta + 1)), .int (mCd gt ln ta), .ref nu])), (pd, .inl (E.2.1, 80, .inl gt)), (nu, .inl (E.2.1, 4, .inl gu))] H := hP
    refine lv_aload_n hx hb dX8_readsOrder_29 rfl (lv_at hl 0 rfl) ?_
    refine va_get (D := E.1) (ci := 5) (v := .int (mCd gt ln ta)) (C := RX8) (T := TX8) (N := 11) hx hb hts inb_X8 hown hK hP 0 rfl rfl 9 (by decide) (hts _ bw_719) (fun _ h9 => h9) rfl dX8_readsOrder_30 ?_
    have hlt9 := mCd_lt c_1
    by_cases c_2 : mCd gt ln ta = nI 97
    · refine lv_tableIn (tgt := 285) hx hb dX8_readsOrder_33 (by rw [c_2]; decide) (by rw [c_2]; decide) (by rw [c_2]; rfl) (by decide) ?_
      refine lv_iconst (v := nI 1) hx hb dX8_readsOrder_285 (by decide) ?_
      exact hret _ _ _ _ _ _ (by rw [mRo, if_neg c_1, if_pos c_2]) (by rw [show mRoA gt ln ta gu = ta + 1 from by rw [mRoA, if_neg c_1, if_pos c_2], show mRoS gt ln ta gu = mCd gt ln ta from by rw [mRoS, if_neg c_1, if_pos c_2], show mRoU gt ln ta gu = gu from by rw [mRoU, if_neg c_1, if_pos c_2]]) (by decide) hP hS dX8_readsOrder_286
    by_cases c_3 : mCd gt ln ta = nI 98
    · refine lv_tableIn (tgt := 287) hx hb dX8_readsOrder_33 (by rw [c_3]; decide) (by rw [c_3]; decide) (by rw [c_3]; rfl) (by decide) ?_
      refine lv_aload_n hx hb dX8_readsOrder_287 rfl (lv_at hl 0 rfl) ?_
      refine lv_dup hx hb dX8_readsOrder_288 rfl ?_
      refine va_get (D := E.1) (ci := 5) (v := .int (nI (ta + 1))) (C := RX8) (T := TX8) (N := 11) hx hb hts inb_X8 hown hK hP 0 rfl rfl 8 (by decide) (hts _ bw_718) (fun _ h9 => h9) rfl dX8_readsOrder_289 ?_
      refine lv_aload_n hx hb dX8_readsOrder_292 rfl (lv_at hl 0 rfl) ?_
      refine va_get (D := E.1) (ci := 5) (v := .int (mCd gt ln ta)) (C := RX8) (T := TX8) (N := 11) hx hb hts inb_X8 hown hK hP 0 rfl rfl 9 (by decide) (hts _ bw_719) (fun _ h9 => h9) rfl dX8_readsOrder_293 ?_
      refine lv_if_ne (tgt := 303) hx hb dX8_readsOrder_296 (by decide) (fun _ => ?_) (fun c_4 => absurd c_4 c_1)
      refine lv_iconst (v := nI 1) hx hb dX8_readsOrder_303 (by decide) ?_
      refine rn_sub (a := ta + 1) (b := 1) hx hb dX8_readsOrder_304 (by omega) ?_
      refine va_put (D := E.1) (ci := 5) (v := .int (nI ((ta + 1) - 1))) (ty := .int) (C := RX8) (T := TX8) (N := 11) hx hb hts inb_X8 tyX8 tyX8_ok nmX8 hown hK hP (hDa.to rfl) hS 0 rfl rfl 8 (by decide) (hts _ bw_718) (fun _ h9 => h9) rfl (by decide +kernel) rfl rfl (Nat.le_of_ble_eq_true rfl) dX8_readsOrder_305 (fun H locs hP _ hS => ?_)
      have hP : va_P E.1 vwCl [(xo, .inr (5, [.ref st, .ref sp, .ref th, .int (nI sn), .ref so, .ref sv, .ref pd, .int (nI ln), .int (nI ((ta + 1) - 1)), .int (mCd gt ln ta), .ref nu])), (pd, .inl (E.2.1, 80, .inl gt)), (nu, .inl (E.2.1, 4, .inl gu))] H := hP
      refine lv_iconst (v := nI 0) hx hb dX8_readsOrder_308 (by decide) ?_
      exact hret _ _ _ _ _ _ (by rw [mRo, if_neg c_1, if_neg c_2, if_pos c_3]) (by rw [show mRoA gt ln ta gu = (ta + 1) - 1 from by rw [mRoA, if_neg c_1, if_neg c_2, if_pos c_3], show mRoS gt ln ta gu = mCd gt ln ta from by rw [mRoS, if_neg c_1, if_neg c_2, if_pos c_3], show mRoU gt ln ta gu = gu from by rw [mRoU, if_neg c_1, if_neg c_2, if_pos c_3]]) (by decide) hP hS dX8_readsOrder_309
    by_cases c_5 : mCd gt ln ta = nI 99
    · refine lv_tableIn (tgt := 279) hx hb dX8_readsOrder_33 (by rw [c_5]; decide) (by rw [c_5]; decide) (by rw [c_5]; rfl) (by decide) ?_
      refine lv_aload_n hx hb dX8_readsOrder_279 rfl (lv_at hl 0 rfl) ?_
      refine lv_iconst (v := nI 0) hx hb dX8_readsOrder_280 (by decide) ?_
      refine rwV1 (rest := []) S (c_X8_readsNumber l E xo st sp th so sv pd nu sn ln (ta + 1) (mCd gt ln ta) gt gu 0 hln (by omega) (by omega)) cd_X8_readsNumber bw_1063 ⟨Nat.le_of_ble_eq_true rfl, Nat.le_of_ble_eq_true rfl⟩ ⟨Nat.zero_le _, Nat.zero_le _⟩ hP (hDa.to rfl) hE hA hS [0, 1, 2] rfl rfl [xo, pd, nu] rfl rfl (ci := 5) rfl (q0 := 0) rfl (Nat.le_of_ble_eq_true rfl) hl.1 dX8_readsOrder_281 (fun H locs hP _ hS => ?_)
      have hP : va_P E.1 vwCl [(xo, .inr (5, [.ref st, .ref sp, .ref th, .int (nI sn), .ref so, .ref sv, .ref pd, .int (nI ln), .int (nI (mRnA gt ln (ta + 1) gu 0)), .int (mCd gt ln ta), .ref nu])), (pd, .inl (E.2.1, 80, .inl gt)), (nu, .inl (E.2.1, 4, .inl (mRnU gt ln (ta + 1) gu 0)))] H := hP
      exact hret _ _ _ _ _ _ (by rw [mRo, if_neg c_1, if_neg c_2, if_neg c_3, if_pos c_5]) (by rw [show mRoA gt ln ta gu = mRnA gt ln (ta + 1) gu 0 from by rw [mRoA, if_neg c_1, if_neg c_2, if_neg c_3, if_pos c_5], show mRoS gt ln ta gu = (mCd gt ln ta) from by rw [mRoS, if_neg c_1, if_neg c_2, if_neg c_3, if_pos c_5], show mRoU gt ln ta gu = mRnU gt ln (ta + 1) gu 0 from by rw [mRoU, if_neg c_1, if_neg c_2, if_neg c_3, if_pos c_5]]) (by first | (with_reducible exact mRn_z _ _ _ _ _) | assumption) hP hS dX8_readsOrder_284
    by_cases c_6 : mCd gt ln ta = nI 100
    · refine lv_tableIn (tgt := 287) hx hb dX8_readsOrder_33 (by rw [c_6]; decide) (by rw [c_6]; decide) (by rw [c_6]; rfl) (by decide) ?_
      refine lv_aload_n hx hb dX8_readsOrder_287 rfl (lv_at hl 0 rfl) ?_
      refine lv_dup hx hb dX8_readsOrder_288 rfl ?_
      refine va_get (D := E.1) (ci := 5) (v := .int (nI (ta + 1))) (C := RX8) (T := TX8) (N := 11) hx hb hts inb_X8 hown hK hP 0 rfl rfl 8 (by decide) (hts _ bw_718) (fun _ h9 => h9) rfl dX8_readsOrder_289 ?_
      refine lv_aload_n hx hb dX8_readsOrder_292 rfl (lv_at hl 0 rfl) ?_
      refine va_get (D := E.1) (ci := 5) (v := .int (mCd gt ln ta)) (C := RX8) (T := TX8) (N := 11) hx hb hts inb_X8 hown hK hP 0 rfl rfl 9 (by decide) (hts _ bw_719) (fun _ h9 => h9) rfl dX8_readsOrder_293 ?_
      refine lv_if_ne (tgt := 303) hx hb dX8_readsOrder_296 (by decide) (fun _ => ?_) (fun c_7 => absurd c_7 c_1)
      refine lv_iconst (v := nI 1) hx hb dX8_readsOrder_303 (by decide) ?_
      refine rn_sub (a := ta + 1) (b := 1) hx hb dX8_readsOrder_304 (by omega) ?_
      refine va_put (D := E.1) (ci := 5) (v := .int (nI ((ta + 1) - 1))) (ty := .int) (C := RX8) (T := TX8) (N := 11) hx hb hts inb_X8 tyX8 tyX8_ok nmX8 hown hK hP (hDa.to rfl) hS 0 rfl rfl 8 (by decide) (hts _ bw_718) (fun _ h9 => h9) rfl (by decide +kernel) rfl rfl (Nat.le_of_ble_eq_true rfl) dX8_readsOrder_305 (fun H locs hP _ hS => ?_)
      have hP : va_P E.1 vwCl [(xo, .inr (5, [.ref st, .ref sp, .ref th, .int (nI sn), .ref so, .ref sv, .ref pd, .int (nI ln), .int (nI ((ta + 1) - 1)), .int (mCd gt ln ta), .ref nu])), (pd, .inl (E.2.1, 80, .inl gt)), (nu, .inl (E.2.1, 4, .inl gu))] H := hP
      refine lv_iconst (v := nI 0) hx hb dX8_readsOrder_308 (by decide) ?_
      exact hret _ _ _ _ _ _ (by rw [mRo, if_neg c_1, if_neg c_2, if_neg c_3, if_neg c_5, if_pos c_6]) (by rw [show mRoA gt ln ta gu = (ta + 1) - 1 from by rw [mRoA, if_neg c_1, if_neg c_2, if_neg c_3, if_neg c_5, if_pos c_6], show mRoS gt ln ta gu = mCd gt ln ta from by rw [mRoS, if_neg c_1, if_neg c_2, if_neg c_3, if_neg c_5, if_pos c_6], show mRoU gt ln ta gu = gu from by rw [mRoU, if_neg c_1, if_neg c_2, if_neg c_3, if_neg c_5, if_pos c_6]]) (by decide) hP hS dX8_readsOrder_309
    by_cases c_8 : mCd gt ln ta = nI 101
    · refine lv_tableIn (tgt := 287) hx hb dX8_readsOrder_33 (by rw [c_8]; decide) (by rw [c_8]; decide) (by rw [c_8]; rfl) (by decide) ?_
      refine lv_aload_n hx hb dX8_readsOrder_287 rfl (lv_at hl 0 rfl) ?_
      refine lv_dup hx hb dX8_readsOrder_288 rfl ?_
      refine va_get (D := E.1) (ci := 5) (v := .int (nI (ta + 1))) (C := RX8) (T := TX8) (N := 11) hx hb hts inb_X8 hown hK hP 0 rfl rfl 8 (by decide) (hts _ bw_718) (fun _ h9 => h9) rfl dX8_readsOrder_289 ?_
      refine lv_aload_n hx hb dX8_readsOrder_292 rfl (lv_at hl 0 rfl) ?_
      refine va_get (D := E.1) (ci := 5) (v := .int (mCd gt ln ta)) (C := RX8) (T := TX8) (N := 11) hx hb hts inb_X8 hown hK hP 0 rfl rfl 9 (by decide) (hts _ bw_719) (fun _ h9 => h9) rfl dX8_readsOrder_293 ?_
      refine lv_if_ne (tgt := 303) hx hb dX8_readsOrder_296 (by decide) (fun _ => ?_) (fun c_9 => absurd c_9 c_1)
      refine lv_iconst (v := nI 1) hx hb dX8_readsOrder_303 (by decide) ?_
      refine rn_sub (a := ta + 1) (b := 1) hx hb dX8_readsOrder_304 (by omega) ?_
      refine va_put (D := E.1) (ci := 5) (v := .int (nI ((ta + 1) - 1))) (ty := .int) (C := RX8) (T := TX8) (N := 11) hx hb hts inb_X8 tyX8 tyX8_ok nmX8 hown hK hP (hDa.to rfl) hS 0 rfl rfl 8 (by decide) (hts _ bw_718) (fun _ h9 => h9) rfl (by decide +kernel) rfl rfl (Nat.le_of_ble_eq_true rfl) dX8_readsOrder_305 (fun H locs hP _ hS => ?_)
      have hP : va_P E.1 vwCl [(xo, .inr (5, [.ref st, .ref sp, .ref th, .int (nI sn), .ref so, .ref sv, .ref pd, .int (nI ln), .int (nI ((ta + 1) - 1)), .int (mCd gt ln ta), .ref nu])), (pd, .inl (E.2.1, 80, .inl gt)), (nu, .inl (E.2.1, 4, .inl gu))] H := hP
      refine lv_iconst (v := nI 0) hx hb dX8_readsOrder_308 (by decide) ?_
      exact hret _ _ _ _ _ _ (by rw [mRo, if_neg c_1, if_neg c_2, if_neg c_3, if_neg c_5, if_neg c_6, if_pos c_8]) (by rw [show mRoA gt ln ta gu = (ta + 1) - 1 from by rw [mRoA, if_neg c_1, if_neg c_2, if_neg c_3, if_neg c_5, if_neg c_6, if_pos c_8], show mRoS gt ln ta gu = mCd gt ln ta from by rw [mRoS, if_neg c_1, if_neg c_2, if_neg c_3, if_neg c_5, if_neg c_6, if_pos c_8], show mRoU gt ln ta gu = gu from by rw [mRoU, if_neg c_1, if_neg c_2, if_neg c_3, if_neg c_5, if_neg c_6, if_pos c_8]]) (by decide) hP hS dX8_readsOrder_309
    by_cases c_10 : mCd gt ln ta = nI 102
    · refine lv_tableIn (tgt := 287) hx hb dX8_readsOrder_33 (by rw [c_10]; decide) (by rw [c_10]; decide) (by rw [c_10]; rfl) (by decide) ?_
      refine lv_aload_n hx hb dX8_readsOrder_287 rfl (lv_at hl 0 rfl) ?_
      refine lv_dup hx hb dX8_readsOrder_288 rfl ?_
      refine va_get (D := E.1) (ci := 5) (v := .int (nI (ta + 1))) (C := RX8) (T := TX8) (N := 11) hx hb hts inb_X8 hown hK hP 0 rfl rfl 8 (by decide) (hts _ bw_718) (fun _ h9 => h9) rfl dX8_readsOrder_289 ?_
      refine lv_aload_n hx hb dX8_readsOrder_292 rfl (lv_at hl 0 rfl) ?_
      refine va_get (D := E.1) (ci := 5) (v := .int (mCd gt ln ta)) (C := RX8) (T := TX8) (N := 11) hx hb hts inb_X8 hown hK hP 0 rfl rfl 9 (by decide) (hts _ bw_719) (fun _ h9 => h9) rfl dX8_readsOrder_293 ?_
      refine lv_if_ne (tgt := 303) hx hb dX8_readsOrder_296 (by decide) (fun _ => ?_) (fun c_11 => absurd c_11 c_1)
      refine lv_iconst (v := nI 1) hx hb dX8_readsOrder_303 (by decide) ?_
      refine rn_sub (a := ta + 1) (b := 1) hx hb dX8_readsOrder_304 (by omega) ?_
      refine va_put (D := E.1) (ci := 5) (v := .int (nI ((ta + 1) - 1))) (ty := .int) (C := RX8) (T := TX8) (N := 11) hx hb hts inb_X8 tyX8 tyX8_ok nmX8 hown hK hP (hDa.to rfl) hS 0 rfl rfl 8 (by decide) (hts _ bw_718) (fun _ h9 => h9) rfl (by decide +kernel) rfl rfl (Nat.le_of_ble_eq_true rfl) dX8_readsOrder_305 (fun H locs hP _ hS => ?_)
      have hP : va_P E.1 vwCl [(xo, .inr (5, [.ref st, .ref sp, .ref th, .int (nI sn), .ref so, .ref sv, .ref pd, .int (nI ln), .int (nI ((ta + 1) - 1)), .int (mCd gt ln ta), .ref nu])), (pd, .inl (E.2.1, 80, .inl gt)), (nu, .inl (E.2.1, 4, .inl gu))] H := hP
      refine lv_iconst (v := nI 0) hx hb dX8_readsOrder_308 (by decide) ?_
      exact hret _ _ _ _ _ _ (by rw [mRo, if_neg c_1, if_neg c_2, if_neg c_3, if_neg c_5, if_neg c_6, if_neg c_8, if_pos c_10]) (by rw [show mRoA gt ln ta gu = (ta + 1) - 1 from by rw [mRoA, if_neg c_1, if_neg c_2, if_neg c_3, if_neg c_5, if_neg c_6, if_neg c_8, if_pos c_10], show mRoS gt ln ta gu = mCd gt ln ta from by rw [mRoS, if_neg c_1, if_neg c_2, if_neg c_3, if_neg c_5, if_neg c_6, if_neg c_8, if_pos c_10], show mRoU gt ln ta gu = gu from by rw [mRoU, if_neg c_1, if_neg c_2, if_neg c_3, if_neg c_5, if_neg c_6, if_neg c_8, if_pos c_10]]) (by decide) hP hS dX8_readsOrder_309
    by_cases c_12 : mCd gt ln ta = nI 103
    · refine lv_tableIn (tgt := 287) hx hb dX8_readsOrder_33 (by rw [c_12]; decide) (by rw [c_12]; decide) (by rw [c_12]; rfl) (by decide) ?_
      refine lv_aload_n hx hb dX8_readsOrder_287 rfl (lv_at hl 0 rfl) ?_
      refine lv_dup hx hb dX8_readsOrder_288 rfl ?_
      refine va_get (D := E.1) (ci := 5) (v := .int (nI (ta + 1))) (C := RX8) (T := TX8) (N := 11) hx hb hts inb_X8 hown hK hP 0 rfl rfl 8 (by decide) (hts _ bw_718) (fun _ h9 => h9) rfl dX8_readsOrder_289 ?_
      refine lv_aload_n hx hb dX8_readsOrder_292 rfl (lv_at hl 0 rfl) ?_
      refine va_get (D := E.1) (ci := 5) (v := .int (mCd gt ln ta)) (C := RX8) (T := TX8) (N := 11) hx hb hts inb_X8 hown hK hP 0 rfl rfl 9 (by decide) (hts _ bw_719) (fun _ h9 => h9) rfl dX8_readsOrder_293 ?_
      refine lv_if_ne (tgt := 303) hx hb dX8_readsOrder_296 (by decide) (fun _ => ?_) (fun c_13 => absurd c_13 c_1)
      refine lv_iconst (v := nI 1) hx hb dX8_readsOrder_303 (by decide) ?_
      refine rn_sub (a := ta + 1) (b := 1) hx hb dX8_readsOrder_304 (by omega) ?_
      refine va_put (D := E.1) (ci := 5) (v := .int (nI ((ta + 1) - 1))) (ty := .int) (C := RX8) (T := TX8) (N := 11) hx hb hts inb_X8 tyX8 tyX8_ok nmX8 hown hK hP (hDa.to rfl) hS 0 rfl rfl 8 (by decide) (hts _ bw_718) (fun _ h9 => h9) rfl (by decide +kernel) rfl rfl (Nat.le_of_ble_eq_true rfl) dX8_readsOrder_305 (fun H locs hP _ hS => ?_)
      have hP : va_P E.1 vwCl [(xo, .inr (5, [.ref st, .ref sp, .ref th, .int (nI sn), .ref so, .ref sv, .ref pd, .int (nI ln), .int (nI ((ta + 1) - 1)), .int (mCd gt ln ta), .ref nu])), (pd, .inl (E.2.1, 80, .inl gt)), (nu, .inl (E.2.1, 4, .inl gu))] H := hP
      refine lv_iconst (v := nI 0) hx hb dX8_readsOrder_308 (by decide) ?_
      exact hret _ _ _ _ _ _ (by rw [mRo, if_neg c_1, if_neg c_2, if_neg c_3, if_neg c_5, if_neg c_6, if_neg c_8, if_neg c_10, if_pos c_12]) (by rw [show mRoA gt ln ta gu = (ta + 1) - 1 from by rw [mRoA, if_neg c_1, if_neg c_2, if_neg c_3, if_neg c_5, if_neg c_6, if_neg c_8, if_neg c_10, if_pos c_12], show mRoS gt ln ta gu = mCd gt ln ta from by rw [mRoS, if_neg c_1, if_neg c_2, if_neg c_3, if_neg c_5, if_neg c_6, if_neg c_8, if_neg c_10, if_pos c_12], show mRoU gt ln ta gu = gu from by rw [mRoU, if_neg c_1, if_neg c_2, if_neg c_3, if_neg c_5, if_neg c_6, if_neg c_8, if_neg c_10, if_pos c_12]]) (by decide) hP hS dX8_readsOrder_309
    by_cases c_14 : mCd gt ln ta = nI 104
    · refine lv_tableIn (tgt := 287) hx hb dX8_readsOrder_33 (by rw [c_14]; decide) (by rw [c_14]; decide) (by rw [c_14]; rfl) (by decide) ?_
      refine lv_aload_n hx hb dX8_readsOrder_287 rfl (lv_at hl 0 rfl) ?_
      refine lv_dup hx hb dX8_readsOrder_288 rfl ?_
      refine va_get (D := E.1) (ci := 5) (v := .int (nI (ta + 1))) (C := RX8) (T := TX8) (N := 11) hx hb hts inb_X8 hown hK hP 0 rfl rfl 8 (by decide) (hts _ bw_718) (fun _ h9 => h9) rfl dX8_readsOrder_289 ?_
      refine lv_aload_n hx hb dX8_readsOrder_292 rfl (lv_at hl 0 rfl) ?_
      refine va_get (D := E.1) (ci := 5) (v := .int (mCd gt ln ta)) (C := RX8) (T := TX8) (N := 11) hx hb hts inb_X8 hown hK hP 0 rfl rfl 9 (by decide) (hts _ bw_719) (fun _ h9 => h9) rfl dX8_readsOrder_293 ?_
      refine lv_if_ne (tgt := 303) hx hb dX8_readsOrder_296 (by decide) (fun _ => ?_) (fun c_15 => absurd c_15 c_1)
      refine lv_iconst (v := nI 1) hx hb dX8_readsOrder_303 (by decide) ?_
      refine rn_sub (a := ta + 1) (b := 1) hx hb dX8_readsOrder_304 (by omega) ?_
      refine va_put (D := E.1) (ci := 5) (v := .int (nI ((ta + 1) - 1))) (ty := .int) (C := RX8) (T := TX8) (N := 11) hx hb hts inb_X8 tyX8 tyX8_ok nmX8 hown hK hP (hDa.to rfl) hS 0 rfl rfl 8 (by decide) (hts _ bw_718) (fun _ h9 => h9) rfl (by decide +kernel) rfl rfl (Nat.le_of_ble_eq_true rfl) dX8_readsOrder_305 (fun H locs hP _ hS => ?_)
      have hP : va_P E.1 vwCl [(xo, .inr (5, [.ref st, .ref sp, .ref th, .int (nI sn), .ref so, .ref sv, .ref pd, .int (nI ln), .int (nI ((ta + 1) - 1)), .int (mCd gt ln ta), .ref nu])), (pd, .inl (E.2.1, 80, .inl gt)), (nu, .inl (E.2.1, 4, .inl gu))] H := hP
      refine lv_iconst (v := nI 0) hx hb dX8_readsOrder_308 (by decide) ?_
      exact hret _ _ _ _ _ _ (by rw [mRo, if_neg c_1, if_neg c_2, if_neg c_3, if_neg c_5, if_neg c_6, if_neg c_8, if_neg c_10, if_neg c_12, if_pos c_14]) (by rw [show mRoA gt ln ta gu = (ta + 1) - 1 from by rw [mRoA, if_neg c_1, if_neg c_2, if_neg c_3, if_neg c_5, if_neg c_6, if_neg c_8, if_neg c_10, if_neg c_12, if_pos c_14], show mRoS gt ln ta gu = mCd gt ln ta from by rw [mRoS, if_neg c_1, if_neg c_2, if_neg c_3, if_neg c_5, if_neg c_6, if_neg c_8, if_neg c_10, if_neg c_12, if_pos c_14], show mRoU gt ln ta gu = gu from by rw [mRoU, if_neg c_1, if_neg c_2, if_neg c_3, if_neg c_5, if_neg c_6, if_neg c_8, if_neg c_10, if_neg c_12, if_pos c_14]]) (by decide) hP hS dX8_readsOrder_309
    by_cases c_16 : mCd gt ln ta = nI 105
    · refine lv_tableIn (tgt := 287) hx hb dX8_readsOrder_33 (by rw [c_16]; decide) (by rw [c_16]; decide) (by rw [c_16]; rfl) (by decide) ?_
      refine lv_aload_n hx hb dX8_readsOrder_287 rfl (lv_at hl 0 rfl) ?_
      refine lv_dup hx hb dX8_readsOrder_288 rfl ?_
      refine va_get (D := E.1) (ci := 5) (v := .int (nI (ta + 1))) (C := RX8) (T := TX8) (N := 11) hx hb hts inb_X8 hown hK hP 0 rfl rfl 8 (by decide) (hts _ bw_718) (fun _ h9 => h9) rfl dX8_readsOrder_289 ?_
      refine lv_aload_n hx hb dX8_readsOrder_292 rfl (lv_at hl 0 rfl) ?_
      refine va_get (D := E.1) (ci := 5) (v := .int (mCd gt ln ta)) (C := RX8) (T := TX8) (N := 11) hx hb hts inb_X8 hown hK hP 0 rfl rfl 9 (by decide) (hts _ bw_719) (fun _ h9 => h9) rfl dX8_readsOrder_293 ?_
      refine lv_if_ne (tgt := 303) hx hb dX8_readsOrder_296 (by decide) (fun _ => ?_) (fun c_17 => absurd c_17 c_1)
      refine lv_iconst (v := nI 1) hx hb dX8_readsOrder_303 (by decide) ?_
      refine rn_sub (a := ta + 1) (b := 1) hx hb dX8_readsOrder_304 (by omega) ?_
      refine va_put (D := E.1) (ci := 5) (v := .int (nI ((ta + 1) - 1))) (ty := .int) (C := RX8) (T := TX8) (N := 11) hx hb hts inb_X8 tyX8 tyX8_ok nmX8 hown hK hP (hDa.to rfl) hS 0 rfl rfl 8 (by decide) (hts _ bw_718) (fun _ h9 => h9) rfl (by decide +kernel) rfl rfl (Nat.le_of_ble_eq_true rfl) dX8_readsOrder_305 (fun H locs hP _ hS => ?_)
      have hP : va_P E.1 vwCl [(xo, .inr (5, [.ref st, .ref sp, .ref th, .int (nI sn), .ref so, .ref sv, .ref pd, .int (nI ln), .int (nI ((ta + 1) - 1)), .int (mCd gt ln ta), .ref nu])), (pd, .inl (E.2.1, 80, .inl gt)), (nu, .inl (E.2.1, 4, .inl gu))] H := hP
      refine lv_iconst (v := nI 0) hx hb dX8_readsOrder_308 (by decide) ?_
      exact hret _ _ _ _ _ _ (by rw [mRo, if_neg c_1, if_neg c_2, if_neg c_3, if_neg c_5, if_neg c_6, if_neg c_8, if_neg c_10, if_neg c_12, if_neg c_14, if_pos c_16]) (by rw [show mRoA gt ln ta gu = (ta + 1) - 1 from by rw [mRoA, if_neg c_1, if_neg c_2, if_neg c_3, if_neg c_5, if_neg c_6, if_neg c_8, if_neg c_10, if_neg c_12, if_neg c_14, if_pos c_16], show mRoS gt ln ta gu = mCd gt ln ta from by rw [mRoS, if_neg c_1, if_neg c_2, if_neg c_3, if_neg c_5, if_neg c_6, if_neg c_8, if_neg c_10, if_neg c_12, if_neg c_14, if_pos c_16], show mRoU gt ln ta gu = gu from by rw [mRoU, if_neg c_1, if_neg c_2, if_neg c_3, if_neg c_5, if_neg c_6, if_neg c_8, if_neg c_10, if_neg c_12, if_neg c_14, if_pos c_16]]) (by decide) hP hS dX8_readsOrder_309
    by_cases c_18 : mCd gt ln ta = nI 106
    · refine lv_tableIn (tgt := 287) hx hb dX8_readsOrder_33 (by rw [c_18]; decide) (by rw [c_18]; decide) (by rw [c_18]; rfl) (by decide) ?_
      refine lv_aload_n hx hb dX8_readsOrder_287 rfl (lv_at hl 0 rfl) ?_
      refine lv_dup hx hb dX8_readsOrder_288 rfl ?_
      refine va_get (D := E.1) (ci := 5) (v := .int (nI (ta + 1))) (C := RX8) (T := TX8) (N := 11) hx hb hts inb_X8 hown hK hP 0 rfl rfl 8 (by decide) (hts _ bw_718) (fun _ h9 => h9) rfl dX8_readsOrder_289 ?_
      refine lv_aload_n hx hb dX8_readsOrder_292 rfl (lv_at hl 0 rfl) ?_
      refine va_get (D := E.1) (ci := 5) (v := .int (mCd gt ln ta)) (C := RX8) (T := TX8) (N := 11) hx hb hts inb_X8 hown hK hP 0 rfl rfl 9 (by decide) (hts _ bw_719) (fun _ h9 => h9) rfl dX8_readsOrder_293 ?_
      refine lv_if_ne (tgt := 303) hx hb dX8_readsOrder_296 (by decide) (fun _ => ?_) (fun c_19 => absurd c_19 c_1)
      refine lv_iconst (v := nI 1) hx hb dX8_readsOrder_303 (by decide) ?_
      refine rn_sub (a := ta + 1) (b := 1) hx hb dX8_readsOrder_304 (by omega) ?_
      refine va_put (D := E.1) (ci := 5) (v := .int (nI ((ta + 1) - 1))) (ty := .int) (C := RX8) (T := TX8) (N := 11) hx hb hts inb_X8 tyX8 tyX8_ok nmX8 hown hK hP (hDa.to rfl) hS 0 rfl rfl 8 (by decide) (hts _ bw_718) (fun _ h9 => h9) rfl (by decide +kernel) rfl rfl (Nat.le_of_ble_eq_true rfl) dX8_readsOrder_305 (fun H locs hP _ hS => ?_)
      have hP : va_P E.1 vwCl [(xo, .inr (5, [.ref st, .ref sp, .ref th, .int (nI sn), .ref so, .ref sv, .ref pd, .int (nI ln), .int (nI ((ta + 1) - 1)), .int (mCd gt ln ta), .ref nu])), (pd, .inl (E.2.1, 80, .inl gt)), (nu, .inl (E.2.1, 4, .inl gu))] H := hP
      refine lv_iconst (v := nI 0) hx hb dX8_readsOrder_308 (by decide) ?_
      exact hret _ _ _ _ _ _ (by rw [mRo, if_neg c_1, if_neg c_2, if_neg c_3, if_neg c_5, if_neg c_6, if_neg c_8, if_neg c_10, if_neg c_12, if_neg c_14, if_neg c_16, if_pos c_18]) (by rw [show mRoA gt ln ta gu = (ta + 1) - 1 from by rw [mRoA, if_neg c_1, if_neg c_2, if_neg c_3, if_neg c_5, if_neg c_6, if_neg c_8, if_neg c_10, if_neg c_12, if_neg c_14, if_neg c_16, if_pos c_18], show mRoS gt ln ta gu = mCd gt ln ta from by rw [mRoS, if_neg c_1, if_neg c_2, if_neg c_3, if_neg c_5, if_neg c_6, if_neg c_8, if_neg c_10, if_neg c_12, if_neg c_14, if_neg c_16, if_pos c_18], show mRoU gt ln ta gu = gu from by rw [mRoU, if_neg c_1, if_neg c_2, if_neg c_3, if_neg c_5, if_neg c_6, if_neg c_8, if_neg c_10, if_neg c_12, if_neg c_14, if_neg c_16, if_pos c_18]]) (by decide) hP hS dX8_readsOrder_309
    by_cases c_20 : mCd gt ln ta = nI 107
    · refine lv_tableIn (tgt := 285) hx hb dX8_readsOrder_33 (by rw [c_20]; decide) (by rw [c_20]; decide) (by rw [c_20]; rfl) (by decide) ?_
      refine lv_iconst (v := nI 1) hx hb dX8_readsOrder_285 (by decide) ?_
      exact hret _ _ _ _ _ _ (by rw [mRo, if_neg c_1, if_neg c_2, if_neg c_3, if_neg c_5, if_neg c_6, if_neg c_8, if_neg c_10, if_neg c_12, if_neg c_14, if_neg c_16, if_neg c_18, if_pos c_20]) (by rw [show mRoA gt ln ta gu = ta + 1 from by rw [mRoA, if_neg c_1, if_neg c_2, if_neg c_3, if_neg c_5, if_neg c_6, if_neg c_8, if_neg c_10, if_neg c_12, if_neg c_14, if_neg c_16, if_neg c_18, if_pos c_20], show mRoS gt ln ta gu = mCd gt ln ta from by rw [mRoS, if_neg c_1, if_neg c_2, if_neg c_3, if_neg c_5, if_neg c_6, if_neg c_8, if_neg c_10, if_neg c_12, if_neg c_14, if_neg c_16, if_neg c_18, if_pos c_20], show mRoU gt ln ta gu = gu from by rw [mRoU, if_neg c_1, if_neg c_2, if_neg c_3, if_neg c_5, if_neg c_6, if_neg c_8, if_neg c_10, if_neg c_12, if_neg c_14, if_neg c_16, if_neg c_18, if_pos c_20]]) (by decide) hP hS dX8_readsOrder_286
    by_cases c_21 : mCd gt ln ta = nI 108
    · refine lv_tableIn (tgt := 205) hx hb dX8_readsOrder_33 (by rw [c_21]; decide) (by rw [c_21]; decide) (by rw [c_21]; rfl) (by decide) ?_
      refine lv_aload_n hx hb dX8_readsOrder_205 rfl (lv_at hl 0 rfl) ?_
      refine lv_iconst (v := nI 0) hx hb dX8_readsOrder_206 (by decide) ?_
      refine rwV1 (rest := []) S (c_X8_readsNumber l E xo st sp th so sv pd nu sn ln (ta + 1) (mCd gt ln ta) gt gu 0 hln (by omega) (by omega)) cd_X8_readsNumber bw_1063 ⟨Nat.le_of_ble_eq_true rfl, Nat.le_of_ble_eq_true rfl⟩ ⟨Nat.zero_le _, Nat.zero_le _⟩ hP (hDa.to rfl) hE hA hS [0, 1, 2] rfl rfl [xo, pd, nu] rfl rfl (ci := 5) rfl (q0 := 0) rfl (Nat.le_of_ble_eq_true rfl) hl.1 dX8_readsOrder_207 (fun H locs hP _ hS => ?_)
      have hP : va_P E.1 vwCl [(xo, .inr (5, [.ref st, .ref sp, .ref th, .int (nI sn), .ref so, .ref sv, .ref pd, .int (nI ln), .int (nI (mRnA gt ln (ta + 1) gu 0)), .int (mCd gt ln ta), .ref nu])), (pd, .inl (E.2.1, 80, .inl gt)), (nu, .inl (E.2.1, 4, .inl (mRnU gt ln (ta + 1) gu 0)))] H := hP
      refine lv_if_eq (tgt := 241) hx hb dX8_readsOrder_210 (by decide) (fun c_22 => ?_) (fun c_22 => ?_)
      · refine lv_iconst (v := nI 0) hx hb dX8_readsOrder_241 (by decide) ?_
        exact hret _ _ _ _ _ _ (by rw [mRo, if_neg c_1, if_neg c_2, if_neg c_3, if_neg c_5, if_neg c_6, if_neg c_8, if_neg c_10, if_neg c_12, if_neg c_14, if_neg c_16, if_neg c_18, if_neg c_20, if_pos c_21, if_pos c_22]) (by rw [show mRoA gt ln ta gu = mRnA gt ln (ta + 1) gu 0 from by rw [mRoA, if_neg c_1, if_neg c_2, if_neg c_3, if_neg c_5, if_neg c_6, if_neg c_8, if_neg c_10, if_neg c_12, if_neg c_14, if_neg c_16, if_neg c_18, if_neg c_20, if_pos c_21, if_pos c_22], show mRoS gt ln ta gu = (mCd gt ln ta) from by rw [mRoS, if_neg c_1, if_neg c_2, if_neg c_3, if_neg c_5, if_neg c_6, if_neg c_8, if_neg c_10, if_neg c_12, if_neg c_14, if_neg c_16, if_neg c_18, if_neg c_20, if_pos c_21], show mRoU gt ln ta gu = mRnU gt ln (ta + 1) gu 0 from by rw [mRoU, if_neg c_1, if_neg c_2, if_neg c_3, if_neg c_5, if_neg c_6, if_neg c_8, if_neg c_10, if_neg c_12, if_neg c_14, if_neg c_16, if_neg c_18, if_neg c_20, if_pos c_21, if_pos c_22]]) (by decide) hP hS dX8_readsOrder_242
      · refine lv_aload_n hx hb dX8_readsOrder_213 rfl (lv_at hl 0 rfl) ?_
        refine rwV0 (rest := []) S (c_X8_readsColour l E xo st sp th so sv pd nu sn ln (mRnA gt ln (ta + 1) gu 0) (mCd gt ln ta) gt (mRnU gt ln (ta + 1) gu 0) hln (mRnA_le (by omega))) cd_X8_readsColour bw_1071 ⟨Nat.le_of_ble_eq_true rfl, Nat.le_of_ble_eq_true rfl⟩ ⟨Nat.zero_le _, Nat.zero_le _⟩ hP (hDa.to rfl) hE hA hS [0, 1, 2] rfl rfl [xo, pd, nu] rfl rfl (ci := 5) rfl (q0 := 0) rfl (Nat.le_of_ble_eq_true rfl) hl.1 dX8_readsOrder_214 (fun H locs hP _ hS => ?_)
        have hP : va_P E.1 vwCl [(xo, .inr (5, [.ref st, .ref sp, .ref th, .int (nI sn), .ref so, .ref sv, .ref pd, .int (nI ln), .int (nI (mRcA gt ln (mRnA gt ln (ta + 1) gu 0) (mRnU gt ln (ta + 1) gu 0))), .int (mCd gt ln ta), .ref nu])), (pd, .inl (E.2.1, 80, .inl gt)), (nu, .inl (E.2.1, 4, .inl (mRcU gt ln (mRnA gt ln (ta + 1) gu 0) (mRnU gt ln (ta + 1) gu 0))))] H := hP
        refine lv_if_eq (tgt := 241) hx hb dX8_readsOrder_217 (by decide) (fun c_23 => ?_) (fun c_23 => ?_)
        · refine lv_iconst (v := nI 0) hx hb dX8_readsOrder_241 (by decide) ?_
          exact hret _ _ _ _ _ _ (by rw [mRo, if_neg c_1, if_neg c_2, if_neg c_3, if_neg c_5, if_neg c_6, if_neg c_8, if_neg c_10, if_neg c_12, if_neg c_14, if_neg c_16, if_neg c_18, if_neg c_20, if_pos c_21, if_neg c_22, if_pos c_23]) (by rw [show mRoA gt ln ta gu = mRcA gt ln (mRnA gt ln (ta + 1) gu 0) (mRnU gt ln (ta + 1) gu 0) from by rw [mRoA, if_neg c_1, if_neg c_2, if_neg c_3, if_neg c_5, if_neg c_6, if_neg c_8, if_neg c_10, if_neg c_12, if_neg c_14, if_neg c_16, if_neg c_18, if_neg c_20, if_pos c_21, if_neg c_22, if_pos c_23], show mRoS gt ln ta gu = (mCd gt ln ta) from by rw [mRoS, if_neg c_1, if_neg c_2, if_neg c_3, if_neg c_5, if_neg c_6, if_neg c_8, if_neg c_10, if_neg c_12, if_neg c_14, if_neg c_16, if_neg c_18, if_neg c_20, if_pos c_21], show mRoU gt ln ta gu = mRcU gt ln (mRnA gt ln (ta + 1) gu 0) (mRnU gt ln (ta + 1) gu 0) from by rw [mRoU, if_neg c_1, if_neg c_2, if_neg c_3, if_neg c_5, if_neg c_6, if_neg c_8, if_neg c_10, if_neg c_12, if_neg c_14, if_neg c_16, if_neg c_18, if_neg c_20, if_pos c_21, if_neg c_22, if_pos c_23]]) (by decide) hP hS dX8_readsOrder_242
        · refine lv_aload_n hx hb dX8_readsOrder_220 rfl (lv_at hl 0 rfl) ?_
          refine lv_bipush (v := nI 61) hx hb dX8_readsOrder_221 (by decide) ?_
          refine rwV1 (rest := []) S (c_X8_takes l E xo st sp th so sv pd nu sn ln (mRcA gt ln (mRnA gt ln (ta + 1) gu 0) (mRnU gt ln (ta + 1) gu 0)) (mCd gt ln ta) gt (nI 61) hln (mRcA_le (mRnA_le (by omega)))) cd_X8_takes bw_1067 ⟨Nat.le_of_ble_eq_true rfl, Nat.le_of_ble_eq_true rfl⟩ ⟨Nat.zero_le _, Nat.zero_le _⟩ hP (hDa.to rfl) hE hA hS [0, 1] rfl rfl [xo, pd] rfl rfl (ci := 5) rfl (q0 := 0) rfl (Nat.le_of_ble_eq_true rfl) hl.1 dX8_readsOrder_223 (fun H locs hP _ hS => ?_)
          have hP : va_P E.1 vwCl [(xo, .inr (5, [.ref st, .ref sp, .ref th, .int (nI sn), .ref so, .ref sv, .ref pd, .int (nI ln), .int (nI (mTkA gt ln (mRcA gt ln (mRnA gt ln (ta + 1) gu 0) (mRnU gt ln (ta + 1) gu 0)) (nI 61))), .int (mCd gt ln ta), .ref nu])), (pd, .inl (E.2.1, 80, .inl gt)), (nu, .inl (E.2.1, 4, .inl (mRcU gt ln (mRnA gt ln (ta + 1) gu 0) (mRnU gt ln (ta + 1) gu 0))))] H := hP
          refine lv_if_eq (tgt := 241) hx hb dX8_readsOrder_226 (by decide) (fun c_24 => ?_) (fun c_24 => ?_)
          · refine lv_iconst (v := nI 0) hx hb dX8_readsOrder_241 (by decide) ?_
            exact hret _ _ _ _ _ _ (by rw [mRo, if_neg c_1, if_neg c_2, if_neg c_3, if_neg c_5, if_neg c_6, if_neg c_8, if_neg c_10, if_neg c_12, if_neg c_14, if_neg c_16, if_neg c_18, if_neg c_20, if_pos c_21, if_neg c_22, if_neg c_23, if_pos c_24]) (by rw [show mRoA gt ln ta gu = mTkA gt ln (mRcA gt ln (mRnA gt ln (ta + 1) gu 0) (mRnU gt ln (ta + 1) gu 0)) (nI 61) from by rw [mRoA, if_neg c_1, if_neg c_2, if_neg c_3, if_neg c_5, if_neg c_6, if_neg c_8, if_neg c_10, if_neg c_12, if_neg c_14, if_neg c_16, if_neg c_18, if_neg c_20, if_pos c_21, if_neg c_22, if_neg c_23, if_pos c_24], show mRoS gt ln ta gu = (mCd gt ln ta) from by rw [mRoS, if_neg c_1, if_neg c_2, if_neg c_3, if_neg c_5, if_neg c_6, if_neg c_8, if_neg c_10, if_neg c_12, if_neg c_14, if_neg c_16, if_neg c_18, if_neg c_20, if_pos c_21], show mRoU gt ln ta gu = mRcU gt ln (mRnA gt ln (ta + 1) gu 0) (mRnU gt ln (ta + 1) gu 0) from by rw [mRoU, if_neg c_1, if_neg c_2, if_neg c_3, if_neg c_5, if_neg c_6, if_neg c_8, if_neg c_10, if_neg c_12, if_neg c_14, if_neg c_16, if_neg c_18, if_neg c_20, if_pos c_21, if_neg c_22, if_neg c_23, if_pos c_24]]) (by decide) hP hS dX8_readsOrder_242
          · refine lv_aload_n hx hb dX8_readsOrder_229 rfl (lv_at hl 0 rfl) ?_
            refine lv_iconst (v := nI 2) hx hb dX8_readsOrder_230 (by decide) ?_
            refine rwV1 (rest := []) S (c_X8_readsNumber l E xo st sp th so sv pd nu sn ln (mTkA gt ln (mRcA gt ln (mRnA gt ln (ta + 1) gu 0) (mRnU gt ln (ta + 1) gu 0)) (nI 61)) (mCd gt ln ta) gt (mRcU gt ln (mRnA gt ln (ta + 1) gu 0) (mRnU gt ln (ta + 1) gu 0)) 2 hln (mTkA_le (mRcA_le (mRnA_le (by omega))) (by decide)) (by omega)) cd_X8_readsNumber bw_1063 ⟨Nat.le_of_ble_eq_true rfl, Nat.le_of_ble_eq_true rfl⟩ ⟨Nat.zero_le _, Nat.zero_le _⟩ hP (hDa.to rfl) hE hA hS [0, 1, 2] rfl rfl [xo, pd, nu] rfl rfl (ci := 5) rfl (q0 := 0) rfl (Nat.le_of_ble_eq_true rfl) hl.1 dX8_readsOrder_231 (fun H locs hP _ hS => ?_)
            have hP : va_P E.1 vwCl [(xo, .inr (5, [.ref st, .ref sp, .ref th, .int (nI sn), .ref so, .ref sv, .ref pd, .int (nI ln), .int (nI (mRnA gt ln (mTkA gt ln (mRcA gt ln (mRnA gt ln (ta + 1) gu 0) (mRnU gt ln (ta + 1) gu 0)) (nI 61)) (mRcU gt ln (mRnA gt ln (ta + 1) gu 0) (mRnU gt ln (ta + 1) gu 0)) 2)), .int (mCd gt ln ta), .ref nu])), (pd, .inl (E.2.1, 80, .inl gt)), (nu, .inl (E.2.1, 4, .inl (mRnU gt ln (mTkA gt ln (mRcA gt ln (mRnA gt ln (ta + 1) gu 0) (mRnU gt ln (ta + 1) gu 0)) (nI 61)) (mRcU gt ln (mRnA gt ln (ta + 1) gu 0) (mRnU gt ln (ta + 1) gu 0)) 2)))] H := hP
            refine lv_if_eq (tgt := 241) hx hb dX8_readsOrder_234 (by decide) (fun c_25 => ?_) (fun c_25 => ?_)
            · refine lv_iconst (v := nI 0) hx hb dX8_readsOrder_241 (by decide) ?_
              exact hret _ _ _ _ _ _ (by rw [mRo, if_neg c_1, if_neg c_2, if_neg c_3, if_neg c_5, if_neg c_6, if_neg c_8, if_neg c_10, if_neg c_12, if_neg c_14, if_neg c_16, if_neg c_18, if_neg c_20, if_pos c_21, if_neg c_22, if_neg c_23, if_neg c_24, if_pos c_25]) (by rw [show mRoA gt ln ta gu = mRnA gt ln (mTkA gt ln (mRcA gt ln (mRnA gt ln (ta + 1) gu 0) (mRnU gt ln (ta + 1) gu 0)) (nI 61)) (mRcU gt ln (mRnA gt ln (ta + 1) gu 0) (mRnU gt ln (ta + 1) gu 0)) 2 from by rw [mRoA, if_neg c_1, if_neg c_2, if_neg c_3, if_neg c_5, if_neg c_6, if_neg c_8, if_neg c_10, if_neg c_12, if_neg c_14, if_neg c_16, if_neg c_18, if_neg c_20, if_pos c_21, if_neg c_22, if_neg c_23, if_neg c_24], show mRoS gt ln ta gu = (mCd gt ln ta) from by rw [mRoS, if_neg c_1, if_neg c_2, if_neg c_3, if_neg c_5, if_neg c_6, if_neg c_8, if_neg c_10, if_neg c_12, if_neg c_14, if_neg c_16, if_neg c_18, if_neg c_20, if_pos c_21], show mRoU gt ln ta gu = mRnU gt ln (mTkA gt ln (mRcA gt ln (mRnA gt ln (ta + 1) gu 0) (mRnU gt ln (ta + 1) gu 0)) (nI 61)) (mRcU gt ln (mRnA gt ln (ta + 1) gu 0) (mRnU gt ln (ta + 1) gu 0)) 2 from by rw [mRoU, if_neg c_1, if_neg c_2, if_neg c_3, if_neg c_5, if_neg c_6, if_neg c_8, if_neg c_10, if_neg c_12, if_neg c_14, if_neg c_16, if_neg c_18, if_neg c_20, if_pos c_21, if_neg c_22, if_neg c_23, if_neg c_24]]) (by decide) hP hS dX8_readsOrder_242
            · refine lv_iconst (v := nI 1) hx hb dX8_readsOrder_237 (by decide) ?_
              refine lv_goto (tgt := 242) hx hb dX8_readsOrder_238 (by decide) ?_
              exact hret _ _ _ _ _ _ (by rw [mRo, if_neg c_1, if_neg c_2, if_neg c_3, if_neg c_5, if_neg c_6, if_neg c_8, if_neg c_10, if_neg c_12, if_neg c_14, if_neg c_16, if_neg c_18, if_neg c_20, if_pos c_21, if_neg c_22, if_neg c_23, if_neg c_24, if_neg c_25]) (by rw [show mRoA gt ln ta gu = mRnA gt ln (mTkA gt ln (mRcA gt ln (mRnA gt ln (ta + 1) gu 0) (mRnU gt ln (ta + 1) gu 0)) (nI 61)) (mRcU gt ln (mRnA gt ln (ta + 1) gu 0) (mRnU gt ln (ta + 1) gu 0)) 2 from by rw [mRoA, if_neg c_1, if_neg c_2, if_neg c_3, if_neg c_5, if_neg c_6, if_neg c_8, if_neg c_10, if_neg c_12, if_neg c_14, if_neg c_16, if_neg c_18, if_neg c_20, if_pos c_21, if_neg c_22, if_neg c_23, if_neg c_24], show mRoS gt ln ta gu = (mCd gt ln ta) from by rw [mRoS, if_neg c_1, if_neg c_2, if_neg c_3, if_neg c_5, if_neg c_6, if_neg c_8, if_neg c_10, if_neg c_12, if_neg c_14, if_neg c_16, if_neg c_18, if_neg c_20, if_pos c_21], show mRoU gt ln ta gu = mRnU gt ln (mTkA gt ln (mRcA gt ln (mRnA gt ln (ta + 1) gu 0) (mRnU gt ln (ta + 1) gu 0)) (nI 61)) (mRcU gt ln (mRnA gt ln (ta + 1) gu 0) (mRnU gt ln (ta + 1) gu 0)) 2 from by rw [mRoU, if_neg c_1, if_neg c_2, if_neg c_3, if_neg c_5, if_neg c_6, if_neg c_8, if_neg c_10, if_neg c_12, if_neg c_14, if_neg c_16, if_neg c_18, if_neg c_20, if_pos c_21, if_neg c_22, if_neg c_23, if_neg c_24]]) (by decide) hP hS dX8_readsOrder_242
    by_cases c_26 : mCd gt ln ta = nI 109
    · refine lv_tableIn (tgt := 248) hx hb dX8_readsOrder_33 (by rw [c_26]; decide) (by rw [c_26]; decide) (by rw [c_26]; rfl) (by decide) ?_
      refine lv_aload_n hx hb dX8_readsOrder_248 rfl (lv_at hl 0 rfl) ?_
      refine lv_iconst (v := nI 0) hx hb dX8_readsOrder_249 (by decide) ?_
      refine rwV1 (rest := []) S (c_X8_readsNumber l E xo st sp th so sv pd nu sn ln (ta + 1) (mCd gt ln ta) gt gu 0 hln (by omega) (by omega)) cd_X8_readsNumber bw_1063 ⟨Nat.le_of_ble_eq_true rfl, Nat.le_of_ble_eq_true rfl⟩ ⟨Nat.zero_le _, Nat.zero_le _⟩ hP (hDa.to rfl) hE hA hS [0, 1, 2] rfl rfl [xo, pd, nu] rfl rfl (ci := 5) rfl (q0 := 0) rfl (Nat.le_of_ble_eq_true rfl) hl.1 dX8_readsOrder_250 (fun H locs hP _ hS => ?_)
      have hP : va_P E.1 vwCl [(xo, .inr (5, [.ref st, .ref sp, .ref th, .int (nI sn), .ref so, .ref sv, .ref pd, .int (nI ln), .int (nI (mRnA gt ln (ta + 1) gu 0)), .int (mCd gt ln ta), .ref nu])), (pd, .inl (E.2.1, 80, .inl gt)), (nu, .inl (E.2.1, 4, .inl (mRnU gt ln (ta + 1) gu 0)))] H := hP
      refine lv_if_eq (tgt := 277) hx hb dX8_readsOrder_253 (by decide) (fun c_27 => ?_) (fun c_27 => ?_)
      · refine lv_iconst (v := nI 0) hx hb dX8_readsOrder_277 (by decide) ?_
        exact hret _ _ _ _ _ _ (by rw [mRo, if_neg c_1, if_neg c_2, if_neg c_3, if_neg c_5, if_neg c_6, if_neg c_8, if_neg c_10, if_neg c_12, if_neg c_14, if_neg c_16, if_neg c_18, if_neg c_20, if_neg c_21, if_pos c_26, if_pos c_27]) (by rw [show mRoA gt ln ta gu = mRnA gt ln (ta + 1) gu 0 from by rw [mRoA, if_neg c_1, if_neg c_2, if_neg c_3, if_neg c_5, if_neg c_6, if_neg c_8, if_neg c_10, if_neg c_12, if_neg c_14, if_neg c_16, if_neg c_18, if_neg c_20, if_neg c_21, if_pos c_26, if_pos c_27], show mRoS gt ln ta gu = (mCd gt ln ta) from by rw [mRoS, if_neg c_1, if_neg c_2, if_neg c_3, if_neg c_5, if_neg c_6, if_neg c_8, if_neg c_10, if_neg c_12, if_neg c_14, if_neg c_16, if_neg c_18, if_neg c_20, if_neg c_21, if_pos c_26], show mRoU gt ln ta gu = mRnU gt ln (ta + 1) gu 0 from by rw [mRoU, if_neg c_1, if_neg c_2, if_neg c_3, if_neg c_5, if_neg c_6, if_neg c_8, if_neg c_10, if_neg c_12, if_neg c_14, if_neg c_16, if_neg c_18, if_neg c_20, if_neg c_21, if_pos c_26, if_pos c_27]]) (by decide) hP hS dX8_readsOrder_278
      · refine lv_aload_n hx hb dX8_readsOrder_256 rfl (lv_at hl 0 rfl) ?_
        refine lv_bipush (v := nI 62) hx hb dX8_readsOrder_257 (by decide) ?_
        refine rwV1 (rest := []) S (c_X8_takes l E xo st sp th so sv pd nu sn ln (mRnA gt ln (ta + 1) gu 0) (mCd gt ln ta) gt (nI 62) hln (mRnA_le (by omega))) cd_X8_takes bw_1067 ⟨Nat.le_of_ble_eq_true rfl, Nat.le_of_ble_eq_true rfl⟩ ⟨Nat.zero_le _, Nat.zero_le _⟩ hP (hDa.to rfl) hE hA hS [0, 1] rfl rfl [xo, pd] rfl rfl (ci := 5) rfl (q0 := 0) rfl (Nat.le_of_ble_eq_true rfl) hl.1 dX8_readsOrder_259 (fun H locs hP _ hS => ?_)
        have hP : va_P E.1 vwCl [(xo, .inr (5, [.ref st, .ref sp, .ref th, .int (nI sn), .ref so, .ref sv, .ref pd, .int (nI ln), .int (nI (mTkA gt ln (mRnA gt ln (ta + 1) gu 0) (nI 62))), .int (mCd gt ln ta), .ref nu])), (pd, .inl (E.2.1, 80, .inl gt)), (nu, .inl (E.2.1, 4, .inl (mRnU gt ln (ta + 1) gu 0)))] H := hP
        refine lv_if_eq (tgt := 277) hx hb dX8_readsOrder_262 (by decide) (fun c_28 => ?_) (fun c_28 => ?_)
        · refine lv_iconst (v := nI 0) hx hb dX8_readsOrder_277 (by decide) ?_
          exact hret _ _ _ _ _ _ (by rw [mRo, if_neg c_1, if_neg c_2, if_neg c_3, if_neg c_5, if_neg c_6, if_neg c_8, if_neg c_10, if_neg c_12, if_neg c_14, if_neg c_16, if_neg c_18, if_neg c_20, if_neg c_21, if_pos c_26, if_neg c_27, if_pos c_28]) (by rw [show mRoA gt ln ta gu = mTkA gt ln (mRnA gt ln (ta + 1) gu 0) (nI 62) from by rw [mRoA, if_neg c_1, if_neg c_2, if_neg c_3, if_neg c_5, if_neg c_6, if_neg c_8, if_neg c_10, if_neg c_12, if_neg c_14, if_neg c_16, if_neg c_18, if_neg c_20, if_neg c_21, if_pos c_26, if_neg c_27, if_pos c_28], show mRoS gt ln ta gu = (mCd gt ln ta) from by rw [mRoS, if_neg c_1, if_neg c_2, if_neg c_3, if_neg c_5, if_neg c_6, if_neg c_8, if_neg c_10, if_neg c_12, if_neg c_14, if_neg c_16, if_neg c_18, if_neg c_20, if_neg c_21, if_pos c_26], show mRoU gt ln ta gu = mRnU gt ln (ta + 1) gu 0 from by rw [mRoU, if_neg c_1, if_neg c_2, if_neg c_3, if_neg c_5, if_neg c_6, if_neg c_8, if_neg c_10, if_neg c_12, if_neg c_14, if_neg c_16, if_neg c_18, if_neg c_20, if_neg c_21, if_pos c_26, if_neg c_27, if_pos c_28]]) (by decide) hP hS dX8_readsOrder_278
        · refine lv_aload_n hx hb dX8_readsOrder_265 rfl (lv_at hl 0 rfl) ?_
          refine lv_iconst (v := nI 1) hx hb dX8_readsOrder_266 (by decide) ?_
          refine rwV1 (rest := []) S (c_X8_readsNumber l E xo st sp th so sv pd nu sn ln (mTkA gt ln (mRnA gt ln (ta + 1) gu 0) (nI 62)) (mCd gt ln ta) gt (mRnU gt ln (ta + 1) gu 0) 1 hln (mTkA_le (mRnA_le (by omega)) (by decide)) (by omega)) cd_X8_readsNumber bw_1063 ⟨Nat.le_of_ble_eq_true rfl, Nat.le_of_ble_eq_true rfl⟩ ⟨Nat.zero_le _, Nat.zero_le _⟩ hP (hDa.to rfl) hE hA hS [0, 1, 2] rfl rfl [xo, pd, nu] rfl rfl (ci := 5) rfl (q0 := 0) rfl (Nat.le_of_ble_eq_true rfl) hl.1 dX8_readsOrder_267 (fun H locs hP _ hS => ?_)
          have hP : va_P E.1 vwCl [(xo, .inr (5, [.ref st, .ref sp, .ref th, .int (nI sn), .ref so, .ref sv, .ref pd, .int (nI ln), .int (nI (mRnA gt ln (mTkA gt ln (mRnA gt ln (ta + 1) gu 0) (nI 62)) (mRnU gt ln (ta + 1) gu 0) 1)), .int (mCd gt ln ta), .ref nu])), (pd, .inl (E.2.1, 80, .inl gt)), (nu, .inl (E.2.1, 4, .inl (mRnU gt ln (mTkA gt ln (mRnA gt ln (ta + 1) gu 0) (nI 62)) (mRnU gt ln (ta + 1) gu 0) 1)))] H := hP
          refine lv_if_eq (tgt := 277) hx hb dX8_readsOrder_270 (by decide) (fun c_29 => ?_) (fun c_29 => ?_)
          · refine lv_iconst (v := nI 0) hx hb dX8_readsOrder_277 (by decide) ?_
            exact hret _ _ _ _ _ _ (by rw [mRo, if_neg c_1, if_neg c_2, if_neg c_3, if_neg c_5, if_neg c_6, if_neg c_8, if_neg c_10, if_neg c_12, if_neg c_14, if_neg c_16, if_neg c_18, if_neg c_20, if_neg c_21, if_pos c_26, if_neg c_27, if_neg c_28, if_pos c_29]) (by rw [show mRoA gt ln ta gu = mRnA gt ln (mTkA gt ln (mRnA gt ln (ta + 1) gu 0) (nI 62)) (mRnU gt ln (ta + 1) gu 0) 1 from by rw [mRoA, if_neg c_1, if_neg c_2, if_neg c_3, if_neg c_5, if_neg c_6, if_neg c_8, if_neg c_10, if_neg c_12, if_neg c_14, if_neg c_16, if_neg c_18, if_neg c_20, if_neg c_21, if_pos c_26, if_neg c_27, if_neg c_28], show mRoS gt ln ta gu = (mCd gt ln ta) from by rw [mRoS, if_neg c_1, if_neg c_2, if_neg c_3, if_neg c_5, if_neg c_6, if_neg c_8, if_neg c_10, if_neg c_12, if_neg c_14, if_neg c_16, if_neg c_18, if_neg c_20, if_neg c_21, if_pos c_26], show mRoU gt ln ta gu = mRnU gt ln (mTkA gt ln (mRnA gt ln (ta + 1) gu 0) (nI 62)) (mRnU gt ln (ta + 1) gu 0) 1 from by rw [mRoU, if_neg c_1, if_neg c_2, if_neg c_3, if_neg c_5, if_neg c_6, if_neg c_8, if_neg c_10, if_neg c_12, if_neg c_14, if_neg c_16, if_neg c_18, if_neg c_20, if_neg c_21, if_pos c_26, if_neg c_27, if_neg c_28]]) (by decide) hP hS dX8_readsOrder_278
          · refine lv_iconst (v := nI 1) hx hb dX8_readsOrder_273 (by decide) ?_
            refine lv_goto (tgt := 278) hx hb dX8_readsOrder_274 (by decide) ?_
            exact hret _ _ _ _ _ _ (by rw [mRo, if_neg c_1, if_neg c_2, if_neg c_3, if_neg c_5, if_neg c_6, if_neg c_8, if_neg c_10, if_neg c_12, if_neg c_14, if_neg c_16, if_neg c_18, if_neg c_20, if_neg c_21, if_pos c_26, if_neg c_27, if_neg c_28, if_neg c_29]) (by rw [show mRoA gt ln ta gu = mRnA gt ln (mTkA gt ln (mRnA gt ln (ta + 1) gu 0) (nI 62)) (mRnU gt ln (ta + 1) gu 0) 1 from by rw [mRoA, if_neg c_1, if_neg c_2, if_neg c_3, if_neg c_5, if_neg c_6, if_neg c_8, if_neg c_10, if_neg c_12, if_neg c_14, if_neg c_16, if_neg c_18, if_neg c_20, if_neg c_21, if_pos c_26, if_neg c_27, if_neg c_28], show mRoS gt ln ta gu = (mCd gt ln ta) from by rw [mRoS, if_neg c_1, if_neg c_2, if_neg c_3, if_neg c_5, if_neg c_6, if_neg c_8, if_neg c_10, if_neg c_12, if_neg c_14, if_neg c_16, if_neg c_18, if_neg c_20, if_neg c_21, if_pos c_26], show mRoU gt ln ta gu = mRnU gt ln (mTkA gt ln (mRnA gt ln (ta + 1) gu 0) (nI 62)) (mRnU gt ln (ta + 1) gu 0) 1 from by rw [mRoU, if_neg c_1, if_neg c_2, if_neg c_3, if_neg c_5, if_neg c_6, if_neg c_8, if_neg c_10, if_neg c_12, if_neg c_14, if_neg c_16, if_neg c_18, if_neg c_20, if_neg c_21, if_pos c_26, if_neg c_27, if_neg c_28]]) (by decide) hP hS dX8_readsOrder_278
    by_cases c_30 : mCd gt ln ta = nI 110
    · refine lv_tableIn (tgt := 287) hx hb dX8_readsOrder_33 (by rw [c_30]; decide) (by rw [c_30]; decide) (by rw [c_30]; rfl) (by decide) ?_
      refine lv_aload_n hx hb dX8_readsOrder_287 rfl (lv_at hl 0 rfl) ?_
      refine lv_dup hx hb dX8_readsOrder_288 rfl ?_
      refine va_get (D := E.1) (ci := 5) (v := .int (nI (ta + 1))) (C := RX8) (T := TX8) (N := 11) hx hb hts inb_X8 hown hK hP 0 rfl rfl 8 (by decide) (hts _ bw_718) (fun _ h9 => h9) rfl dX8_readsOrder_289 ?_
      refine lv_aload_n hx hb dX8_readsOrder_292 rfl (lv_at hl 0 rfl) ?_
      refine va_get (D := E.1) (ci := 5) (v := .int (mCd gt ln ta)) (C := RX8) (T := TX8) (N := 11) hx hb hts inb_X8 hown hK hP 0 rfl rfl 9 (by decide) (hts _ bw_719) (fun _ h9 => h9) rfl dX8_readsOrder_293 ?_
      refine lv_if_ne (tgt := 303) hx hb dX8_readsOrder_296 (by decide) (fun _ => ?_) (fun c_31 => absurd c_31 c_1)
      refine lv_iconst (v := nI 1) hx hb dX8_readsOrder_303 (by decide) ?_
      refine rn_sub (a := ta + 1) (b := 1) hx hb dX8_readsOrder_304 (by omega) ?_
      refine va_put (D := E.1) (ci := 5) (v := .int (nI ((ta + 1) - 1))) (ty := .int) (C := RX8) (T := TX8) (N := 11) hx hb hts inb_X8 tyX8 tyX8_ok nmX8 hown hK hP (hDa.to rfl) hS 0 rfl rfl 8 (by decide) (hts _ bw_718) (fun _ h9 => h9) rfl (by decide +kernel) rfl rfl (Nat.le_of_ble_eq_true rfl) dX8_readsOrder_305 (fun H locs hP _ hS => ?_)
      have hP : va_P E.1 vwCl [(xo, .inr (5, [.ref st, .ref sp, .ref th, .int (nI sn), .ref so, .ref sv, .ref pd, .int (nI ln), .int (nI ((ta + 1) - 1)), .int (mCd gt ln ta), .ref nu])), (pd, .inl (E.2.1, 80, .inl gt)), (nu, .inl (E.2.1, 4, .inl gu))] H := hP
      refine lv_iconst (v := nI 0) hx hb dX8_readsOrder_308 (by decide) ?_
      exact hret _ _ _ _ _ _ (by rw [mRo, if_neg c_1, if_neg c_2, if_neg c_3, if_neg c_5, if_neg c_6, if_neg c_8, if_neg c_10, if_neg c_12, if_neg c_14, if_neg c_16, if_neg c_18, if_neg c_20, if_neg c_21, if_neg c_26, if_pos c_30]) (by rw [show mRoA gt ln ta gu = (ta + 1) - 1 from by rw [mRoA, if_neg c_1, if_neg c_2, if_neg c_3, if_neg c_5, if_neg c_6, if_neg c_8, if_neg c_10, if_neg c_12, if_neg c_14, if_neg c_16, if_neg c_18, if_neg c_20, if_neg c_21, if_neg c_26, if_pos c_30], show mRoS gt ln ta gu = mCd gt ln ta from by rw [mRoS, if_neg c_1, if_neg c_2, if_neg c_3, if_neg c_5, if_neg c_6, if_neg c_8, if_neg c_10, if_neg c_12, if_neg c_14, if_neg c_16, if_neg c_18, if_neg c_20, if_neg c_21, if_neg c_26, if_pos c_30], show mRoU gt ln ta gu = gu from by rw [mRoU, if_neg c_1, if_neg c_2, if_neg c_3, if_neg c_5, if_neg c_6, if_neg c_8, if_neg c_10, if_neg c_12, if_neg c_14, if_neg c_16, if_neg c_18, if_neg c_20, if_neg c_21, if_neg c_26, if_pos c_30]]) (by decide) hP hS dX8_readsOrder_309
    by_cases c_32 : mCd gt ln ta = nI 111
    · refine lv_tableIn (tgt := 287) hx hb dX8_readsOrder_33 (by rw [c_32]; decide) (by rw [c_32]; decide) (by rw [c_32]; rfl) (by decide) ?_
      refine lv_aload_n hx hb dX8_readsOrder_287 rfl (lv_at hl 0 rfl) ?_
      refine lv_dup hx hb dX8_readsOrder_288 rfl ?_
      refine va_get (D := E.1) (ci := 5) (v := .int (nI (ta + 1))) (C := RX8) (T := TX8) (N := 11) hx hb hts inb_X8 hown hK hP 0 rfl rfl 8 (by decide) (hts _ bw_718) (fun _ h9 => h9) rfl dX8_readsOrder_289 ?_
      refine lv_aload_n hx hb dX8_readsOrder_292 rfl (lv_at hl 0 rfl) ?_
      refine va_get (D := E.1) (ci := 5) (v := .int (mCd gt ln ta)) (C := RX8) (T := TX8) (N := 11) hx hb hts inb_X8 hown hK hP 0 rfl rfl 9 (by decide) (hts _ bw_719) (fun _ h9 => h9) rfl dX8_readsOrder_293 ?_
      refine lv_if_ne (tgt := 303) hx hb dX8_readsOrder_296 (by decide) (fun _ => ?_) (fun c_33 => absurd c_33 c_1)
      refine lv_iconst (v := nI 1) hx hb dX8_readsOrder_303 (by decide) ?_
      refine rn_sub (a := ta + 1) (b := 1) hx hb dX8_readsOrder_304 (by omega) ?_
      refine va_put (D := E.1) (ci := 5) (v := .int (nI ((ta + 1) - 1))) (ty := .int) (C := RX8) (T := TX8) (N := 11) hx hb hts inb_X8 tyX8 tyX8_ok nmX8 hown hK hP (hDa.to rfl) hS 0 rfl rfl 8 (by decide) (hts _ bw_718) (fun _ h9 => h9) rfl (by decide +kernel) rfl rfl (Nat.le_of_ble_eq_true rfl) dX8_readsOrder_305 (fun H locs hP _ hS => ?_)
      have hP : va_P E.1 vwCl [(xo, .inr (5, [.ref st, .ref sp, .ref th, .int (nI sn), .ref so, .ref sv, .ref pd, .int (nI ln), .int (nI ((ta + 1) - 1)), .int (mCd gt ln ta), .ref nu])), (pd, .inl (E.2.1, 80, .inl gt)), (nu, .inl (E.2.1, 4, .inl gu))] H := hP
      refine lv_iconst (v := nI 0) hx hb dX8_readsOrder_308 (by decide) ?_
      exact hret _ _ _ _ _ _ (by rw [mRo, if_neg c_1, if_neg c_2, if_neg c_3, if_neg c_5, if_neg c_6, if_neg c_8, if_neg c_10, if_neg c_12, if_neg c_14, if_neg c_16, if_neg c_18, if_neg c_20, if_neg c_21, if_neg c_26, if_neg c_30, if_pos c_32]) (by rw [show mRoA gt ln ta gu = (ta + 1) - 1 from by rw [mRoA, if_neg c_1, if_neg c_2, if_neg c_3, if_neg c_5, if_neg c_6, if_neg c_8, if_neg c_10, if_neg c_12, if_neg c_14, if_neg c_16, if_neg c_18, if_neg c_20, if_neg c_21, if_neg c_26, if_neg c_30, if_pos c_32], show mRoS gt ln ta gu = mCd gt ln ta from by rw [mRoS, if_neg c_1, if_neg c_2, if_neg c_3, if_neg c_5, if_neg c_6, if_neg c_8, if_neg c_10, if_neg c_12, if_neg c_14, if_neg c_16, if_neg c_18, if_neg c_20, if_neg c_21, if_neg c_26, if_neg c_30, if_pos c_32], show mRoU gt ln ta gu = gu from by rw [mRoU, if_neg c_1, if_neg c_2, if_neg c_3, if_neg c_5, if_neg c_6, if_neg c_8, if_neg c_10, if_neg c_12, if_neg c_14, if_neg c_16, if_neg c_18, if_neg c_20, if_neg c_21, if_neg c_26, if_neg c_30, if_pos c_32]]) (by decide) hP hS dX8_readsOrder_309
    by_cases c_34 : mCd gt ln ta = nI 112
    · refine lv_tableIn (tgt := 285) hx hb dX8_readsOrder_33 (by rw [c_34]; decide) (by rw [c_34]; decide) (by rw [c_34]; rfl) (by decide) ?_
      refine lv_iconst (v := nI 1) hx hb dX8_readsOrder_285 (by decide) ?_
      exact hret _ _ _ _ _ _ (by rw [mRo, if_neg c_1, if_neg c_2, if_neg c_3, if_neg c_5, if_neg c_6, if_neg c_8, if_neg c_10, if_neg c_12, if_neg c_14, if_neg c_16, if_neg c_18, if_neg c_20, if_neg c_21, if_neg c_26, if_neg c_30, if_neg c_32, if_pos c_34]) (by rw [show mRoA gt ln ta gu = ta + 1 from by rw [mRoA, if_neg c_1, if_neg c_2, if_neg c_3, if_neg c_5, if_neg c_6, if_neg c_8, if_neg c_10, if_neg c_12, if_neg c_14, if_neg c_16, if_neg c_18, if_neg c_20, if_neg c_21, if_neg c_26, if_neg c_30, if_neg c_32, if_pos c_34], show mRoS gt ln ta gu = mCd gt ln ta from by rw [mRoS, if_neg c_1, if_neg c_2, if_neg c_3, if_neg c_5, if_neg c_6, if_neg c_8, if_neg c_10, if_neg c_12, if_neg c_14, if_neg c_16, if_neg c_18, if_neg c_20, if_neg c_21, if_neg c_26, if_neg c_30, if_neg c_32, if_pos c_34], show mRoU gt ln ta gu = gu from by rw [mRoU, if_neg c_1, if_neg c_2, if_neg c_3, if_neg c_5, if_neg c_6, if_neg c_8, if_neg c_10, if_neg c_12, if_neg c_14, if_neg c_16, if_neg c_18, if_neg c_20, if_neg c_21, if_neg c_26, if_neg c_30, if_neg c_32, if_pos c_34]]) (by decide) hP hS dX8_readsOrder_286
    by_cases c_35 : mCd gt ln ta = nI 113
    · refine lv_tableIn (tgt := 287) hx hb dX8_readsOrder_33 (by rw [c_35]; decide) (by rw [c_35]; decide) (by rw [c_35]; rfl) (by decide) ?_
      refine lv_aload_n hx hb dX8_readsOrder_287 rfl (lv_at hl 0 rfl) ?_
      refine lv_dup hx hb dX8_readsOrder_288 rfl ?_
      refine va_get (D := E.1) (ci := 5) (v := .int (nI (ta + 1))) (C := RX8) (T := TX8) (N := 11) hx hb hts inb_X8 hown hK hP 0 rfl rfl 8 (by decide) (hts _ bw_718) (fun _ h9 => h9) rfl dX8_readsOrder_289 ?_
      refine lv_aload_n hx hb dX8_readsOrder_292 rfl (lv_at hl 0 rfl) ?_
      refine va_get (D := E.1) (ci := 5) (v := .int (mCd gt ln ta)) (C := RX8) (T := TX8) (N := 11) hx hb hts inb_X8 hown hK hP 0 rfl rfl 9 (by decide) (hts _ bw_719) (fun _ h9 => h9) rfl dX8_readsOrder_293 ?_
      refine lv_if_ne (tgt := 303) hx hb dX8_readsOrder_296 (by decide) (fun _ => ?_) (fun c_36 => absurd c_36 c_1)
      refine lv_iconst (v := nI 1) hx hb dX8_readsOrder_303 (by decide) ?_
      refine rn_sub (a := ta + 1) (b := 1) hx hb dX8_readsOrder_304 (by omega) ?_
      refine va_put (D := E.1) (ci := 5) (v := .int (nI ((ta + 1) - 1))) (ty := .int) (C := RX8) (T := TX8) (N := 11) hx hb hts inb_X8 tyX8 tyX8_ok nmX8 hown hK hP (hDa.to rfl) hS 0 rfl rfl 8 (by decide) (hts _ bw_718) (fun _ h9 => h9) rfl (by decide +kernel) rfl rfl (Nat.le_of_ble_eq_true rfl) dX8_readsOrder_305 (fun H locs hP _ hS => ?_)
      have hP : va_P E.1 vwCl [(xo, .inr (5, [.ref st, .ref sp, .ref th, .int (nI sn), .ref so, .ref sv, .ref pd, .int (nI ln), .int (nI ((ta + 1) - 1)), .int (mCd gt ln ta), .ref nu])), (pd, .inl (E.2.1, 80, .inl gt)), (nu, .inl (E.2.1, 4, .inl gu))] H := hP
      refine lv_iconst (v := nI 0) hx hb dX8_readsOrder_308 (by decide) ?_
      exact hret _ _ _ _ _ _ (by rw [mRo, if_neg c_1, if_neg c_2, if_neg c_3, if_neg c_5, if_neg c_6, if_neg c_8, if_neg c_10, if_neg c_12, if_neg c_14, if_neg c_16, if_neg c_18, if_neg c_20, if_neg c_21, if_neg c_26, if_neg c_30, if_neg c_32, if_neg c_34, if_pos c_35]) (by rw [show mRoA gt ln ta gu = (ta + 1) - 1 from by rw [mRoA, if_neg c_1, if_neg c_2, if_neg c_3, if_neg c_5, if_neg c_6, if_neg c_8, if_neg c_10, if_neg c_12, if_neg c_14, if_neg c_16, if_neg c_18, if_neg c_20, if_neg c_21, if_neg c_26, if_neg c_30, if_neg c_32, if_neg c_34, if_pos c_35], show mRoS gt ln ta gu = mCd gt ln ta from by rw [mRoS, if_neg c_1, if_neg c_2, if_neg c_3, if_neg c_5, if_neg c_6, if_neg c_8, if_neg c_10, if_neg c_12, if_neg c_14, if_neg c_16, if_neg c_18, if_neg c_20, if_neg c_21, if_neg c_26, if_neg c_30, if_neg c_32, if_neg c_34, if_pos c_35], show mRoU gt ln ta gu = gu from by rw [mRoU, if_neg c_1, if_neg c_2, if_neg c_3, if_neg c_5, if_neg c_6, if_neg c_8, if_neg c_10, if_neg c_12, if_neg c_14, if_neg c_16, if_neg c_18, if_neg c_20, if_neg c_21, if_neg c_26, if_neg c_30, if_neg c_32, if_neg c_34, if_pos c_35]]) (by decide) hP hS dX8_readsOrder_309
    by_cases c_37 : mCd gt ln ta = nI 114
    · refine lv_tableIn (tgt := 287) hx hb dX8_readsOrder_33 (by rw [c_37]; decide) (by rw [c_37]; decide) (by rw [c_37]; rfl) (by decide) ?_
      refine lv_aload_n hx hb dX8_readsOrder_287 rfl (lv_at hl 0 rfl) ?_
      refine lv_dup hx hb dX8_readsOrder_288 rfl ?_
      refine va_get (D := E.1) (ci := 5) (v := .int (nI (ta + 1))) (C := RX8) (T := TX8) (N := 11) hx hb hts inb_X8 hown hK hP 0 rfl rfl 8 (by decide) (hts _ bw_718) (fun _ h9 => h9) rfl dX8_readsOrder_289 ?_
      refine lv_aload_n hx hb dX8_readsOrder_292 rfl (lv_at hl 0 rfl) ?_
      refine va_get (D := E.1) (ci := 5) (v := .int (mCd gt ln ta)) (C := RX8) (T := TX8) (N := 11) hx hb hts inb_X8 hown hK hP 0 rfl rfl 9 (by decide) (hts _ bw_719) (fun _ h9 => h9) rfl dX8_readsOrder_293 ?_
      refine lv_if_ne (tgt := 303) hx hb dX8_readsOrder_296 (by decide) (fun _ => ?_) (fun c_38 => absurd c_38 c_1)
      refine lv_iconst (v := nI 1) hx hb dX8_readsOrder_303 (by decide) ?_
      refine rn_sub (a := ta + 1) (b := 1) hx hb dX8_readsOrder_304 (by omega) ?_
      refine va_put (D := E.1) (ci := 5) (v := .int (nI ((ta + 1) - 1))) (ty := .int) (C := RX8) (T := TX8) (N := 11) hx hb hts inb_X8 tyX8 tyX8_ok nmX8 hown hK hP (hDa.to rfl) hS 0 rfl rfl 8 (by decide) (hts _ bw_718) (fun _ h9 => h9) rfl (by decide +kernel) rfl rfl (Nat.le_of_ble_eq_true rfl) dX8_readsOrder_305 (fun H locs hP _ hS => ?_)
      have hP : va_P E.1 vwCl [(xo, .inr (5, [.ref st, .ref sp, .ref th, .int (nI sn), .ref so, .ref sv, .ref pd, .int (nI ln), .int (nI ((ta + 1) - 1)), .int (mCd gt ln ta), .ref nu])), (pd, .inl (E.2.1, 80, .inl gt)), (nu, .inl (E.2.1, 4, .inl gu))] H := hP
      refine lv_iconst (v := nI 0) hx hb dX8_readsOrder_308 (by decide) ?_
      exact hret _ _ _ _ _ _ (by rw [mRo, if_neg c_1, if_neg c_2, if_neg c_3, if_neg c_5, if_neg c_6, if_neg c_8, if_neg c_10, if_neg c_12, if_neg c_14, if_neg c_16, if_neg c_18, if_neg c_20, if_neg c_21, if_neg c_26, if_neg c_30, if_neg c_32, if_neg c_34, if_neg c_35, if_pos c_37]) (by rw [show mRoA gt ln ta gu = (ta + 1) - 1 from by rw [mRoA, if_neg c_1, if_neg c_2, if_neg c_3, if_neg c_5, if_neg c_6, if_neg c_8, if_neg c_10, if_neg c_12, if_neg c_14, if_neg c_16, if_neg c_18, if_neg c_20, if_neg c_21, if_neg c_26, if_neg c_30, if_neg c_32, if_neg c_34, if_neg c_35, if_pos c_37], show mRoS gt ln ta gu = mCd gt ln ta from by rw [mRoS, if_neg c_1, if_neg c_2, if_neg c_3, if_neg c_5, if_neg c_6, if_neg c_8, if_neg c_10, if_neg c_12, if_neg c_14, if_neg c_16, if_neg c_18, if_neg c_20, if_neg c_21, if_neg c_26, if_neg c_30, if_neg c_32, if_neg c_34, if_neg c_35, if_pos c_37], show mRoU gt ln ta gu = gu from by rw [mRoU, if_neg c_1, if_neg c_2, if_neg c_3, if_neg c_5, if_neg c_6, if_neg c_8, if_neg c_10, if_neg c_12, if_neg c_14, if_neg c_16, if_neg c_18, if_neg c_20, if_neg c_21, if_neg c_26, if_neg c_30, if_neg c_32, if_neg c_34, if_neg c_35, if_pos c_37]]) (by decide) hP hS dX8_readsOrder_309
    by_cases c_39 : mCd gt ln ta = nI 115
    · refine lv_tableIn (tgt := 140) hx hb dX8_readsOrder_33 (by rw [c_39]; decide) (by rw [c_39]; decide) (by rw [c_39]; rfl) (by decide) ?_
      refine lv_aload_n hx hb dX8_readsOrder_140 rfl (lv_at hl 0 rfl) ?_
      refine lv_iconst (v := nI 0) hx hb dX8_readsOrder_141 (by decide) ?_
      refine rwV1 (rest := []) S (c_X8_readsNumber l E xo st sp th so sv pd nu sn ln (ta + 1) (mCd gt ln ta) gt gu 0 hln (by omega) (by omega)) cd_X8_readsNumber bw_1063 ⟨Nat.le_of_ble_eq_true rfl, Nat.le_of_ble_eq_true rfl⟩ ⟨Nat.zero_le _, Nat.zero_le _⟩ hP (hDa.to rfl) hE hA hS [0, 1, 2] rfl rfl [xo, pd, nu] rfl rfl (ci := 5) rfl (q0 := 0) rfl (Nat.le_of_ble_eq_true rfl) hl.1 dX8_readsOrder_142 (fun H locs hP _ hS => ?_)
      have hP : va_P E.1 vwCl [(xo, .inr (5, [.ref st, .ref sp, .ref th, .int (nI sn), .ref so, .ref sv, .ref pd, .int (nI ln), .int (nI (mRnA gt ln (ta + 1) gu 0)), .int (mCd gt ln ta), .ref nu])), (pd, .inl (E.2.1, 80, .inl gt)), (nu, .inl (E.2.1, 4, .inl (mRnU gt ln (ta + 1) gu 0)))] H := hP
      refine lv_if_eq (tgt := 203) hx hb dX8_readsOrder_145 (by decide) (fun c_40 => ?_) (fun c_40 => ?_)
      · refine lv_iconst (v := nI 0) hx hb dX8_readsOrder_203 (by decide) ?_
        exact hret _ _ _ _ _ _ (by rw [mRo, if_neg c_1, if_neg c_2, if_neg c_3, if_neg c_5, if_neg c_6, if_neg c_8, if_neg c_10, if_neg c_12, if_neg c_14, if_neg c_16, if_neg c_18, if_neg c_20, if_neg c_21, if_neg c_26, if_neg c_30, if_neg c_32, if_neg c_34, if_neg c_35, if_neg c_37, if_pos c_39, if_pos c_40]) (by rw [show mRoA gt ln ta gu = mRnA gt ln (ta + 1) gu 0 from by rw [mRoA, if_neg c_1, if_neg c_2, if_neg c_3, if_neg c_5, if_neg c_6, if_neg c_8, if_neg c_10, if_neg c_12, if_neg c_14, if_neg c_16, if_neg c_18, if_neg c_20, if_neg c_21, if_neg c_26, if_neg c_30, if_neg c_32, if_neg c_34, if_neg c_35, if_neg c_37, if_pos c_39, if_pos c_40], show mRoS gt ln ta gu = (mCd gt ln ta) from by rw [mRoS, if_neg c_1, if_neg c_2, if_neg c_3, if_neg c_5, if_neg c_6, if_neg c_8, if_neg c_10, if_neg c_12, if_neg c_14, if_neg c_16, if_neg c_18, if_neg c_20, if_neg c_21, if_neg c_26, if_neg c_30, if_neg c_32, if_neg c_34, if_neg c_35, if_neg c_37, if_pos c_39], show mRoU gt ln ta gu = mRnU gt ln (ta + 1) gu 0 from by rw [mRoU, if_neg c_1, if_neg c_2, if_neg c_3, if_neg c_5, if_neg c_6, if_neg c_8, if_neg c_10, if_neg c_12, if_neg c_14, if_neg c_16, if_neg c_18, if_neg c_20, if_neg c_21, if_neg c_26, if_neg c_30, if_neg c_32, if_neg c_34, if_neg c_35, if_neg c_37, if_pos c_39, if_pos c_40]]) (by decide) hP hS dX8_readsOrder_204
      · refine lv_aload_n hx hb dX8_readsOrder_148 rfl (lv_at hl 0 rfl) ?_
        refine lv_bipush (v := nI 58) hx hb dX8_readsOrder_149 (by decide) ?_
        refine rwV1 (rest := []) S (c_X8_takes l E xo st sp th so sv pd nu sn ln (mRnA gt ln (ta + 1) gu 0) (mCd gt ln ta) gt (nI 58) hln (mRnA_le (by omega))) cd_X8_takes bw_1067 ⟨Nat.le_of_ble_eq_true rfl, Nat.le_of_ble_eq_true rfl⟩ ⟨Nat.zero_le _, Nat.zero_le _⟩ hP (hDa.to rfl) hE hA hS [0, 1] rfl rfl [xo, pd] rfl rfl (ci := 5) rfl (q0 := 0) rfl (Nat.le_of_ble_eq_true rfl) hl.1 dX8_readsOrder_151 (fun H locs hP _ hS => ?_)
        have hP : va_P E.1 vwCl [(xo, .inr (5, [.ref st, .ref sp, .ref th, .int (nI sn), .ref so, .ref sv, .ref pd, .int (nI ln), .int (nI (mTkA gt ln (mRnA gt ln (ta + 1) gu 0) (nI 58))), .int (mCd gt ln ta), .ref nu])), (pd, .inl (E.2.1, 80, .inl gt)), (nu, .inl (E.2.1, 4, .inl (mRnU gt ln (ta + 1) gu 0)))] H := hP
        refine lv_if_eq (tgt := 203) hx hb dX8_readsOrder_154 (by decide) (fun c_41 => ?_) (fun c_41 => ?_)
        · refine lv_iconst (v := nI 0) hx hb dX8_readsOrder_203 (by decide) ?_
          exact hret _ _ _ _ _ _ (by rw [mRo, if_neg c_1, if_neg c_2, if_neg c_3, if_neg c_5, if_neg c_6, if_neg c_8, if_neg c_10, if_neg c_12, if_neg c_14, if_neg c_16, if_neg c_18, if_neg c_20, if_neg c_21, if_neg c_26, if_neg c_30, if_neg c_32, if_neg c_34, if_neg c_35, if_neg c_37, if_pos c_39, if_neg c_40, if_pos c_41]) (by rw [show mRoA gt ln ta gu = mTkA gt ln (mRnA gt ln (ta + 1) gu 0) (nI 58) from by rw [mRoA, if_neg c_1, if_neg c_2, if_neg c_3, if_neg c_5, if_neg c_6, if_neg c_8, if_neg c_10, if_neg c_12, if_neg c_14, if_neg c_16, if_neg c_18, if_neg c_20, if_neg c_21, if_neg c_26, if_neg c_30, if_neg c_32, if_neg c_34, if_neg c_35, if_neg c_37, if_pos c_39, if_neg c_40, if_pos c_41], show mRoS gt ln ta gu = (mCd gt ln ta) from by rw [mRoS, if_neg c_1, if_neg c_2, if_neg c_3, if_neg c_5, if_neg c_6, if_neg c_8, if_neg c_10, if_neg c_12, if_neg c_14, if_neg c_16, if_neg c_18, if_neg c_20, if_neg c_21, if_neg c_26, if_neg c_30, if_neg c_32, if_neg c_34, if_neg c_35, if_neg c_37, if_pos c_39], show mRoU gt ln ta gu = mRnU gt ln (ta + 1) gu 0 from by rw [mRoU, if_neg c_1, if_neg c_2, if_neg c_3, if_neg c_5, if_neg c_6, if_neg c_8, if_neg c_10, if_neg c_12, if_neg c_14, if_neg c_16, if_neg c_18, if_neg c_20, if_neg c_21, if_neg c_26, if_neg c_30, if_neg c_32, if_neg c_34, if_neg c_35, if_neg c_37, if_pos c_39, if_neg c_40, if_pos c_41]]) (by decide) hP hS dX8_readsOrder_204
        · refine lv_aload_n hx hb dX8_readsOrder_157 rfl (lv_at hl 0 rfl) ?_
          refine lv_iconst (v := nI 1) hx hb dX8_readsOrder_158 (by decide) ?_
          refine rwV1 (rest := []) S (c_X8_readsNumber l E xo st sp th so sv pd nu sn ln (mTkA gt ln (mRnA gt ln (ta + 1) gu 0) (nI 58)) (mCd gt ln ta) gt (mRnU gt ln (ta + 1) gu 0) 1 hln (mTkA_le (mRnA_le (by omega)) (by decide)) (by omega)) cd_X8_readsNumber bw_1063 ⟨Nat.le_of_ble_eq_true rfl, Nat.le_of_ble_eq_true rfl⟩ ⟨Nat.zero_le _, Nat.zero_le _⟩ hP (hDa.to rfl) hE hA hS [0, 1, 2] rfl rfl [xo, pd, nu] rfl rfl (ci := 5) rfl (q0 := 0) rfl (Nat.le_of_ble_eq_true rfl) hl.1 dX8_readsOrder_159 (fun H locs hP _ hS => ?_)
          have hP : va_P E.1 vwCl [(xo, .inr (5, [.ref st, .ref sp, .ref th, .int (nI sn), .ref so, .ref sv, .ref pd, .int (nI ln), .int (nI (mRnA gt ln (mTkA gt ln (mRnA gt ln (ta + 1) gu 0) (nI 58)) (mRnU gt ln (ta + 1) gu 0) 1)), .int (mCd gt ln ta), .ref nu])), (pd, .inl (E.2.1, 80, .inl gt)), (nu, .inl (E.2.1, 4, .inl (mRnU gt ln (mTkA gt ln (mRnA gt ln (ta + 1) gu 0) (nI 58)) (mRnU gt ln (ta + 1) gu 0) 1)))] H := hP
          refine lv_if_eq (tgt := 203) hx hb dX8_readsOrder_162 (by decide) (fun c_42 => ?_) (fun c_42 => ?_)
          · refine lv_iconst (v := nI 0) hx hb dX8_readsOrder_203 (by decide) ?_
            exact hret _ _ _ _ _ _ (by rw [mRo, if_neg c_1, if_neg c_2, if_neg c_3, if_neg c_5, if_neg c_6, if_neg c_8, if_neg c_10, if_neg c_12, if_neg c_14, if_neg c_16, if_neg c_18, if_neg c_20, if_neg c_21, if_neg c_26, if_neg c_30, if_neg c_32, if_neg c_34, if_neg c_35, if_neg c_37, if_pos c_39, if_neg c_40, if_neg c_41, if_pos c_42]) (by rw [show mRoA gt ln ta gu = mRnA gt ln (mTkA gt ln (mRnA gt ln (ta + 1) gu 0) (nI 58)) (mRnU gt ln (ta + 1) gu 0) 1 from by rw [mRoA, if_neg c_1, if_neg c_2, if_neg c_3, if_neg c_5, if_neg c_6, if_neg c_8, if_neg c_10, if_neg c_12, if_neg c_14, if_neg c_16, if_neg c_18, if_neg c_20, if_neg c_21, if_neg c_26, if_neg c_30, if_neg c_32, if_neg c_34, if_neg c_35, if_neg c_37, if_pos c_39, if_neg c_40, if_neg c_41, if_pos c_42], show mRoS gt ln ta gu = (mCd gt ln ta) from by rw [mRoS, if_neg c_1, if_neg c_2, if_neg c_3, if_neg c_5, if_neg c_6, if_neg c_8, if_neg c_10, if_neg c_12, if_neg c_14, if_neg c_16, if_neg c_18, if_neg c_20, if_neg c_21, if_neg c_26, if_neg c_30, if_neg c_32, if_neg c_34, if_neg c_35, if_neg c_37, if_pos c_39], show mRoU gt ln ta gu = mRnU gt ln (mTkA gt ln (mRnA gt ln (ta + 1) gu 0) (nI 58)) (mRnU gt ln (ta + 1) gu 0) 1 from by rw [mRoU, if_neg c_1, if_neg c_2, if_neg c_3, if_neg c_5, if_neg c_6, if_neg c_8, if_neg c_10, if_neg c_12, if_neg c_14, if_neg c_16, if_neg c_18, if_neg c_20, if_neg c_21, if_neg c_26, if_neg c_30, if_neg c_32, if_neg c_34, if_neg c_35, if_neg c_37, if_pos c_39, if_neg c_40, if_neg c_41, if_pos c_42]]) (by decide) hP hS dX8_readsOrder_204
          · refine lv_aload_n hx hb dX8_readsOrder_165 rfl (lv_at hl 0 rfl) ?_
            refine lv_bipush (v := nI 44) hx hb dX8_readsOrder_166 (by decide) ?_
            refine rwV1 (rest := []) S (c_X8_takes l E xo st sp th so sv pd nu sn ln (mRnA gt ln (mTkA gt ln (mRnA gt ln (ta + 1) gu 0) (nI 58)) (mRnU gt ln (ta + 1) gu 0) 1) (mCd gt ln ta) gt (nI 44) hln (mRnA_le (mTkA_le (mRnA_le (by omega)) (by decide)))) cd_X8_takes bw_1067 ⟨Nat.le_of_ble_eq_true rfl, Nat.le_of_ble_eq_true rfl⟩ ⟨Nat.zero_le _, Nat.zero_le _⟩ hP (hDa.to rfl) hE hA hS [0, 1] rfl rfl [xo, pd] rfl rfl (ci := 5) rfl (q0 := 0) rfl (Nat.le_of_ble_eq_true rfl) hl.1 dX8_readsOrder_168 (fun H locs hP _ hS => ?_)
            have hP : va_P E.1 vwCl [(xo, .inr (5, [.ref st, .ref sp, .ref th, .int (nI sn), .ref so, .ref sv, .ref pd, .int (nI ln), .int (nI (mTkA gt ln (mRnA gt ln (mTkA gt ln (mRnA gt ln (ta + 1) gu 0) (nI 58)) (mRnU gt ln (ta + 1) gu 0) 1) (nI 44))), .int (mCd gt ln ta), .ref nu])), (pd, .inl (E.2.1, 80, .inl gt)), (nu, .inl (E.2.1, 4, .inl (mRnU gt ln (mTkA gt ln (mRnA gt ln (ta + 1) gu 0) (nI 58)) (mRnU gt ln (ta + 1) gu 0) 1)))] H := hP
            refine lv_if_eq (tgt := 203) hx hb dX8_readsOrder_171 (by decide) (fun c_43 => ?_) (fun c_43 => ?_)
            · refine lv_iconst (v := nI 0) hx hb dX8_readsOrder_203 (by decide) ?_
              exact hret _ _ _ _ _ _ (by rw [mRo, if_neg c_1, if_neg c_2, if_neg c_3, if_neg c_5, if_neg c_6, if_neg c_8, if_neg c_10, if_neg c_12, if_neg c_14, if_neg c_16, if_neg c_18, if_neg c_20, if_neg c_21, if_neg c_26, if_neg c_30, if_neg c_32, if_neg c_34, if_neg c_35, if_neg c_37, if_pos c_39, if_neg c_40, if_neg c_41, if_neg c_42, if_pos c_43]) (by rw [show mRoA gt ln ta gu = mTkA gt ln (mRnA gt ln (mTkA gt ln (mRnA gt ln (ta + 1) gu 0) (nI 58)) (mRnU gt ln (ta + 1) gu 0) 1) (nI 44) from by rw [mRoA, if_neg c_1, if_neg c_2, if_neg c_3, if_neg c_5, if_neg c_6, if_neg c_8, if_neg c_10, if_neg c_12, if_neg c_14, if_neg c_16, if_neg c_18, if_neg c_20, if_neg c_21, if_neg c_26, if_neg c_30, if_neg c_32, if_neg c_34, if_neg c_35, if_neg c_37, if_pos c_39, if_neg c_40, if_neg c_41, if_neg c_42, if_pos c_43], show mRoS gt ln ta gu = (mCd gt ln ta) from by rw [mRoS, if_neg c_1, if_neg c_2, if_neg c_3, if_neg c_5, if_neg c_6, if_neg c_8, if_neg c_10, if_neg c_12, if_neg c_14, if_neg c_16, if_neg c_18, if_neg c_20, if_neg c_21, if_neg c_26, if_neg c_30, if_neg c_32, if_neg c_34, if_neg c_35, if_neg c_37, if_pos c_39], show mRoU gt ln ta gu = mRnU gt ln (mTkA gt ln (mRnA gt ln (ta + 1) gu 0) (nI 58)) (mRnU gt ln (ta + 1) gu 0) 1 from by rw [mRoU, if_neg c_1, if_neg c_2, if_neg c_3, if_neg c_5, if_neg c_6, if_neg c_8, if_neg c_10, if_neg c_12, if_neg c_14, if_neg c_16, if_neg c_18, if_neg c_20, if_neg c_21, if_neg c_26, if_neg c_30, if_neg c_32, if_neg c_34, if_neg c_35, if_neg c_37, if_pos c_39, if_neg c_40, if_neg c_41, if_neg c_42, if_pos c_43]]) (by decide) hP hS dX8_readsOrder_204
            · refine lv_aload_n hx hb dX8_readsOrder_174 rfl (lv_at hl 0 rfl) ?_
              refine lv_iconst (v := nI 2) hx hb dX8_readsOrder_175 (by decide) ?_
              refine rwV1 (rest := []) S (c_X8_readsNumber l E xo st sp th so sv pd nu sn ln (mTkA gt ln (mRnA gt ln (mTkA gt ln (mRnA gt ln (ta + 1) gu 0) (nI 58)) (mRnU gt ln (ta + 1) gu 0) 1) (nI 44)) (mCd gt ln ta) gt (mRnU gt ln (mTkA gt ln (mRnA gt ln (ta + 1) gu 0) (nI 58)) (mRnU gt ln (ta + 1) gu 0) 1) 2 hln (mTkA_le (mRnA_le (mTkA_le (mRnA_le (by omega)) (by decide))) (by decide)) (by omega)) cd_X8_readsNumber bw_1063 ⟨Nat.le_of_ble_eq_true rfl, Nat.le_of_ble_eq_true rfl⟩ ⟨Nat.zero_le _, Nat.zero_le _⟩ hP (hDa.to rfl) hE hA hS [0, 1, 2] rfl rfl [xo, pd, nu] rfl rfl (ci := 5) rfl (q0 := 0) rfl (Nat.le_of_ble_eq_true rfl) hl.1 dX8_readsOrder_176 (fun H locs hP _ hS => ?_)
              have hP : va_P E.1 vwCl [(xo, .inr (5, [.ref st, .ref sp, .ref th, .int (nI sn), .ref so, .ref sv, .ref pd, .int (nI ln), .int (nI (mRnA gt ln (mTkA gt ln (mRnA gt ln (mTkA gt ln (mRnA gt ln (ta + 1) gu 0) (nI 58)) (mRnU gt ln (ta + 1) gu 0) 1) (nI 44)) (mRnU gt ln (mTkA gt ln (mRnA gt ln (ta + 1) gu 0) (nI 58)) (mRnU gt ln (ta + 1) gu 0) 1) 2)), .int (mCd gt ln ta), .ref nu])), (pd, .inl (E.2.1, 80, .inl gt)), (nu, .inl (E.2.1, 4, .inl (mRnU gt ln (mTkA gt ln (mRnA gt ln (mTkA gt ln (mRnA gt ln (ta + 1) gu 0) (nI 58)) (mRnU gt ln (ta + 1) gu 0) 1) (nI 44)) (mRnU gt ln (mTkA gt ln (mRnA gt ln (ta + 1) gu 0) (nI 58)) (mRnU gt ln (ta + 1) gu 0) 1) 2)))] H := hP
              refine lv_if_eq (tgt := 203) hx hb dX8_readsOrder_179 (by decide) (fun c_44 => ?_) (fun c_44 => ?_)
              · refine lv_iconst (v := nI 0) hx hb dX8_readsOrder_203 (by decide) ?_
                exact hret _ _ _ _ _ _ (by rw [mRo, if_neg c_1, if_neg c_2, if_neg c_3, if_neg c_5, if_neg c_6, if_neg c_8, if_neg c_10, if_neg c_12, if_neg c_14, if_neg c_16, if_neg c_18, if_neg c_20, if_neg c_21, if_neg c_26, if_neg c_30, if_neg c_32, if_neg c_34, if_neg c_35, if_neg c_37, if_pos c_39, if_neg c_40, if_neg c_41, if_neg c_42, if_neg c_43, if_pos c_44]) (by rw [show mRoA gt ln ta gu = mRnA gt ln (mTkA gt ln (mRnA gt ln (mTkA gt ln (mRnA gt ln (ta + 1) gu 0) (nI 58)) (mRnU gt ln (ta + 1) gu 0) 1) (nI 44)) (mRnU gt ln (mTkA gt ln (mRnA gt ln (ta + 1) gu 0) (nI 58)) (mRnU gt ln (ta + 1) gu 0) 1) 2 from by rw [mRoA, if_neg c_1, if_neg c_2, if_neg c_3, if_neg c_5, if_neg c_6, if_neg c_8, if_neg c_10, if_neg c_12, if_neg c_14, if_neg c_16, if_neg c_18, if_neg c_20, if_neg c_21, if_neg c_26, if_neg c_30, if_neg c_32, if_neg c_34, if_neg c_35, if_neg c_37, if_pos c_39, if_neg c_40, if_neg c_41, if_neg c_42, if_neg c_43, if_pos c_44], show mRoS gt ln ta gu = (mCd gt ln ta) from by rw [mRoS, if_neg c_1, if_neg c_2, if_neg c_3, if_neg c_5, if_neg c_6, if_neg c_8, if_neg c_10, if_neg c_12, if_neg c_14, if_neg c_16, if_neg c_18, if_neg c_20, if_neg c_21, if_neg c_26, if_neg c_30, if_neg c_32, if_neg c_34, if_neg c_35, if_neg c_37, if_pos c_39], show mRoU gt ln ta gu = mRnU gt ln (mTkA gt ln (mRnA gt ln (mTkA gt ln (mRnA gt ln (ta + 1) gu 0) (nI 58)) (mRnU gt ln (ta + 1) gu 0) 1) (nI 44)) (mRnU gt ln (mTkA gt ln (mRnA gt ln (ta + 1) gu 0) (nI 58)) (mRnU gt ln (ta + 1) gu 0) 1) 2 from by rw [mRoU, if_neg c_1, if_neg c_2, if_neg c_3, if_neg c_5, if_neg c_6, if_neg c_8, if_neg c_10, if_neg c_12, if_neg c_14, if_neg c_16, if_neg c_18, if_neg c_20, if_neg c_21, if_neg c_26, if_neg c_30, if_neg c_32, if_neg c_34, if_neg c_35, if_neg c_37, if_pos c_39, if_neg c_40, if_neg c_41, if_neg c_42, if_neg c_43, if_pos c_44]]) (by decide) hP hS dX8_readsOrder_204
              · refine lv_aload_n hx hb dX8_readsOrder_182 rfl (lv_at hl 0 rfl) ?_
                refine lv_bipush (v := nI 44) hx hb dX8_readsOrder_183 (by decide) ?_
                refine rwV1 (rest := []) S (c_X8_takes l E xo st sp th so sv pd nu sn ln (mRnA gt ln (mTkA gt ln (mRnA gt ln (mTkA gt ln (mRnA gt ln (ta + 1) gu 0) (nI 58)) (mRnU gt ln (ta + 1) gu 0) 1) (nI 44)) (mRnU gt ln (mTkA gt ln (mRnA gt ln (ta + 1) gu 0) (nI 58)) (mRnU gt ln (ta + 1) gu 0) 1) 2) (mCd gt ln ta) gt (nI 44) hln (mRnA_le (mTkA_le (mRnA_le (mTkA_le (mRnA_le (by omega)) (by decide))) (by decide)))) cd_X8_takes bw_1067 ⟨Nat.le_of_ble_eq_true rfl, Nat.le_of_ble_eq_true rfl⟩ ⟨Nat.zero_le _, Nat.zero_le _⟩ hP (hDa.to rfl) hE hA hS [0, 1] rfl rfl [xo, pd] rfl rfl (ci := 5) rfl (q0 := 0) rfl (Nat.le_of_ble_eq_true rfl) hl.1 dX8_readsOrder_185 (fun H locs hP _ hS => ?_)
                have hP : va_P E.1 vwCl [(xo, .inr (5, [.ref st, .ref sp, .ref th, .int (nI sn), .ref so, .ref sv, .ref pd, .int (nI ln), .int (nI (mTkA gt ln (mRnA gt ln (mTkA gt ln (mRnA gt ln (mTkA gt ln (mRnA gt ln (ta + 1) gu 0) (nI 58)) (mRnU gt ln (ta + 1) gu 0) 1) (nI 44)) (mRnU gt ln (mTkA gt ln (mRnA gt ln (ta + 1) gu 0) (nI 58)) (mRnU gt ln (ta + 1) gu 0) 1) 2) (nI 44))), .int (mCd gt ln ta), .ref nu])), (pd, .inl (E.2.1, 80, .inl gt)), (nu, .inl (E.2.1, 4, .inl (mRnU gt ln (mTkA gt ln (mRnA gt ln (mTkA gt ln (mRnA gt ln (ta + 1) gu 0) (nI 58)) (mRnU gt ln (ta + 1) gu 0) 1) (nI 44)) (mRnU gt ln (mTkA gt ln (mRnA gt ln (ta + 1) gu 0) (nI 58)) (mRnU gt ln (ta + 1) gu 0) 1) 2)))] H := hP
                refine lv_if_eq (tgt := 203) hx hb dX8_readsOrder_188 (by decide) (fun c_45 => ?_) (fun c_45 => ?_)
                · refine lv_iconst (v := nI 0) hx hb dX8_readsOrder_203 (by decide) ?_
                  exact hret _ _ _ _ _ _ (by rw [mRo, if_neg c_1, if_neg c_2, if_neg c_3, if_neg c_5, if_neg c_6, if_neg c_8, if_neg c_10, if_neg c_12, if_neg c_14, if_neg c_16, if_neg c_18, if_neg c_20, if_neg c_21, if_neg c_26, if_neg c_30, if_neg c_32, if_neg c_34, if_neg c_35, if_neg c_37, if_pos c_39, if_neg c_40, if_neg c_41, if_neg c_42, if_neg c_43, if_neg c_44, if_pos c_45]) (by rw [show mRoA gt ln ta gu = mTkA gt ln (mRnA gt ln (mTkA gt ln (mRnA gt ln (mTkA gt ln (mRnA gt ln (ta + 1) gu 0) (nI 58)) (mRnU gt ln (ta + 1) gu 0) 1) (nI 44)) (mRnU gt ln (mTkA gt ln (mRnA gt ln (ta + 1) gu 0) (nI 58)) (mRnU gt ln (ta + 1) gu 0) 1) 2) (nI 44) from by rw [mRoA, if_neg c_1, if_neg c_2, if_neg c_3, if_neg c_5, if_neg c_6, if_neg c_8, if_neg c_10, if_neg c_12, if_neg c_14, if_neg c_16, if_neg c_18, if_neg c_20, if_neg c_21, if_neg c_26, if_neg c_30, if_neg c_32, if_neg c_34, if_neg c_35, if_neg c_37, if_pos c_39, if_neg c_40, if_neg c_41, if_neg c_42, if_neg c_43, if_neg c_44, if_pos c_45], show mRoS gt ln ta gu = (mCd gt ln ta) from by rw [mRoS, if_neg c_1, if_neg c_2, if_neg c_3, if_neg c_5, if_neg c_6, if_neg c_8, if_neg c_10, if_neg c_12, if_neg c_14, if_neg c_16, if_neg c_18, if_neg c_20, if_neg c_21, if_neg c_26, if_neg c_30, if_neg c_32, if_neg c_34, if_neg c_35, if_neg c_37, if_pos c_39], show mRoU gt ln ta gu = mRnU gt ln (mTkA gt ln (mRnA gt ln (mTkA gt ln (mRnA gt ln (ta + 1) gu 0) (nI 58)) (mRnU gt ln (ta + 1) gu 0) 1) (nI 44)) (mRnU gt ln (mTkA gt ln (mRnA gt ln (ta + 1) gu 0) (nI 58)) (mRnU gt ln (ta + 1) gu 0) 1) 2 from by rw [mRoU, if_neg c_1, if_neg c_2, if_neg c_3, if_neg c_5, if_neg c_6, if_neg c_8, if_neg c_10, if_neg c_12, if_neg c_14, if_neg c_16, if_neg c_18, if_neg c_20, if_neg c_21, if_neg c_26, if_neg c_30, if_neg c_32, if_neg c_34, if_neg c_35, if_neg c_37, if_pos c_39, if_neg c_40, if_neg c_41, if_neg c_42, if_neg c_43, if_neg c_44, if_pos c_45]]) (by decide) hP hS dX8_readsOrder_204
                · refine lv_aload_n hx hb dX8_readsOrder_191 rfl (lv_at hl 0 rfl) ?_
                  refine lv_iconst (v := nI 3) hx hb dX8_readsOrder_192 (by decide) ?_
                  refine rwV1 (rest := []) S (c_X8_readsNumber l E xo st sp th so sv pd nu sn ln (mTkA gt ln (mRnA gt ln (mTkA gt ln (mRnA gt ln (mTkA gt ln (mRnA gt ln (ta + 1) gu 0) (nI 58)) (mRnU gt ln (ta + 1) gu 0) 1) (nI 44)) (mRnU gt ln (mTkA gt ln (mRnA gt ln (ta + 1) gu 0) (nI 58)) (mRnU gt ln (ta + 1) gu 0) 1) 2) (nI 44)) (mCd gt ln ta) gt (mRnU gt ln (mTkA gt ln (mRnA gt ln (mTkA gt ln (mRnA gt ln (ta + 1) gu 0) (nI 58)) (mRnU gt ln (ta + 1) gu 0) 1) (nI 44)) (mRnU gt ln (mTkA gt ln (mRnA gt ln (ta + 1) gu 0) (nI 58)) (mRnU gt ln (ta + 1) gu 0) 1) 2) 3 hln (mTkA_le (mRnA_le (mTkA_le (mRnA_le (mTkA_le (mRnA_le (by omega)) (by decide))) (by decide))) (by decide)) (by omega)) cd_X8_readsNumber bw_1063 ⟨Nat.le_of_ble_eq_true rfl, Nat.le_of_ble_eq_true rfl⟩ ⟨Nat.zero_le _, Nat.zero_le _⟩ hP (hDa.to rfl) hE hA hS [0, 1, 2] rfl rfl [xo, pd, nu] rfl rfl (ci := 5) rfl (q0 := 0) rfl (Nat.le_of_ble_eq_true rfl) hl.1 dX8_readsOrder_193 (fun H locs hP _ hS => ?_)
                  have hP : va_P E.1 vwCl [(xo, .inr (5, [.ref st, .ref sp, .ref th, .int (nI sn), .ref so, .ref sv, .ref pd, .int (nI ln), .int (nI (mRnA gt ln (mTkA gt ln (mRnA gt ln (mTkA gt ln (mRnA gt ln (mTkA gt ln (mRnA gt ln (ta + 1) gu 0) (nI 58)) (mRnU gt ln (ta + 1) gu 0) 1) (nI 44)) (mRnU gt ln (mTkA gt ln (mRnA gt ln (ta + 1) gu 0) (nI 58)) (mRnU gt ln (ta + 1) gu 0) 1) 2) (nI 44)) (mRnU gt ln (mTkA gt ln (mRnA gt ln (mTkA gt ln (mRnA gt ln (ta + 1) gu 0) (nI 58)) (mRnU gt ln (ta + 1) gu 0) 1) (nI 44)) (mRnU gt ln (mTkA gt ln (mRnA gt ln (ta + 1) gu 0) (nI 58)) (mRnU gt ln (ta + 1) gu 0) 1) 2) 3)), .int (mCd gt ln ta), .ref nu])), (pd, .inl (E.2.1, 80, .inl gt)), (nu, .inl (E.2.1, 4, .inl (mRnU gt ln (mTkA gt ln (mRnA gt ln (mTkA gt ln (mRnA gt ln (mTkA gt ln (mRnA gt ln (ta + 1) gu 0) (nI 58)) (mRnU gt ln (ta + 1) gu 0) 1) (nI 44)) (mRnU gt ln (mTkA gt ln (mRnA gt ln (ta + 1) gu 0) (nI 58)) (mRnU gt ln (ta + 1) gu 0) 1) 2) (nI 44)) (mRnU gt ln (mTkA gt ln (mRnA gt ln (mTkA gt ln (mRnA gt ln (ta + 1) gu 0) (nI 58)) (mRnU gt ln (ta + 1) gu 0) 1) (nI 44)) (mRnU gt ln (mTkA gt ln (mRnA gt ln (ta + 1) gu 0) (nI 58)) (mRnU gt ln (ta + 1) gu 0) 1) 2) 3)))] H := hP
                  refine lv_if_eq (tgt := 203) hx hb dX8_readsOrder_196 (by decide) (fun c_46 => ?_) (fun c_46 => ?_)
                  · refine lv_iconst (v := nI 0) hx hb dX8_readsOrder_203 (by decide) ?_
                    exact hret _ _ _ _ _ _ (by rw [mRo, if_neg c_1, if_neg c_2, if_neg c_3, if_neg c_5, if_neg c_6, if_neg c_8, if_neg c_10, if_neg c_12, if_neg c_14, if_neg c_16, if_neg c_18, if_neg c_20, if_neg c_21, if_neg c_26, if_neg c_30, if_neg c_32, if_neg c_34, if_neg c_35, if_neg c_37, if_pos c_39, if_neg c_40, if_neg c_41, if_neg c_42, if_neg c_43, if_neg c_44, if_neg c_45, if_pos c_46]) (by rw [show mRoA gt ln ta gu = mRnA gt ln (mTkA gt ln (mRnA gt ln (mTkA gt ln (mRnA gt ln (mTkA gt ln (mRnA gt ln (ta + 1) gu 0) (nI 58)) (mRnU gt ln (ta + 1) gu 0) 1) (nI 44)) (mRnU gt ln (mTkA gt ln (mRnA gt ln (ta + 1) gu 0) (nI 58)) (mRnU gt ln (ta + 1) gu 0) 1) 2) (nI 44)) (mRnU gt ln (mTkA gt ln (mRnA gt ln (mTkA gt ln (mRnA gt ln (ta + 1) gu 0) (nI 58)) (mRnU gt ln (ta + 1) gu 0) 1) (nI 44)) (mRnU gt ln (mTkA gt ln (mRnA gt ln (ta + 1) gu 0) (nI 58)) (mRnU gt ln (ta + 1) gu 0) 1) 2) 3 from by rw [mRoA, if_neg c_1, if_neg c_2, if_neg c_3, if_neg c_5, if_neg c_6, if_neg c_8, if_neg c_10, if_neg c_12, if_neg c_14, if_neg c_16, if_neg c_18, if_neg c_20, if_neg c_21, if_neg c_26, if_neg c_30, if_neg c_32, if_neg c_34, if_neg c_35, if_neg c_37, if_pos c_39, if_neg c_40, if_neg c_41, if_neg c_42, if_neg c_43, if_neg c_44, if_neg c_45], show mRoS gt ln ta gu = (mCd gt ln ta) from by rw [mRoS, if_neg c_1, if_neg c_2, if_neg c_3, if_neg c_5, if_neg c_6, if_neg c_8, if_neg c_10, if_neg c_12, if_neg c_14, if_neg c_16, if_neg c_18, if_neg c_20, if_neg c_21, if_neg c_26, if_neg c_30, if_neg c_32, if_neg c_34, if_neg c_35, if_neg c_37, if_pos c_39], show mRoU gt ln ta gu = mRnU gt ln (mTkA gt ln (mRnA gt ln (mTkA gt ln (mRnA gt ln (mTkA gt ln (mRnA gt ln (ta + 1) gu 0) (nI 58)) (mRnU gt ln (ta + 1) gu 0) 1) (nI 44)) (mRnU gt ln (mTkA gt ln (mRnA gt ln (ta + 1) gu 0) (nI 58)) (mRnU gt ln (ta + 1) gu 0) 1) 2) (nI 44)) (mRnU gt ln (mTkA gt ln (mRnA gt ln (mTkA gt ln (mRnA gt ln (ta + 1) gu 0) (nI 58)) (mRnU gt ln (ta + 1) gu 0) 1) (nI 44)) (mRnU gt ln (mTkA gt ln (mRnA gt ln (ta + 1) gu 0) (nI 58)) (mRnU gt ln (ta + 1) gu 0) 1) 2) 3 from by rw [mRoU, if_neg c_1, if_neg c_2, if_neg c_3, if_neg c_5, if_neg c_6, if_neg c_8, if_neg c_10, if_neg c_12, if_neg c_14, if_neg c_16, if_neg c_18, if_neg c_20, if_neg c_21, if_neg c_26, if_neg c_30, if_neg c_32, if_neg c_34, if_neg c_35, if_neg c_37, if_pos c_39, if_neg c_40, if_neg c_41, if_neg c_42, if_neg c_43, if_neg c_44, if_neg c_45]]) (by decide) hP hS dX8_readsOrder_204
                  · refine lv_iconst (v := nI 1) hx hb dX8_readsOrder_199 (by decide) ?_
                    refine lv_goto (tgt := 204) hx hb dX8_readsOrder_200 (by decide) ?_
                    exact hret _ _ _ _ _ _ (by rw [mRo, if_neg c_1, if_neg c_2, if_neg c_3, if_neg c_5, if_neg c_6, if_neg c_8, if_neg c_10, if_neg c_12, if_neg c_14, if_neg c_16, if_neg c_18, if_neg c_20, if_neg c_21, if_neg c_26, if_neg c_30, if_neg c_32, if_neg c_34, if_neg c_35, if_neg c_37, if_pos c_39, if_neg c_40, if_neg c_41, if_neg c_42, if_neg c_43, if_neg c_44, if_neg c_45, if_neg c_46]) (by rw [show mRoA gt ln ta gu = mRnA gt ln (mTkA gt ln (mRnA gt ln (mTkA gt ln (mRnA gt ln (mTkA gt ln (mRnA gt ln (ta + 1) gu 0) (nI 58)) (mRnU gt ln (ta + 1) gu 0) 1) (nI 44)) (mRnU gt ln (mTkA gt ln (mRnA gt ln (ta + 1) gu 0) (nI 58)) (mRnU gt ln (ta + 1) gu 0) 1) 2) (nI 44)) (mRnU gt ln (mTkA gt ln (mRnA gt ln (mTkA gt ln (mRnA gt ln (ta + 1) gu 0) (nI 58)) (mRnU gt ln (ta + 1) gu 0) 1) (nI 44)) (mRnU gt ln (mTkA gt ln (mRnA gt ln (ta + 1) gu 0) (nI 58)) (mRnU gt ln (ta + 1) gu 0) 1) 2) 3 from by rw [mRoA, if_neg c_1, if_neg c_2, if_neg c_3, if_neg c_5, if_neg c_6, if_neg c_8, if_neg c_10, if_neg c_12, if_neg c_14, if_neg c_16, if_neg c_18, if_neg c_20, if_neg c_21, if_neg c_26, if_neg c_30, if_neg c_32, if_neg c_34, if_neg c_35, if_neg c_37, if_pos c_39, if_neg c_40, if_neg c_41, if_neg c_42, if_neg c_43, if_neg c_44, if_neg c_45], show mRoS gt ln ta gu = (mCd gt ln ta) from by rw [mRoS, if_neg c_1, if_neg c_2, if_neg c_3, if_neg c_5, if_neg c_6, if_neg c_8, if_neg c_10, if_neg c_12, if_neg c_14, if_neg c_16, if_neg c_18, if_neg c_20, if_neg c_21, if_neg c_26, if_neg c_30, if_neg c_32, if_neg c_34, if_neg c_35, if_neg c_37, if_pos c_39], show mRoU gt ln ta gu = mRnU gt ln (mTkA gt ln (mRnA gt ln (mTkA gt ln (mRnA gt ln (mTkA gt ln (mRnA gt ln (ta + 1) gu 0) (nI 58)) (mRnU gt ln (ta + 1) gu 0) 1) (nI 44)) (mRnU gt ln (mTkA gt ln (mRnA gt ln (ta + 1) gu 0) (nI 58)) (mRnU gt ln (ta + 1) gu 0) 1) 2) (nI 44)) (mRnU gt ln (mTkA gt ln (mRnA gt ln (mTkA gt ln (mRnA gt ln (ta + 1) gu 0) (nI 58)) (mRnU gt ln (ta + 1) gu 0) 1) (nI 44)) (mRnU gt ln (mTkA gt ln (mRnA gt ln (ta + 1) gu 0) (nI 58)) (mRnU gt ln (ta + 1) gu 0) 1) 2) 3 from by rw [mRoU, if_neg c_1, if_neg c_2, if_neg c_3, if_neg c_5, if_neg c_6, if_neg c_8, if_neg c_10, if_neg c_12, if_neg c_14, if_neg c_16, if_neg c_18, if_neg c_20, if_neg c_21, if_neg c_26, if_neg c_30, if_neg c_32, if_neg c_34, if_neg c_35, if_neg c_37, if_pos c_39, if_neg c_40, if_neg c_41, if_neg c_42, if_neg c_43, if_neg c_44, if_neg c_45]]) (by decide) hP hS dX8_readsOrder_204
    by_cases c_47 : mCd gt ln ta = nI 116
    · refine lv_tableIn (tgt := 287) hx hb dX8_readsOrder_33 (by rw [c_47]; decide) (by rw [c_47]; decide) (by rw [c_47]; rfl) (by decide) ?_
      refine lv_aload_n hx hb dX8_readsOrder_287 rfl (lv_at hl 0 rfl) ?_
      refine lv_dup hx hb dX8_readsOrder_288 rfl ?_
      refine va_get (D := E.1) (ci := 5) (v := .int (nI (ta + 1))) (C := RX8) (T := TX8) (N := 11) hx hb hts inb_X8 hown hK hP 0 rfl rfl 8 (by decide) (hts _ bw_718) (fun _ h9 => h9) rfl dX8_readsOrder_289 ?_
      refine lv_aload_n hx hb dX8_readsOrder_292 rfl (lv_at hl 0 rfl) ?_
      refine va_get (D := E.1) (ci := 5) (v := .int (mCd gt ln ta)) (C := RX8) (T := TX8) (N := 11) hx hb hts inb_X8 hown hK hP 0 rfl rfl 9 (by decide) (hts _ bw_719) (fun _ h9 => h9) rfl dX8_readsOrder_293 ?_
      refine lv_if_ne (tgt := 303) hx hb dX8_readsOrder_296 (by decide) (fun _ => ?_) (fun c_48 => absurd c_48 c_1)
      refine lv_iconst (v := nI 1) hx hb dX8_readsOrder_303 (by decide) ?_
      refine rn_sub (a := ta + 1) (b := 1) hx hb dX8_readsOrder_304 (by omega) ?_
      refine va_put (D := E.1) (ci := 5) (v := .int (nI ((ta + 1) - 1))) (ty := .int) (C := RX8) (T := TX8) (N := 11) hx hb hts inb_X8 tyX8 tyX8_ok nmX8 hown hK hP (hDa.to rfl) hS 0 rfl rfl 8 (by decide) (hts _ bw_718) (fun _ h9 => h9) rfl (by decide +kernel) rfl rfl (Nat.le_of_ble_eq_true rfl) dX8_readsOrder_305 (fun H locs hP _ hS => ?_)
      have hP : va_P E.1 vwCl [(xo, .inr (5, [.ref st, .ref sp, .ref th, .int (nI sn), .ref so, .ref sv, .ref pd, .int (nI ln), .int (nI ((ta + 1) - 1)), .int (mCd gt ln ta), .ref nu])), (pd, .inl (E.2.1, 80, .inl gt)), (nu, .inl (E.2.1, 4, .inl gu))] H := hP
      refine lv_iconst (v := nI 0) hx hb dX8_readsOrder_308 (by decide) ?_
      exact hret _ _ _ _ _ _ (by rw [mRo, if_neg c_1, if_neg c_2, if_neg c_3, if_neg c_5, if_neg c_6, if_neg c_8, if_neg c_10, if_neg c_12, if_neg c_14, if_neg c_16, if_neg c_18, if_neg c_20, if_neg c_21, if_neg c_26, if_neg c_30, if_neg c_32, if_neg c_34, if_neg c_35, if_neg c_37, if_neg c_39, if_pos c_47]) (by rw [show mRoA gt ln ta gu = (ta + 1) - 1 from by rw [mRoA, if_neg c_1, if_neg c_2, if_neg c_3, if_neg c_5, if_neg c_6, if_neg c_8, if_neg c_10, if_neg c_12, if_neg c_14, if_neg c_16, if_neg c_18, if_neg c_20, if_neg c_21, if_neg c_26, if_neg c_30, if_neg c_32, if_neg c_34, if_neg c_35, if_neg c_37, if_neg c_39, if_pos c_47], show mRoS gt ln ta gu = mCd gt ln ta from by rw [mRoS, if_neg c_1, if_neg c_2, if_neg c_3, if_neg c_5, if_neg c_6, if_neg c_8, if_neg c_10, if_neg c_12, if_neg c_14, if_neg c_16, if_neg c_18, if_neg c_20, if_neg c_21, if_neg c_26, if_neg c_30, if_neg c_32, if_neg c_34, if_neg c_35, if_neg c_37, if_neg c_39, if_pos c_47], show mRoU gt ln ta gu = gu from by rw [mRoU, if_neg c_1, if_neg c_2, if_neg c_3, if_neg c_5, if_neg c_6, if_neg c_8, if_neg c_10, if_neg c_12, if_neg c_14, if_neg c_16, if_neg c_18, if_neg c_20, if_neg c_21, if_neg c_26, if_neg c_30, if_neg c_32, if_neg c_34, if_neg c_35, if_neg c_37, if_neg c_39, if_pos c_47]]) (by decide) hP hS dX8_readsOrder_309
    by_cases c_49 : mCd gt ln ta = nI 117
    · refine lv_tableIn (tgt := 287) hx hb dX8_readsOrder_33 (by rw [c_49]; decide) (by rw [c_49]; decide) (by rw [c_49]; rfl) (by decide) ?_
      refine lv_aload_n hx hb dX8_readsOrder_287 rfl (lv_at hl 0 rfl) ?_
      refine lv_dup hx hb dX8_readsOrder_288 rfl ?_
      refine va_get (D := E.1) (ci := 5) (v := .int (nI (ta + 1))) (C := RX8) (T := TX8) (N := 11) hx hb hts inb_X8 hown hK hP 0 rfl rfl 8 (by decide) (hts _ bw_718) (fun _ h9 => h9) rfl dX8_readsOrder_289 ?_
      refine lv_aload_n hx hb dX8_readsOrder_292 rfl (lv_at hl 0 rfl) ?_
      refine va_get (D := E.1) (ci := 5) (v := .int (mCd gt ln ta)) (C := RX8) (T := TX8) (N := 11) hx hb hts inb_X8 hown hK hP 0 rfl rfl 9 (by decide) (hts _ bw_719) (fun _ h9 => h9) rfl dX8_readsOrder_293 ?_
      refine lv_if_ne (tgt := 303) hx hb dX8_readsOrder_296 (by decide) (fun _ => ?_) (fun c_50 => absurd c_50 c_1)
      refine lv_iconst (v := nI 1) hx hb dX8_readsOrder_303 (by decide) ?_
      refine rn_sub (a := ta + 1) (b := 1) hx hb dX8_readsOrder_304 (by omega) ?_
      refine va_put (D := E.1) (ci := 5) (v := .int (nI ((ta + 1) - 1))) (ty := .int) (C := RX8) (T := TX8) (N := 11) hx hb hts inb_X8 tyX8 tyX8_ok nmX8 hown hK hP (hDa.to rfl) hS 0 rfl rfl 8 (by decide) (hts _ bw_718) (fun _ h9 => h9) rfl (by decide +kernel) rfl rfl (Nat.le_of_ble_eq_true rfl) dX8_readsOrder_305 (fun H locs hP _ hS => ?_)
      have hP : va_P E.1 vwCl [(xo, .inr (5, [.ref st, .ref sp, .ref th, .int (nI sn), .ref so, .ref sv, .ref pd, .int (nI ln), .int (nI ((ta + 1) - 1)), .int (mCd gt ln ta), .ref nu])), (pd, .inl (E.2.1, 80, .inl gt)), (nu, .inl (E.2.1, 4, .inl gu))] H := hP
      refine lv_iconst (v := nI 0) hx hb dX8_readsOrder_308 (by decide) ?_
      exact hret _ _ _ _ _ _ (by rw [mRo, if_neg c_1, if_neg c_2, if_neg c_3, if_neg c_5, if_neg c_6, if_neg c_8, if_neg c_10, if_neg c_12, if_neg c_14, if_neg c_16, if_neg c_18, if_neg c_20, if_neg c_21, if_neg c_26, if_neg c_30, if_neg c_32, if_neg c_34, if_neg c_35, if_neg c_37, if_neg c_39, if_neg c_47, if_pos c_49]) (by rw [show mRoA gt ln ta gu = (ta + 1) - 1 from by rw [mRoA, if_neg c_1, if_neg c_2, if_neg c_3, if_neg c_5, if_neg c_6, if_neg c_8, if_neg c_10, if_neg c_12, if_neg c_14, if_neg c_16, if_neg c_18, if_neg c_20, if_neg c_21, if_neg c_26, if_neg c_30, if_neg c_32, if_neg c_34, if_neg c_35, if_neg c_37, if_neg c_39, if_neg c_47, if_pos c_49], show mRoS gt ln ta gu = mCd gt ln ta from by rw [mRoS, if_neg c_1, if_neg c_2, if_neg c_3, if_neg c_5, if_neg c_6, if_neg c_8, if_neg c_10, if_neg c_12, if_neg c_14, if_neg c_16, if_neg c_18, if_neg c_20, if_neg c_21, if_neg c_26, if_neg c_30, if_neg c_32, if_neg c_34, if_neg c_35, if_neg c_37, if_neg c_39, if_neg c_47, if_pos c_49], show mRoU gt ln ta gu = gu from by rw [mRoU, if_neg c_1, if_neg c_2, if_neg c_3, if_neg c_5, if_neg c_6, if_neg c_8, if_neg c_10, if_neg c_12, if_neg c_14, if_neg c_16, if_neg c_18, if_neg c_20, if_neg c_21, if_neg c_26, if_neg c_30, if_neg c_32, if_neg c_34, if_neg c_35, if_neg c_37, if_neg c_39, if_neg c_47, if_pos c_49]]) (by decide) hP hS dX8_readsOrder_309
    by_cases c_51 : mCd gt ln ta = nI 118
    · refine lv_tableIn (tgt := 287) hx hb dX8_readsOrder_33 (by rw [c_51]; decide) (by rw [c_51]; decide) (by rw [c_51]; rfl) (by decide) ?_
      refine lv_aload_n hx hb dX8_readsOrder_287 rfl (lv_at hl 0 rfl) ?_
      refine lv_dup hx hb dX8_readsOrder_288 rfl ?_
      refine va_get (D := E.1) (ci := 5) (v := .int (nI (ta + 1))) (C := RX8) (T := TX8) (N := 11) hx hb hts inb_X8 hown hK hP 0 rfl rfl 8 (by decide) (hts _ bw_718) (fun _ h9 => h9) rfl dX8_readsOrder_289 ?_
      refine lv_aload_n hx hb dX8_readsOrder_292 rfl (lv_at hl 0 rfl) ?_
      refine va_get (D := E.1) (ci := 5) (v := .int (mCd gt ln ta)) (C := RX8) (T := TX8) (N := 11) hx hb hts inb_X8 hown hK hP 0 rfl rfl 9 (by decide) (hts _ bw_719) (fun _ h9 => h9) rfl dX8_readsOrder_293 ?_
      refine lv_if_ne (tgt := 303) hx hb dX8_readsOrder_296 (by decide) (fun _ => ?_) (fun c_52 => absurd c_52 c_1)
      refine lv_iconst (v := nI 1) hx hb dX8_readsOrder_303 (by decide) ?_
      refine rn_sub (a := ta + 1) (b := 1) hx hb dX8_readsOrder_304 (by omega) ?_
      refine va_put (D := E.1) (ci := 5) (v := .int (nI ((ta + 1) - 1))) (ty := .int) (C := RX8) (T := TX8) (N := 11) hx hb hts inb_X8 tyX8 tyX8_ok nmX8 hown hK hP (hDa.to rfl) hS 0 rfl rfl 8 (by decide) (hts _ bw_718) (fun _ h9 => h9) rfl (by decide +kernel) rfl rfl (Nat.le_of_ble_eq_true rfl) dX8_readsOrder_305 (fun H locs hP _ hS => ?_)
      have hP : va_P E.1 vwCl [(xo, .inr (5, [.ref st, .ref sp, .ref th, .int (nI sn), .ref so, .ref sv, .ref pd, .int (nI ln), .int (nI ((ta + 1) - 1)), .int (mCd gt ln ta), .ref nu])), (pd, .inl (E.2.1, 80, .inl gt)), (nu, .inl (E.2.1, 4, .inl gu))] H := hP
      refine lv_iconst (v := nI 0) hx hb dX8_readsOrder_308 (by decide) ?_
      exact hret _ _ _ _ _ _ (by rw [mRo, if_neg c_1, if_neg c_2, if_neg c_3, if_neg c_5, if_neg c_6, if_neg c_8, if_neg c_10, if_neg c_12, if_neg c_14, if_neg c_16, if_neg c_18, if_neg c_20, if_neg c_21, if_neg c_26, if_neg c_30, if_neg c_32, if_neg c_34, if_neg c_35, if_neg c_37, if_neg c_39, if_neg c_47, if_neg c_49, if_pos c_51]) (by rw [show mRoA gt ln ta gu = (ta + 1) - 1 from by rw [mRoA, if_neg c_1, if_neg c_2, if_neg c_3, if_neg c_5, if_neg c_6, if_neg c_8, if_neg c_10, if_neg c_12, if_neg c_14, if_neg c_16, if_neg c_18, if_neg c_20, if_neg c_21, if_neg c_26, if_neg c_30, if_neg c_32, if_neg c_34, if_neg c_35, if_neg c_37, if_neg c_39, if_neg c_47, if_neg c_49, if_pos c_51], show mRoS gt ln ta gu = mCd gt ln ta from by rw [mRoS, if_neg c_1, if_neg c_2, if_neg c_3, if_neg c_5, if_neg c_6, if_neg c_8, if_neg c_10, if_neg c_12, if_neg c_14, if_neg c_16, if_neg c_18, if_neg c_20, if_neg c_21, if_neg c_26, if_neg c_30, if_neg c_32, if_neg c_34, if_neg c_35, if_neg c_37, if_neg c_39, if_neg c_47, if_neg c_49, if_pos c_51], show mRoU gt ln ta gu = gu from by rw [mRoU, if_neg c_1, if_neg c_2, if_neg c_3, if_neg c_5, if_neg c_6, if_neg c_8, if_neg c_10, if_neg c_12, if_neg c_14, if_neg c_16, if_neg c_18, if_neg c_20, if_neg c_21, if_neg c_26, if_neg c_30, if_neg c_32, if_neg c_34, if_neg c_35, if_neg c_37, if_neg c_39, if_neg c_47, if_neg c_49, if_pos c_51]]) (by decide) hP hS dX8_readsOrder_309
    by_cases c_53 : mCd gt ln ta = nI 119
    · refine lv_tableIn (tgt := 243) hx hb dX8_readsOrder_33 (by rw [c_53]; decide) (by rw [c_53]; decide) (by rw [c_53]; rfl) (by decide) ?_
      refine lv_aload_n hx hb dX8_readsOrder_243 rfl (lv_at hl 0 rfl) ?_
      refine rwV0 (rest := []) S (c_X8_readsWish l E xo st sp th so sv pd nu sn ln (ta + 1) (mCd gt ln ta) gt gu hln (by omega)) cd_X8_readsWish bw_1075 ⟨Nat.le_of_ble_eq_true rfl, Nat.le_of_ble_eq_true rfl⟩ ⟨Nat.zero_le _, Nat.zero_le _⟩ hP (hDa.to rfl) hE hA hS [0, 1, 2] rfl rfl [xo, pd, nu] rfl rfl (ci := 5) rfl (q0 := 0) rfl (Nat.le_of_ble_eq_true rfl) hl.1 dX8_readsOrder_244 (fun H locs hP _ hS => ?_)
      have hP : va_P E.1 vwCl [(xo, .inr (5, [.ref st, .ref sp, .ref th, .int (nI sn), .ref so, .ref sv, .ref pd, .int (nI ln), .int (nI (mRwA gt ln (ta + 1) gu)), .int (mCd gt ln ta), .ref nu])), (pd, .inl (E.2.1, 80, .inl gt)), (nu, .inl (E.2.1, 4, .inl (mRwU gt ln (ta + 1) gu)))] H := hP
      exact hret _ _ _ _ _ _ (by rw [mRo, if_neg c_1, if_neg c_2, if_neg c_3, if_neg c_5, if_neg c_6, if_neg c_8, if_neg c_10, if_neg c_12, if_neg c_14, if_neg c_16, if_neg c_18, if_neg c_20, if_neg c_21, if_neg c_26, if_neg c_30, if_neg c_32, if_neg c_34, if_neg c_35, if_neg c_37, if_neg c_39, if_neg c_47, if_neg c_49, if_neg c_51, if_pos c_53]) (by rw [show mRoA gt ln ta gu = mRwA gt ln (ta + 1) gu from by rw [mRoA, if_neg c_1, if_neg c_2, if_neg c_3, if_neg c_5, if_neg c_6, if_neg c_8, if_neg c_10, if_neg c_12, if_neg c_14, if_neg c_16, if_neg c_18, if_neg c_20, if_neg c_21, if_neg c_26, if_neg c_30, if_neg c_32, if_neg c_34, if_neg c_35, if_neg c_37, if_neg c_39, if_neg c_47, if_neg c_49, if_neg c_51, if_pos c_53], show mRoS gt ln ta gu = (mCd gt ln ta) from by rw [mRoS, if_neg c_1, if_neg c_2, if_neg c_3, if_neg c_5, if_neg c_6, if_neg c_8, if_neg c_10, if_neg c_12, if_neg c_14, if_neg c_16, if_neg c_18, if_neg c_20, if_neg c_21, if_neg c_26, if_neg c_30, if_neg c_32, if_neg c_34, if_neg c_35, if_neg c_37, if_neg c_39, if_neg c_47, if_neg c_49, if_neg c_51, if_pos c_53], show mRoU gt ln ta gu = mRwU gt ln (ta + 1) gu from by rw [mRoU, if_neg c_1, if_neg c_2, if_neg c_3, if_neg c_5, if_neg c_6, if_neg c_8, if_neg c_10, if_neg c_12, if_neg c_14, if_neg c_16, if_neg c_18, if_neg c_20, if_neg c_21, if_neg c_26, if_neg c_30, if_neg c_32, if_neg c_34, if_neg c_35, if_neg c_37, if_neg c_39, if_neg c_47, if_neg c_49, if_neg c_51, if_pos c_53]]) (by first | (with_reducible exact mRw_z _ _ _ _) | assumption) hP hS dX8_readsOrder_247
    refine lv_tableOut (tgt := 287) hx hb dX8_readsOrder_33 (sw_out (lo := 97) (n := 23) ((lt_s (lt_s (lt_s (lt_s (lt_s (lt_s (lt_s (lt_s (lt_s (lt_s (lt_s (lt_s (lt_s (lt_s (lt_s (lt_s (lt_s (lt_s (lt_s (lt_s (lt_s (lt_s (lt_s lt_0 c_2) c_3) c_5) c_6) c_8) c_10) c_12) c_14) c_16) c_18) c_20) c_21) c_26) c_30) c_32) c_34) c_35) c_37) c_39) c_47) c_49) c_51) c_53 : ∀ a, a < 23 → (fun a => ¬ mCd gt ln ta = nI (97 + a)) a))) (by decide) ?_
    refine lv_aload_n hx hb dX8_readsOrder_287 rfl (lv_at hl 0 rfl) ?_
    refine lv_dup hx hb dX8_readsOrder_288 rfl ?_
    refine va_get (D := E.1) (ci := 5) (v := .int (nI (ta + 1))) (C := RX8) (T := TX8) (N := 11) hx hb hts inb_X8 hown hK hP 0 rfl rfl 8 (by decide) (hts _ bw_718) (fun _ h9 => h9) rfl dX8_readsOrder_289 ?_
    refine lv_aload_n hx hb dX8_readsOrder_292 rfl (lv_at hl 0 rfl) ?_
    refine va_get (D := E.1) (ci := 5) (v := .int (mCd gt ln ta)) (C := RX8) (T := TX8) (N := 11) hx hb hts inb_X8 hown hK hP 0 rfl rfl 9 (by decide) (hts _ bw_719) (fun _ h9 => h9) rfl dX8_readsOrder_293 ?_
    refine lv_if_ne (tgt := 303) hx hb dX8_readsOrder_296 (by decide) (fun _ => ?_) (fun c_54 => absurd c_54 c_1)
    refine lv_iconst (v := nI 1) hx hb dX8_readsOrder_303 (by decide) ?_
    refine rn_sub (a := ta + 1) (b := 1) hx hb dX8_readsOrder_304 (by omega) ?_
    refine va_put (D := E.1) (ci := 5) (v := .int (nI ((ta + 1) - 1))) (ty := .int) (C := RX8) (T := TX8) (N := 11) hx hb hts inb_X8 tyX8 tyX8_ok nmX8 hown hK hP (hDa.to rfl) hS 0 rfl rfl 8 (by decide) (hts _ bw_718) (fun _ h9 => h9) rfl (by decide +kernel) rfl rfl (Nat.le_of_ble_eq_true rfl) dX8_readsOrder_305 (fun H locs hP _ hS => ?_)
    have hP : va_P E.1 vwCl [(xo, .inr (5, [.ref st, .ref sp, .ref th, .int (nI sn), .ref so, .ref sv, .ref pd, .int (nI ln), .int (nI ((ta + 1) - 1)), .int (mCd gt ln ta), .ref nu])), (pd, .inl (E.2.1, 80, .inl gt)), (nu, .inl (E.2.1, 4, .inl gu))] H := hP
    refine lv_iconst (v := nI 0) hx hb dX8_readsOrder_308 (by decide) ?_
    exact hret _ _ _ _ _ _ (by rw [mRo, if_neg c_1, if_neg c_2, if_neg c_3, if_neg c_5, if_neg c_6, if_neg c_8, if_neg c_10, if_neg c_12, if_neg c_14, if_neg c_16, if_neg c_18, if_neg c_20, if_neg c_21, if_neg c_26, if_neg c_30, if_neg c_32, if_neg c_34, if_neg c_35, if_neg c_37, if_neg c_39, if_neg c_47, if_neg c_49, if_neg c_51, if_neg c_53]) (by rw [show mRoA gt ln ta gu = (ta + 1) - 1 from by rw [mRoA, if_neg c_1, if_neg c_2, if_neg c_3, if_neg c_5, if_neg c_6, if_neg c_8, if_neg c_10, if_neg c_12, if_neg c_14, if_neg c_16, if_neg c_18, if_neg c_20, if_neg c_21, if_neg c_26, if_neg c_30, if_neg c_32, if_neg c_34, if_neg c_35, if_neg c_37, if_neg c_39, if_neg c_47, if_neg c_49, if_neg c_51, if_neg c_53], show mRoS gt ln ta gu = mCd gt ln ta from by rw [mRoS, if_neg c_1, if_neg c_2, if_neg c_3, if_neg c_5, if_neg c_6, if_neg c_8, if_neg c_10, if_neg c_12, if_neg c_14, if_neg c_16, if_neg c_18, if_neg c_20, if_neg c_21, if_neg c_26, if_neg c_30, if_neg c_32, if_neg c_34, if_neg c_35, if_neg c_37, if_neg c_39, if_neg c_47, if_neg c_49, if_neg c_51, if_neg c_53], show mRoU gt ln ta gu = gu from by rw [mRoU, if_neg c_1, if_neg c_2, if_neg c_3, if_neg c_5, if_neg c_6, if_neg c_8, if_neg c_10, if_neg c_12, if_neg c_14, if_neg c_16, if_neg c_18, if_neg c_20, if_neg c_21, if_neg c_26, if_neg c_30, if_neg c_32, if_neg c_34, if_neg c_35, if_neg c_37, if_neg c_39, if_neg c_47, if_neg c_49, if_neg c_51, if_neg c_53]]) (by decide) hP hS dX8_readsOrder_309
  · refine lv_iconst (v := nI 0) hx hb dX8_readsOrder_20 (by decide) ?_
    refine lv_goto (tgt := 25) hx hb dX8_readsOrder_21 (by decide) ?_
    refine rn_add (a := ta) (b := 0) hx hb dX8_readsOrder_25 ?_
    refine va_put (D := E.1) (ci := 5) (v := .int (nI (ta + 0))) (ty := .int) (C := RX8) (T := TX8) (N := 11) hx hb hts inb_X8 tyX8 tyX8_ok nmX8 hown hK hP (hDa.to rfl) hS 0 rfl rfl 8 (by decide) (hts _ bw_718) (fun _ h9 => h9) rfl (by decide +kernel) rfl rfl (Nat.le_of_ble_eq_true rfl) dX8_readsOrder_26 (fun H locs hP _ hS => ?_)
    have hP : va_P E.1 vwCl [(xo, .inr (5, [.ref st, .ref sp, .ref th, .int (nI sn), .ref so, .ref sv, .ref pd, .int (nI ln), .int (nI (ta + 0)), .int (mCd gt ln ta), .ref nu])), (pd, .inl (E.2.1, 80, .inl gt)), (nu, .inl (E.2.1, 4, .inl gu))] H := hP
    refine lv_aload_n hx hb dX8_readsOrder_29 rfl (lv_at hl 0 rfl) ?_
    refine va_get (D := E.1) (ci := 5) (v := .int (mCd gt ln ta)) (C := RX8) (T := TX8) (N := 11) hx hb hts inb_X8 hown hK hP 0 rfl rfl 9 (by decide) (hts _ bw_719) (fun _ h9 => h9) rfl dX8_readsOrder_30 ?_
    refine W.eq (congrArg (fun z => F0 m 33 ls (.int z :: [])) (show mCd gt ln ta = nI 0 from c_1)) ?_
    refine lv_tableOut (tgt := 287) hx hb dX8_readsOrder_33 (by decide) (by decide) ?_
    refine lv_aload_n hx hb dX8_readsOrder_287 rfl (lv_at hl 0 rfl) ?_
    refine lv_dup hx hb dX8_readsOrder_288 rfl ?_
    refine va_get (D := E.1) (ci := 5) (v := .int (nI (ta + 0))) (C := RX8) (T := TX8) (N := 11) hx hb hts inb_X8 hown hK hP 0 rfl rfl 8 (by decide) (hts _ bw_718) (fun _ h9 => h9) rfl dX8_readsOrder_289 ?_
    refine lv_aload_n hx hb dX8_readsOrder_292 rfl (lv_at hl 0 rfl) ?_
    refine va_get (D := E.1) (ci := 5) (v := .int (mCd gt ln ta)) (C := RX8) (T := TX8) (N := 11) hx hb hts inb_X8 hown hK hP 0 rfl rfl 9 (by decide) (hts _ bw_719) (fun _ h9 => h9) rfl dX8_readsOrder_293 ?_
    refine lv_if_ne (tgt := 303) hx hb dX8_readsOrder_296 (by decide) (fun c_55 => absurd c_1 c_55) (fun _ => ?_)
    refine lv_iconst (v := nI 0) hx hb dX8_readsOrder_299 (by decide) ?_
    refine lv_goto (tgt := 304) hx hb dX8_readsOrder_300 (by decide) ?_
    refine rn_sub (a := ta + 0) (b := 0) hx hb dX8_readsOrder_304 (by omega) ?_
    refine va_put (D := E.1) (ci := 5) (v := .int (nI ((ta + 0) - 0))) (ty := .int) (C := RX8) (T := TX8) (N := 11) hx hb hts inb_X8 tyX8 tyX8_ok nmX8 hown hK hP (hDa.to rfl) hS 0 rfl rfl 8 (by decide) (hts _ bw_718) (fun _ h9 => h9) rfl (by decide +kernel) rfl rfl (Nat.le_of_ble_eq_true rfl) dX8_readsOrder_305 (fun H locs hP _ hS => ?_)
    have hP : va_P E.1 vwCl [(xo, .inr (5, [.ref st, .ref sp, .ref th, .int (nI sn), .ref so, .ref sv, .ref pd, .int (nI ln), .int (nI ((ta + 0) - 0)), .int (mCd gt ln ta), .ref nu])), (pd, .inl (E.2.1, 80, .inl gt)), (nu, .inl (E.2.1, 4, .inl gu))] H := hP
    refine lv_iconst (v := nI 0) hx hb dX8_readsOrder_308 (by decide) ?_
    exact hret _ _ _ _ _ _ (by rw [mRo, if_pos c_1]) (by rw [show mRoA gt ln ta gu = (ta + 0) - 0 from by rw [mRoA, if_pos c_1], show mRoS gt ln ta gu = mCd gt ln ta from by rw [mRoS, if_pos c_1], show mRoU gt ln ta gu = gu from by rw [mRoU, if_pos c_1]]) (by decide) hP hS dX8_readsOrder_309

