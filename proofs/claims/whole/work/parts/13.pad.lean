/-! the pad: what is written, what is read order by order -/
theorem cd_X2_write : cdV RX2 yX2_write cX2_write 2 none 1 := ⟨⟨bw_535, bw_61, by decide, by decide, by decide +kernel⟩, bw_534, bw_1⟩
set_option maxHeartbeats 4000000 in
set_option maxRecDepth 100000 in
theorem c_X2_write (l : Launch) (E : EV) (d : Nat) (ch : Nat) (nu : Nat) (L : Nat) (a : Int32) (b : Int32) (le : Int32) (co : Int32) (mi : Int32) (t : Nat → Int32) (u : Nat → Int32) (z : Int32) (hL : L < 80) : rcV l E yX2_write cX2_write 2 0 [.ref d, .int z] [(d, .inr (1, [.ref ch, .ref nu, .int (nI L), .int a, .int b, .int le, .int co, .int mi])), (ch, .inl (E.2.2.1, 80, .inl t)), (nu, .inl (E.2.1, 4, .inl u))] [(d, .inr (1, [.ref ch, .ref nu, .int (nI (L + 1)), .int a, .int b, .int le, .int co, .int mi])), (ch, .inl (E.2.2.1, 80, .inl (upd t L (vp_nar .char z)))), (nu, .inl (E.2.1, 4, .inl u))] := by
  refine rcV_of (by decide) (Nat.le_of_ble_eq_true rfl) ?_
  intro pg e s m below meth c Q A ls S hP hD0 hE hA hl hret
  have hx := S.1
  have hb := S.2.1
  have hown := S.2.2.2.1
  have hts := S.2.2.2.2
  have hK := hE.1
  have hS : va_S A s.heap s.heap [] := va_S.rf
  have hDa : va_Da A [d, ch, nu] := ⟨_, hD0, rfl⟩
  have hl : lv_has ls 2 [(0, .ref d), (1, .int z)] := hl
  refine lv_aload_n hx hb dX2_write_0 rfl (lv_at hl 0 rfl) ?_
  refine va_get (D := E.1) (ci := 1) (v := .int (nI L)) (C := RX2) (T := TX2) (N := 8) hx hb hts inb_X2 hown hK hP 0 rfl rfl 2 (by decide) (hts _ bw_105) (fun _ h9 => h9) rfl dX2_write_1 ?_
  refine lv_if_lt (tgt := 39) hx hb dX2_write_4 (by decide) (fun c9 => absurd c9 (nI_pos (by omega))) (fun _ => ?_)
  refine lv_aload_n hx hb dX2_write_7 rfl (lv_at hl 0 rfl) ?_
  refine va_get (D := E.1) (ci := 1) (v := .int (nI L)) (C := RX2) (T := TX2) (N := 8) hx hb hts inb_X2 hown hK hP 0 rfl rfl 2 (by decide) (hts _ bw_105) (fun _ h9 => h9) rfl dX2_write_8 ?_
  refine lv_aload_n hx hb dX2_write_11 rfl (lv_at hl 0 rfl) ?_
  refine va_get (D := E.1) (ci := 1) (v := .ref ch) (C := RX2) (T := TX2) (N := 8) hx hb hts inb_X2 hown hK hP 0 rfl rfl 0 (by decide) (hts _ bw_103) (fun _ h9 => h9) rfl dX2_write_12 ?_
  refine va_alen (v := nI 80) hx hb hK hP 1 1 rfl rfl rfl dX2_write_15 ?_
  refine rn_icmp_ge (a := L) (b := 80) (tgt := 39) hx hb (by omega) (by omega) dX2_write_16 (by decide) (fun c_1 => absurd c_1 (by omega)) (fun c_1 => ?_)
  refine lv_aload_n hx hb dX2_write_19 rfl (lv_at hl 0 rfl) ?_
  refine va_get (D := E.1) (ci := 1) (v := .ref ch) (C := RX2) (T := TX2) (N := 8) hx hb hts inb_X2 hown hK hP 0 rfl rfl 0 (by decide) (hts _ bw_103) (fun _ h9 => h9) rfl dX2_write_20 ?_
  refine lv_aload_n hx hb dX2_write_23 rfl (lv_at hl 0 rfl) ?_
  refine va_get (D := E.1) (ci := 1) (v := .int (nI L)) (C := RX2) (T := TX2) (N := 8) hx hb hts inb_X2 hown hK hP 0 rfl rfl 2 (by decide) (hts _ bw_105) (fun _ h9 => h9) rfl dX2_write_24 ?_
  refine lv_iload_n hx hb dX2_write_27 rfl (lv_at hl 1 rfl) ?_
  refine rn_cast (i := L) hx hb hK hP (hDa.to rfl) hS 1 1 rfl rfl (by omega) (by omega) dX2_write_28 (fun H locs hP _ hS => ?_)
  have hP : va_P E.1 vwCl [(d, .inr (1, [.ref ch, .ref nu, .int (nI L), .int a, .int b, .int le, .int co, .int mi])), (ch, .inl (E.2.2.1, 80, .inl (upd t L (vp_nar .char z)))), (nu, .inl (E.2.1, 4, .inl u))] H := hP
  refine lv_aload_n hx hb dX2_write_29 rfl (lv_at hl 0 rfl) ?_
  refine lv_dup hx hb dX2_write_30 rfl ?_
  refine va_get (D := E.1) (ci := 1) (v := .int (nI L)) (C := RX2) (T := TX2) (N := 8) hx hb hts inb_X2 hown hK hP 0 rfl rfl 2 (by decide) (hts _ bw_105) (fun _ h9 => h9) rfl dX2_write_31 ?_
  refine lv_iconst (v := nI 1) hx hb dX2_write_34 (by decide) ?_
  refine rn_add (a := L) (b := 1) hx hb dX2_write_35 ?_
  refine va_put (D := E.1) (ci := 1) (v := .int (nI (L + 1))) (ty := .int) (C := RX2) (T := TX2) (N := 8) hx hb hts inb_X2 tyX2 tyX2_ok nmX2 hown hK hP (hDa.to rfl) hS 0 rfl rfl 2 (by decide) (hts _ bw_105) (fun _ h9 => h9) rfl (by decide +kernel) rfl rfl (Nat.le_of_ble_eq_true rfl) dX2_write_36 (fun H locs hP _ hS => ?_)
  have hP : va_P E.1 vwCl [(d, .inr (1, [.ref ch, .ref nu, .int (nI (L + 1)), .int a, .int b, .int le, .int co, .int mi])), (ch, .inl (E.2.2.1, 80, .inl (upd t L (vp_nar .char z)))), (nu, .inl (E.2.1, 4, .inl u))] H := hP
  exact hret _ _ _ _ _ rfl hP hS dX2_write_39

def pkR (z : Int64) : Nat → Int64
  | 0 => z
  | k + 1 => ((pkR z k).toUInt64 >>> ((nI 8).toInt64.toUInt64 &&& Int64.toUInt64 63)).toInt64
def pkB (z : Int64) (k : Nat) : Int32 := isW ((pkR z k) &&& 255).toInt32 (nI 33) (nI 126)
def cInK (z : Int64) : Nat := ffz (pkB z) 8
def cInN (z : Int64) : Nat := if lg_cmp (pkR z (cInK z)) 0 = 0 then cInK z else 0
theorem ff_le (P : Nat → Bool) : ∀ n, ff P n ≤ n
  | 0 => Nat.le_of_eq (by rw [ff])
  | n + 1 => by
    have h := ff_le P n
    rw [ff]
    split
    · omega
    · split <;> omega
theorem ffz_le (x : Nat → Int32) (n : Nat) : ffz x n ≤ n := ff_le _ n
theorem cInK_le (z : Int64) : cInK z ≤ 8 := ffz_le _ _
theorem cInN_le (z : Int64) : cInN z ≤ 8 := by
  have h := cInK_le z
  rw [cInN]
  by_cases c : lg_cmp (pkR z (cInK z)) 0 = 0
  · rw [if_pos c]; exact h
  · rw [if_neg c]; omega
theorem cd_X2_charactersIn : cdS yX2_charactersIn cX2_charactersIn 5 (some .int) 1 := ⟨⟨bw_529, bw_61, by decide, by decide, by decide +kernel⟩, bw_528⟩
set_option maxHeartbeats 4000000 in
set_option maxRecDepth 100000 in
theorem c_X2_charactersIn (l : Launch) (E : EV) (z : Int64)  : rcI l E yX2_charactersIn cX2_charactersIn 5 .int 1 [.long z] [] (nI (cInN z)) [] := by
  refine rcI_of (by decide) (Nat.le_of_ble_eq_true rfl) ?_
  intro pg e s m below meth c Q A ls S hP hD0 hE hA hl hret
  have hx := S.1
  have hb := S.2.1
  have hown := S.2.2.2.1
  have hts := S.2.2.2.2
  have hK := hE.1
  have hS : va_S A s.heap s.heap [] := va_S.rf
  have hDa : va_Da A [] := ⟨_, hD0, rfl⟩
  have hl : lv_has ls 5 [(0, .long z)] := hl
  refine lv_lload_n hx hb dX2_charactersIn_0 rfl (lv_at hl 0 rfl) ?_
  refine lv_lstore_n (lv' := [(2, .long z), (0, .long z)]) hx hb dX2_charactersIn_1 rfl hl (by decide) rfl (fun ls hl => ?_)
  refine lv_iconst (v := nI 0) hx hb dX2_charactersIn_2 (by decide) ?_
  refine lv_istore (lv' := [(4, .int (nI 0)), (2, .long z), (0, .long z)]) hx hb dX2_charactersIn_3 hl (by decide) rfl (fun ls hl => ?_)
  have loop5 : ∀ (fuel : Nat) (k : Nat), 8 - k < fuel → (k ≤ 8) → (∀ i, i < k → ¬ pkB z i = 0) → ∀ (H : Heap) (locs : List Loc), va_P E.1 vwCl [] H → va_S A s.heap H locs → ∀ ls : Array Slot, lv_has ls 5 [(4, .int (nI k)), (2, .long (pkR z k)), (0, .long z)] → W pg l e (rq 1) s m ([.long z] : List Value).toArray below meth c H locs 0 0 Q (F0 m 5 ls []) := by
    intro fuel
    induction fuel with
    | zero => intro k h9; exact absurd h9 (Nat.not_lt_zero _)
    | succ fuel ih5 =>
      intro k hfu5 hk hall H locs hP hS ls hl
      refine lv_iload hx hb dX2_charactersIn_5 (lv_at hl 0 rfl) ?_
      refine lv_bipush (v := nI 8) hx hb dX2_charactersIn_7 (by decide) ?_
      refine rn_icmp_ge (a := k) (b := 8) (tgt := 39) hx hb (by omega) (by omega) dX2_charactersIn_9 (by decide) (fun c_1 => ?_) (fun c_1 => ?_)
      · have hk9 : cInK z = k := by first | exact ffz_at hall c_1 (by omega) | (have e9 : k = 8 := (by omega); subst e9; exact ffz_no hall)
        refine lv_lload_n hx hb dX2_charactersIn_39 rfl (lv_at hl 1 rfl) ?_
        refine lv_lconst (v := 0) hx hb dX2_charactersIn_40 (by decide) ?_
        refine W.lcmp hx hb dX2_charactersIn_41 ?_
        refine lv_if_ne (tgt := 50) hx hb dX2_charactersIn_42 (by decide) (fun c_2 => ?_) (fun c_2 => ?_)
        · refine lv_iconst (v := nI 0) hx hb dX2_charactersIn_50 (by decide) ?_
          exact hret _ _ _ _ _ _ (by first | rw [cInN, hk9, if_pos c_2] | rw [cInN, hk9, if_neg c_2]) rfl rfl hP hS dX2_charactersIn_51
        · refine lv_iload hx hb dX2_charactersIn_45 (lv_at hl 0 rfl) ?_
          refine lv_goto (tgt := 51) hx hb dX2_charactersIn_47 (by decide) ?_
          exact hret _ _ _ _ _ _ (by first | rw [cInN, hk9, if_pos c_2] | rw [cInN, hk9, if_neg c_2]) rfl rfl hP hS dX2_charactersIn_51
      · refine lv_lload_n hx hb dX2_charactersIn_12 rfl (lv_at hl 1 rfl) ?_
        refine lv_ldc2 (own := RX2) (v := 255) hx hb hown (hts _ bw_530) dX2_charactersIn_13 ?_
        refine lv_land hx hb dX2_charactersIn_16 ?_
        refine lv_l2i hx hb dX2_charactersIn_17 rfl ?_
        refine lv_bipush (v := nI 33) hx hb dX2_charactersIn_18 (by decide) ?_
        refine lv_bipush (v := nI 126) hx hb dX2_charactersIn_20 (by decide) ?_
        refine rwN3 (rest := []) S (c_X7_isWithin l E (((pkR z k) &&& 255).toInt32) (nI 33) (nI 126)) cd_X7_isWithin hE.2.1.2.2.2.2.2.2.1 ⟨Nat.le_of_ble_eq_true rfl, Nat.le_of_ble_eq_true rfl⟩ ⟨Nat.zero_le _, Nat.zero_le _⟩ hP (hDa.to rfl) hE hA hS [] rfl rfl [] rfl rfl (Nat.le_of_ble_eq_true rfl) hl.1 dX2_charactersIn_22 (fun H locs hP _ hS => ?_)
        have hP : va_P E.1 vwCl [] H := hP
        refine lv_if_eq (tgt := 39) hx hb dX2_charactersIn_25 (by decide) (fun c_3 => ?_) (fun c_3 => ?_)
        · have hk9 : cInK z = k := by first | exact ffz_at hall c_3 (by omega) | (have e9 : k = 8 := (by omega); subst e9; exact ffz_no hall)
          refine lv_lload_n hx hb dX2_charactersIn_39 rfl (lv_at hl 1 rfl) ?_
          refine lv_lconst (v := 0) hx hb dX2_charactersIn_40 (by decide) ?_
          refine W.lcmp hx hb dX2_charactersIn_41 ?_
          refine lv_if_ne (tgt := 50) hx hb dX2_charactersIn_42 (by decide) (fun c_4 => ?_) (fun c_4 => ?_)
          · refine lv_iconst (v := nI 0) hx hb dX2_charactersIn_50 (by decide) ?_
            exact hret _ _ _ _ _ _ (by first | rw [cInN, hk9, if_pos c_4] | rw [cInN, hk9, if_neg c_4]) rfl rfl hP hS dX2_charactersIn_51
          · refine lv_iload hx hb dX2_charactersIn_45 (lv_at hl 0 rfl) ?_
            refine lv_goto (tgt := 51) hx hb dX2_charactersIn_47 (by decide) ?_
            exact hret _ _ _ _ _ _ (by first | rw [cInN, hk9, if_pos c_4] | rw [cInN, hk9, if_neg c_4]) rfl rfl hP hS dX2_charactersIn_51
        · refine lv_lload_n hx hb dX2_charactersIn_28 rfl (lv_at hl 1 rfl) ?_
          refine lv_bipush (v := nI 8) hx hb dX2_charactersIn_29 (by decide) ?_
          refine lv_lushr hx hb dX2_charactersIn_31 rfl ?_
          refine lv_lstore_n (lv' := [(2, .long (((pkR z k).toUInt64 >>> ((nI 8).toInt64.toUInt64 &&& Int64.toUInt64 63)).toInt64)), (4, .int (nI k)), (0, .long z)]) hx hb dX2_charactersIn_32 rfl hl (by decide) rfl (fun ls hl => ?_)
          refine rn_inc (a := k) (d := 1) (lv' := [(4, .int (nI (k + 1))), (2, .long (((pkR z k).toUInt64 >>> ((nI 8).toInt64.toUInt64 &&& Int64.toUInt64 63)).toInt64)), (0, .long z)]) hx hb dX2_charactersIn_33 hl (k := 1) rfl (by decide) (by decide) rfl (fun ls hl => ?_)
          refine lv_goto (tgt := 5) hx hb dX2_charactersIn_36 (by decide) ?_
          have hl : lv_has ls 5 [(4, .int (nI (k + 1))), (2, .long (pkR z (k + 1))), (0, .long z)] := lv_sub hl [0, 1, 2] rfl
          exact ih5 (k + 1) (by omega) (by omega) (lt_s hall c_3) _ _ hP hS _ hl
  have hl : lv_has ls 5 [(4, .int (nI 0)), (2, .long (pkR z 0)), (0, .long z)] := lv_sub hl [0, 1, 2] rfl
  exact loop5 _ 0 (Nat.lt_succ_self _) (by omega) (fun i h9 => absurd h9 (Nat.not_lt_zero i)) _ _ hP hS _ hl

def chrC (z : Int64) (j : Nat) : Int32 := ((((z.toUInt64 >>> ((nI (8 * j)).toInt64.toUInt64 &&& Int64.toUInt64 63)).toInt64) &&& 255).toInt32.toUInt32 % 65536).toInt32
/-- m of n characters put behind L -/
def apT (t : Nat → Int32) (L : Nat) (z : Int64) (n : Nat) : Nat → Nat → Int32
  | 0 => t
  | m + 1 => upd (apT t L z n m) (L + m) (vp_nar .char (chrC z (n - m - 1)))
def apV (L : Nat) (z : Int64) : Int32 := if cInN z = 0 then -2 else if L + cInN z ≤ 80 then nI (L + cInN z) else -4
def apL (L : Nat) (z : Int64) : Nat := if cInN z = 0 then L else if L + cInN z ≤ 80 then L + cInN z else L
def apW (t : Nat → Int32) (L : Nat) (z : Int64) : Nat → Int32 := if cInN z = 0 then t else if L + cInN z ≤ 80 then apT t L z (cInN z) (cInN z) else t
theorem i32_m1 (x : Int32) : x - nI 1 = x + -1 := by rw [Int32.sub_eq_add_neg]; rfl
theorem i32_ge1 {j : Nat} (hj : j < 2 ^ 31) (h : ¬ nI j - nI 1 < 0) : 0 < j := by
  rcases Nat.eq_zero_or_pos j with e | e
  · subst e; exact absurd (by decide) h
  · exact e
theorem i32_lt1 {j : Nat} (hj : j < 2 ^ 31) (h : nI j - nI 1 < 0) : j = 0 := by
  rcases Nat.eq_zero_or_pos j with e | e
  · exact e
  · rw [pk_sub e] at h; exact absurd h (nI_pos (by omega))
theorem cd_X2_append : cdV RX2 yX2_append cX2_append 5 (some .int) 1 := ⟨⟨bw_526, bw_61, by decide, by decide, by decide +kernel⟩, bw_524, bw_525⟩
set_option maxHeartbeats 4000000 in
set_option maxRecDepth 100000 in
theorem c_X2_append (l : Launch) (E : EV) (d : Nat) (ch : Nat) (nu : Nat) (L : Nat) (a : Int32) (b : Int32) (le : Int32) (co : Int32) (mi : Int32) (t : Nat → Int32) (u : Nat → Int32) (z : Int64) (hL : L ≤ 80) : rcI l E yX2_append cX2_append 5 .int 2 [.ref d, .long z] [(d, .inr (1, [.ref ch, .ref nu, .int (nI L), .int a, .int b, .int le, .int co, .int mi])), (ch, .inl (E.2.2.1, 80, .inl t)), (nu, .inl (E.2.1, 4, .inl u))] (apV L z) [(d, .inr (1, [.ref ch, .ref nu, .int (nI (apL L z)), .int a, .int b, .int le, .int co, .int mi])), (ch, .inl (E.2.2.1, 80, .inl (apW t L z))), (nu, .inl (E.2.1, 4, .inl u))] := by
  refine rcI_of (by decide) (Nat.le_of_ble_eq_true rfl) ?_
  intro pg e s m below meth c Q A ls S hP hD0 hE hA hl hret
  have hx := S.1
  have hb := S.2.1
  have hown := S.2.2.2.1
  have hts := S.2.2.2.2
  have hK := hE.1
  have hS : va_S A s.heap s.heap [] := va_S.rf
  have hDa : va_Da A [d, ch, nu] := ⟨_, hD0, rfl⟩
  have hl : lv_has ls 5 [(0, .ref d), (1, .long z)] := hl
  have hcz := cInN_le z
  refine lv_lload_n hx hb dX2_append_0 rfl (lv_at hl 1 rfl) ?_
  refine rwS1 (rest := []) S (c_X2_charactersIn l E z) cd_X2_charactersIn bw_527 ⟨Nat.le_of_ble_eq_true rfl, Nat.le_of_ble_eq_true rfl⟩ ⟨Nat.zero_le _, Nat.zero_le _⟩ hP (hDa.to rfl) hE hA hS [] rfl rfl [] rfl rfl (Nat.le_of_ble_eq_true rfl) hl.1 dX2_append_1 (fun H locs hP _ hS => ?_)
  have hP : va_P E.1 vwCl [(d, .inr (1, [.ref ch, .ref nu, .int (nI L), .int a, .int b, .int le, .int co, .int mi])), (ch, .inl (E.2.2.1, 80, .inl t)), (nu, .inl (E.2.1, 4, .inl u))] H := hP
  generalize hcn : cInN z = n9 at hcz ⊢
  refine lv_istore_n (lv' := [(3, .int (nI n9)), (0, .ref d), (1, .long z)]) hx hb dX2_append_4 rfl hl (by decide) rfl (fun ls hl => ?_)
  refine lv_iload_n hx hb dX2_append_5 rfl (lv_at hl 0 rfl) ?_
  refine rn_if_ne (a := n9) (tgt := 12) hx hb (by omega) dX2_append_6 (by decide) (fun c_1 => ?_) (fun c_1 => ?_)
  · refine lv_aload_n hx hb dX2_append_12 rfl (lv_at hl 1 rfl) ?_
    refine va_get (D := E.1) (ci := 1) (v := .int (nI L)) (C := RX2) (T := TX2) (N := 8) hx hb hts inb_X2 hown hK hP 0 rfl rfl 2 (by decide) (hts _ bw_105) (fun _ h9 => h9) rfl dX2_append_13 ?_
    refine lv_iload_n hx hb dX2_append_16 rfl (lv_at hl 0 rfl) ?_
    refine rn_add (a := L) (b := n9) hx hb dX2_append_17 ?_
    refine lv_bipush (v := nI 80) hx hb dX2_append_18 (by decide) ?_
    refine rn_icmp_le (a := L + n9) (b := 80) (tgt := 26) hx hb (by omega) (by omega) dX2_append_20 (by decide) (fun c_2 => ?_) (fun c_2 => ?_)
    · refine lv_iload_n hx hb dX2_append_26 rfl (lv_at hl 0 rfl) ?_
      refine lv_iconst (v := nI 1) hx hb dX2_append_27 (by decide) ?_
      refine rn_sub (a := n9) (b := 1) hx hb dX2_append_28 (by omega) ?_
      refine lv_istore (lv' := [(4, .int (nI (n9 - 1))), (3, .int (nI n9)), (0, .ref d), (1, .long z)]) hx hb dX2_append_29 hl (by decide) rfl (fun ls hl => ?_)
      have loop31 : ∀ (fuel : Nat) (m9 : Nat), n9 - m9 < fuel → (m9 ≤ n9) → ∀ (H : Heap) (locs : List Loc), va_P E.1 vwCl [(d, .inr (1, [.ref ch, .ref nu, .int (nI (L + m9)), .int a, .int b, .int le, .int co, .int mi])), (ch, .inl (E.2.2.1, 80, .inl (apT t L z n9 m9))), (nu, .inl (E.2.1, 4, .inl u))] H → va_S A s.heap H locs → ∀ ls : Array Slot, lv_has ls 5 [(4, .int (nI (n9 - m9) - nI 1)), (3, .int (nI n9)), (0, .ref d), (1, .long z)] → W pg l e (rq 2) s m ([.ref d, .long z] : List Value).toArray below meth c H locs 0 0 Q (F0 m 31 ls []) := by
        intro fuel
        induction fuel with
        | zero => intro m9 h9; exact absurd h9 (Nat.not_lt_zero _)
        | succ fuel ih31 =>
          intro m9 hfu31 hm H locs hP hS ls hl
          refine lv_iload hx hb dX2_append_31 (lv_at hl 0 rfl) ?_
          refine lv_if_lt (tgt := 59) hx hb dX2_append_33 (by decide) (fun c_3 => ?_) (fun c_3 => ?_)
          · have hm9 : m9 = n9 := (by have e9 := i32_lt1 (by omega) c_3; omega)
            refine lv_aload_n hx hb dX2_append_59 rfl (lv_at hl 2 rfl) ?_
            refine va_get (D := E.1) (ci := 1) (v := .int (nI (L + m9))) (C := RX2) (T := TX2) (N := 8) hx hb hts inb_X2 hown hK hP 0 rfl rfl 2 (by decide) (hts _ bw_105) (fun _ h9 => h9) rfl dX2_append_60 ?_
            exact hret _ _ _ _ _ _ (by rw [apV, hcn, if_neg c_1, if_pos c_2, hm9]) (by rw [apL, apW, hcn, if_neg c_1, if_pos c_2, if_neg c_1, if_pos c_2, hm9]) rfl hP hS dX2_append_63
          · have hp9 := i32_ge1 (by omega) c_3
            have hl : lv_has ls 5 [(4, .int (nI (n9 - m9 - 1))), (3, .int (nI n9)), (0, .ref d), (1, .long z)] := by rw [show nI (n9 - m9) - nI 1 = nI (n9 - m9 - 1) from pk_sub hp9] at hl; exact hl
            refine lv_aload_n hx hb dX2_append_36 rfl (lv_at hl 2 rfl) ?_
            refine lv_lload_n hx hb dX2_append_37 rfl (lv_at hl 3 rfl) ?_
            refine lv_bipush (v := nI 8) hx hb dX2_append_38 (by decide) ?_
            refine lv_iload hx hb dX2_append_40 (lv_at hl 0 rfl) ?_
            refine rn_mul (a := 8) (b := n9 - m9 - 1) hx hb dX2_append_42 ?_
            refine lv_lushr hx hb dX2_append_43 rfl ?_
            refine lv_ldc2 (own := RX2) (v := 255) hx hb hown (hts _ bw_530) dX2_append_44 ?_
            refine lv_land hx hb dX2_append_47 ?_
            refine lv_l2i hx hb dX2_append_48 rfl ?_
            refine lv_i2c hx hb dX2_append_49 rfl ?_
            refine rwVv1 (rest := []) S (c_X2_write l E d ch nu (L + m9) a b le co mi (apT t L z n9 m9) u ((((((z.toUInt64 >>> ((nI (8 * (n9 - m9 - 1))).toInt64.toUInt64 &&& Int64.toUInt64 63)).toInt64) &&& 255).toInt32).toUInt32 % 65536).toInt32) (by omega)) cd_X2_write bw_532 ⟨Nat.le_of_ble_eq_true rfl, Nat.le_of_ble_eq_true rfl⟩ ⟨Nat.zero_le _, Nat.zero_le _⟩ hP (hDa.to rfl) hE hA hS [0, 1, 2] rfl rfl [d, ch, nu] rfl rfl (ci := 1) rfl (q0 := 0) rfl (Nat.le_of_ble_eq_true rfl) hl.1 dX2_append_50 (fun H locs hP _ hS => ?_)
            have hP : va_P E.1 vwCl [(d, .inr (1, [.ref ch, .ref nu, .int (nI ((L + m9) + 1)), .int a, .int b, .int le, .int co, .int mi])), (ch, .inl (E.2.2.1, 80, .inl (upd (apT t L z n9 m9) (L + m9) (vp_nar .char ((((((z.toUInt64 >>> ((nI (8 * (n9 - m9 - 1))).toInt64.toUInt64 &&& Int64.toUInt64 63)).toInt64) &&& 255).toInt32).toUInt32 % 65536).toInt32))))), (nu, .inl (E.2.1, 4, .inl u))] H := hP
            refine lv_iinc (v := nI (n9 - m9 - 1) + (-1)) (lv' := [(4, .int (nI (n9 - m9 - 1) + (-1))), (3, .int (nI n9)), (0, .ref d), (1, .long z)]) hx hb dX2_append_53 hl (k := 0) rfl (by rfl) (by decide) rfl (fun ls hl => ?_)
            refine lv_goto (tgt := 31) hx hb dX2_append_56 (by decide) ?_
            have hP : va_P E.1 vwCl [(d, .inr (1, [.ref ch, .ref nu, .int (nI (L + (m9 + 1))), .int a, .int b, .int le, .int co, .int mi])), (ch, .inl (E.2.2.1, 80, .inl (apT t L z n9 (m9 + 1)))), (nu, .inl (E.2.1, 4, .inl u))] H := by exact hP
            have hl : lv_has ls 5 [(4, .int (nI (n9 - m9 - 1) + (-1))), (3, .int (nI n9)), (0, .ref d), (1, .long z)] := lv_sub hl [0, 1, 2, 3] rfl
            have hl : lv_has ls 5 [(4, .int (nI (n9 - (m9 + 1)) - nI 1)), (3, .int (nI n9)), (0, .ref d), (1, .long z)] := by rw [show n9 - (m9 + 1) = n9 - m9 - 1 by omega, i32_m1]; exact hl
            exact ih31 (m9 + 1) (by omega) (by omega) _ _ hP hS _ hl
      have hP : va_P E.1 vwCl [(d, .inr (1, [.ref ch, .ref nu, .int (nI (L + 0)), .int a, .int b, .int le, .int co, .int mi])), (ch, .inl (E.2.2.1, 80, .inl (apT t L z n9 0))), (nu, .inl (E.2.1, 4, .inl u))] H := by exact hP
      have hl : lv_has ls 5 [(4, .int (nI (n9 - 1))), (3, .int (nI n9)), (0, .ref d), (1, .long z)] := lv_sub hl [0, 1, 2, 3] rfl
      have hl : lv_has ls 5 [(4, .int (nI (n9 - 0) - nI 1)), (3, .int (nI n9)), (0, .ref d), (1, .long z)] := by rw [Nat.sub_zero, pk_sub (by omega)]; exact hl
      exact loop31 _ 0 (Nat.lt_succ_self _) (by omega) _ _ hP hS _ hl
    · refine lv_bipush (v := (-4)) hx hb dX2_append_23 (by decide) ?_
      exact hret _ _ _ _ _ _ (by rw [apV, hcn, if_neg c_1, if_neg c_2]) (by rw [apL, apW, hcn, if_neg c_1, if_neg c_2, if_neg c_1, if_neg c_2]) rfl hP hS dX2_append_25
  · refine lv_bipush (v := (-2)) hx hb dX2_append_9 (by decide) ?_
    exact hret _ _ _ _ _ _ (by rw [apV, hcn, if_pos c_1]) (by rw [apL, apW, hcn, if_pos c_1, if_pos c_1]) rfl hP hS dX2_append_11

def fIx (x : Int32) : Nat := if x = nI 97 then 6 else if x = nI 99 then 5 else if x = nI 107 then 7 else if x = nI 108 then 1 else if x = nI 109 then 3 else if x = nI 112 then 4 else if x = nI 115 then 0 else if x = nI 119 then 2 else 8
theorem fIx_lt (x : Int32) : fIx x < 9 := by
  unfold fIx
  repeat' split
  all_goals decide
theorem cd_X2_formOf : cdS yX2_formOf cX2_formOf 1 (some (.object "java/lang/String")) 1 := ⟨⟨bw_570, bw_61, by decide, by decide, by decide +kernel⟩, bw_569⟩
set_option maxHeartbeats 4000000 in
set_option maxRecDepth 100000 in
theorem c_X2_formOf (l : Launch) (E : EV) (x : Int32)  : rcR l E yX2_formOf cX2_formOf 1 (.object "java/lang/String") 0 [.int x] [] (E.2.2.2.1 (fIx x)) [] := by
  refine rcR_of (by decide) (Nat.le_of_ble_eq_true rfl) (Or.inl ⟨_, rfl⟩) ?_
  intro pg e s m below meth c Q A ls S hP hD0 hE hA hl hret
  have hx := S.1
  have hb := S.2.1
  have hown := S.2.2.2.1
  have hts := S.2.2.2.2
  have hK := hE.1
  have hS : va_S A s.heap s.heap [] := va_S.rf
  have hDa : va_Da A [] := ⟨_, hD0, rfl⟩
  have hl : lv_has ls 1 [(0, .int x)] := hl
  refine lv_iload_n hx hb dX2_formOf_0 rfl (lv_at hl 0 rfl) ?_
  by_cases c_1 : x = nI 97
  · refine lv_tableIn (tgt := 126) hx hb dX2_formOf_1 (by rw [c_1]; decide) (by rw [c_1]; decide) (by rw [c_1]; rfl) (by decide) ?_
    refine va_ldcS hx hb hown (hE.2.2.1 6 (by decide)) dX2_formOf_126 ?_
    exact hret _ _ _ _ _ _ (by rw [c_1]; exact congrArg _ (by decide)) rfl hP hS dX2_formOf_128
  by_cases c_2 : x = nI 98
  · refine lv_tableIn (tgt := 132) hx hb dX2_formOf_1 (by rw [c_2]; decide) (by rw [c_2]; decide) (by rw [c_2]; rfl) (by decide) ?_
    refine va_ldcS hx hb hown (hE.2.2.1 8 (by decide)) dX2_formOf_132 ?_
    exact hret _ _ _ _ _ _ (by rw [c_2]; exact congrArg _ (by decide)) rfl hP hS dX2_formOf_134
  by_cases c_3 : x = nI 99
  · refine lv_tableIn (tgt := 123) hx hb dX2_formOf_1 (by rw [c_3]; decide) (by rw [c_3]; decide) (by rw [c_3]; rfl) (by decide) ?_
    refine va_ldcS hx hb hown (hE.2.2.1 5 (by decide)) dX2_formOf_123 ?_
    exact hret _ _ _ _ _ _ (by rw [c_3]; exact congrArg _ (by decide)) rfl hP hS dX2_formOf_125
  by_cases c_4 : x = nI 100
  · refine lv_tableIn (tgt := 132) hx hb dX2_formOf_1 (by rw [c_4]; decide) (by rw [c_4]; decide) (by rw [c_4]; rfl) (by decide) ?_
    refine va_ldcS hx hb hown (hE.2.2.1 8 (by decide)) dX2_formOf_132 ?_
    exact hret _ _ _ _ _ _ (by rw [c_4]; exact congrArg _ (by decide)) rfl hP hS dX2_formOf_134
  by_cases c_5 : x = nI 101
  · refine lv_tableIn (tgt := 132) hx hb dX2_formOf_1 (by rw [c_5]; decide) (by rw [c_5]; decide) (by rw [c_5]; rfl) (by decide) ?_
    refine va_ldcS hx hb hown (hE.2.2.1 8 (by decide)) dX2_formOf_132 ?_
    exact hret _ _ _ _ _ _ (by rw [c_5]; exact congrArg _ (by decide)) rfl hP hS dX2_formOf_134
  by_cases c_6 : x = nI 102
  · refine lv_tableIn (tgt := 132) hx hb dX2_formOf_1 (by rw [c_6]; decide) (by rw [c_6]; decide) (by rw [c_6]; rfl) (by decide) ?_
    refine va_ldcS hx hb hown (hE.2.2.1 8 (by decide)) dX2_formOf_132 ?_
    exact hret _ _ _ _ _ _ (by rw [c_6]; exact congrArg _ (by decide)) rfl hP hS dX2_formOf_134
  by_cases c_7 : x = nI 103
  · refine lv_tableIn (tgt := 132) hx hb dX2_formOf_1 (by rw [c_7]; decide) (by rw [c_7]; decide) (by rw [c_7]; rfl) (by decide) ?_
    refine va_ldcS hx hb hown (hE.2.2.1 8 (by decide)) dX2_formOf_132 ?_
    exact hret _ _ _ _ _ _ (by rw [c_7]; exact congrArg _ (by decide)) rfl hP hS dX2_formOf_134
  by_cases c_8 : x = nI 104
  · refine lv_tableIn (tgt := 132) hx hb dX2_formOf_1 (by rw [c_8]; decide) (by rw [c_8]; decide) (by rw [c_8]; rfl) (by decide) ?_
    refine va_ldcS hx hb hown (hE.2.2.1 8 (by decide)) dX2_formOf_132 ?_
    exact hret _ _ _ _ _ _ (by rw [c_8]; exact congrArg _ (by decide)) rfl hP hS dX2_formOf_134
  by_cases c_9 : x = nI 105
  · refine lv_tableIn (tgt := 132) hx hb dX2_formOf_1 (by rw [c_9]; decide) (by rw [c_9]; decide) (by rw [c_9]; rfl) (by decide) ?_
    refine va_ldcS hx hb hown (hE.2.2.1 8 (by decide)) dX2_formOf_132 ?_
    exact hret _ _ _ _ _ _ (by rw [c_9]; exact congrArg _ (by decide)) rfl hP hS dX2_formOf_134
  by_cases c_10 : x = nI 106
  · refine lv_tableIn (tgt := 132) hx hb dX2_formOf_1 (by rw [c_10]; decide) (by rw [c_10]; decide) (by rw [c_10]; rfl) (by decide) ?_
    refine va_ldcS hx hb hown (hE.2.2.1 8 (by decide)) dX2_formOf_132 ?_
    exact hret _ _ _ _ _ _ (by rw [c_10]; exact congrArg _ (by decide)) rfl hP hS dX2_formOf_134
  by_cases c_11 : x = nI 107
  · refine lv_tableIn (tgt := 129) hx hb dX2_formOf_1 (by rw [c_11]; decide) (by rw [c_11]; decide) (by rw [c_11]; rfl) (by decide) ?_
    refine va_ldcS hx hb hown (hE.2.2.1 7 (by decide)) dX2_formOf_129 ?_
    exact hret _ _ _ _ _ _ (by rw [c_11]; exact congrArg _ (by decide)) rfl hP hS dX2_formOf_131
  by_cases c_12 : x = nI 108
  · refine lv_tableIn (tgt := 111) hx hb dX2_formOf_1 (by rw [c_12]; decide) (by rw [c_12]; decide) (by rw [c_12]; rfl) (by decide) ?_
    refine va_ldcS hx hb hown (hE.2.2.1 1 (by decide)) dX2_formOf_111 ?_
    exact hret _ _ _ _ _ _ (by rw [c_12]; exact congrArg _ (by decide)) rfl hP hS dX2_formOf_113
  by_cases c_13 : x = nI 109
  · refine lv_tableIn (tgt := 117) hx hb dX2_formOf_1 (by rw [c_13]; decide) (by rw [c_13]; decide) (by rw [c_13]; rfl) (by decide) ?_
    refine va_ldcS hx hb hown (hE.2.2.1 3 (by decide)) dX2_formOf_117 ?_
    exact hret _ _ _ _ _ _ (by rw [c_13]; exact congrArg _ (by decide)) rfl hP hS dX2_formOf_119
  by_cases c_14 : x = nI 110
  · refine lv_tableIn (tgt := 132) hx hb dX2_formOf_1 (by rw [c_14]; decide) (by rw [c_14]; decide) (by rw [c_14]; rfl) (by decide) ?_
    refine va_ldcS hx hb hown (hE.2.2.1 8 (by decide)) dX2_formOf_132 ?_
    exact hret _ _ _ _ _ _ (by rw [c_14]; exact congrArg _ (by decide)) rfl hP hS dX2_formOf_134
  by_cases c_15 : x = nI 111
  · refine lv_tableIn (tgt := 132) hx hb dX2_formOf_1 (by rw [c_15]; decide) (by rw [c_15]; decide) (by rw [c_15]; rfl) (by decide) ?_
    refine va_ldcS hx hb hown (hE.2.2.1 8 (by decide)) dX2_formOf_132 ?_
    exact hret _ _ _ _ _ _ (by rw [c_15]; exact congrArg _ (by decide)) rfl hP hS dX2_formOf_134
  by_cases c_16 : x = nI 112
  · refine lv_tableIn (tgt := 120) hx hb dX2_formOf_1 (by rw [c_16]; decide) (by rw [c_16]; decide) (by rw [c_16]; rfl) (by decide) ?_
    refine va_ldcS hx hb hown (hE.2.2.1 4 (by decide)) dX2_formOf_120 ?_
    exact hret _ _ _ _ _ _ (by rw [c_16]; exact congrArg _ (by decide)) rfl hP hS dX2_formOf_122
  by_cases c_17 : x = nI 113
  · refine lv_tableIn (tgt := 132) hx hb dX2_formOf_1 (by rw [c_17]; decide) (by rw [c_17]; decide) (by rw [c_17]; rfl) (by decide) ?_
    refine va_ldcS hx hb hown (hE.2.2.1 8 (by decide)) dX2_formOf_132 ?_
    exact hret _ _ _ _ _ _ (by rw [c_17]; exact congrArg _ (by decide)) rfl hP hS dX2_formOf_134
  by_cases c_18 : x = nI 114
  · refine lv_tableIn (tgt := 132) hx hb dX2_formOf_1 (by rw [c_18]; decide) (by rw [c_18]; decide) (by rw [c_18]; rfl) (by decide) ?_
    refine va_ldcS hx hb hown (hE.2.2.1 8 (by decide)) dX2_formOf_132 ?_
    exact hret _ _ _ _ _ _ (by rw [c_18]; exact congrArg _ (by decide)) rfl hP hS dX2_formOf_134
  by_cases c_19 : x = nI 115
  · refine lv_tableIn (tgt := 108) hx hb dX2_formOf_1 (by rw [c_19]; decide) (by rw [c_19]; decide) (by rw [c_19]; rfl) (by decide) ?_
    refine va_ldcS hx hb hown (hE.2.2.1 0 (by decide)) dX2_formOf_108 ?_
    exact hret _ _ _ _ _ _ (by rw [c_19]; exact congrArg _ (by decide)) rfl hP hS dX2_formOf_110
  by_cases c_20 : x = nI 116
  · refine lv_tableIn (tgt := 132) hx hb dX2_formOf_1 (by rw [c_20]; decide) (by rw [c_20]; decide) (by rw [c_20]; rfl) (by decide) ?_
    refine va_ldcS hx hb hown (hE.2.2.1 8 (by decide)) dX2_formOf_132 ?_
    exact hret _ _ _ _ _ _ (by rw [c_20]; exact congrArg _ (by decide)) rfl hP hS dX2_formOf_134
  by_cases c_21 : x = nI 117
  · refine lv_tableIn (tgt := 132) hx hb dX2_formOf_1 (by rw [c_21]; decide) (by rw [c_21]; decide) (by rw [c_21]; rfl) (by decide) ?_
    refine va_ldcS hx hb hown (hE.2.2.1 8 (by decide)) dX2_formOf_132 ?_
    exact hret _ _ _ _ _ _ (by rw [c_21]; exact congrArg _ (by decide)) rfl hP hS dX2_formOf_134
  by_cases c_22 : x = nI 118
  · refine lv_tableIn (tgt := 132) hx hb dX2_formOf_1 (by rw [c_22]; decide) (by rw [c_22]; decide) (by rw [c_22]; rfl) (by decide) ?_
    refine va_ldcS hx hb hown (hE.2.2.1 8 (by decide)) dX2_formOf_132 ?_
    exact hret _ _ _ _ _ _ (by rw [c_22]; exact congrArg _ (by decide)) rfl hP hS dX2_formOf_134
  by_cases c_23 : x = nI 119
  · refine lv_tableIn (tgt := 114) hx hb dX2_formOf_1 (by rw [c_23]; decide) (by rw [c_23]; decide) (by rw [c_23]; rfl) (by decide) ?_
    refine va_ldcS hx hb hown (hE.2.2.1 2 (by decide)) dX2_formOf_114 ?_
    exact hret _ _ _ _ _ _ (by rw [c_23]; exact congrArg _ (by decide)) rfl hP hS dX2_formOf_116
  refine lv_tableOut (tgt := 132) hx hb dX2_formOf_1 (sw_out (lo := 97) (n := 23) ((lt_s (lt_s (lt_s (lt_s (lt_s (lt_s (lt_s (lt_s (lt_s (lt_s (lt_s (lt_s (lt_s (lt_s (lt_s (lt_s (lt_s (lt_s (lt_s (lt_s (lt_s (lt_s (lt_s lt_0 c_1) c_2) c_3) c_4) c_5) c_6) c_7) c_8) c_9) c_10) c_11) c_12) c_13) c_14) c_15) c_16) c_17) c_18) c_19) c_20) c_21) c_22) c_23 : ∀ a, a < 23 → (fun a => ¬ x = nI (97 + a)) a))) (by decide) ?_
  refine va_ldcS hx hb hown (hE.2.2.1 8 (by decide)) dX2_formOf_132 ?_
  exact hret _ _ _ _ _ _ (by rw [fIx, if_neg c_1, if_neg c_3, if_neg c_11, if_neg c_12, if_neg c_13, if_neg c_16, if_neg c_19, if_neg c_23]) rfl hP hS dX2_formOf_134

