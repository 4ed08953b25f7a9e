/-- a shot moved up, and down, d places -/
def mvU (f : Nat → Int32) (p : Nat) : Nat → Nat → Int32
  | 0 => f
  | d + 1 => swN (mvU f p d) (p + d) (p + d + 1) 14
def mvD (f : Nat → Int32) (p : Nat) : Nat → Nat → Int32
  | 0 => f
  | d + 1 => swN (mvD f p d) (p - d) (p - d - 1) 14
theorem cd_X0_moveShot : cdS yX0_moveShot cX0_moveShot 4 (some .int) 3 := ⟨⟨bw_242, bw_10, by decide, by decide, by decide +kernel⟩, bw_241⟩
def cMv (f : Nat → Int32) (n : Nat) (x : Int32) (y : Int32) : Int32 := if hasS n x = 0 then (-1) else if hasS n y = 0 then (-1) else iabs (nI (ix y) - (nI (ix x)))
def cMw (f : Nat → Int32) (n : Nat) (x : Int32) (y : Int32) : Nat → Int32 := if hasS n x = 0 then f else if hasS n y = 0 then f else mvD (mvU f (ix x) ((ix y) - (ix x))) (ix x) ((ix x) - (ix y))
set_option maxHeartbeats 4000000 in
set_option maxRecDepth 100000 in
theorem c_X0_moveShot (l : Launch) (E : EV) (r : Nat) (rc : Nat) (f : Nat → Int32) (n : Nat) (x : Int32) (y : Int32) (hf : f 12 = nI n) (hn : n ≤ 20) : rcI l E yX0_moveShot cX0_moveShot 4 .int 3 [.ref r, .int x, .int y] [(r, .inr (2, [.ref rc])), (rc, .inl (E.2.1, 293, .inl f))] (cMv f n x y) [(r, .inr (2, [.ref rc])), (rc, .inl (E.2.1, 293, .inl (cMw f n x y)))] := by
  refine rcI_of (by decide) (Nat.le_of_ble_eq_true rfl) ?_
  intro pg e s m below meth c Q A ls S hP hD0 hE hA hl hret
  have hx := S.1
  have hb := S.2.1
  have hown := S.2.2.2.1
  have hts := S.2.2.2.2
  have hK := hE.1
  have hS : va_S A s.heap s.heap [] := va_S.rf
  have hDa : va_Da A [r, rc] := ⟨_, hD0, rfl⟩
  have hl : lv_has ls 4 [(0, .ref r), (1, .int x), (2, .int y)] := hl
  refine lv_aload_n hx hb dX0_moveShot_0 rfl (lv_at hl 0 rfl) ?_
  refine lv_iload_n hx hb dX0_moveShot_1 rfl (lv_at hl 1 rfl) ?_
  refine rwV1 (rest := []) S (c_X3_hasShot l E r rc f n x hf) cd_X3_hasShot bw_221 ⟨Nat.le_of_ble_eq_true rfl, Nat.le_of_ble_eq_true rfl⟩ ⟨Nat.zero_le _, Nat.zero_le _⟩ hP (hDa.to rfl) hE hA hS [0, 1] rfl rfl [r, rc] rfl rfl (ci := 2) rfl (q0 := 0) rfl (Nat.le_of_ble_eq_true rfl) hl.1 dX0_moveShot_2 (fun H locs hP _ hS => ?_)
  have hP : va_P E.1 vwCl [(r, .inr (2, [.ref rc])), (rc, .inl (E.2.1, 293, .inl f))] H := hP
  refine lv_if_eq (tgt := 16) hx hb dX0_moveShot_5 (by decide) (fun c_1 => ?_) (fun c_1 => ?_)
  · refine lv_iconst (v := (-1)) hx hb dX0_moveShot_16 (by decide) ?_
    exact hret _ _ _ _ _ _ (by rw [cMv, if_pos c_1]) (by rw [cMw, if_pos c_1]) rfl hP hS dX0_moveShot_17
  · obtain ⟨p, h9_p, rfl⟩ : ∃ p : Nat, p < n ∧ x = nI p := (hasS_of (by omega) c_1)
    refine lv_aload_n hx hb dX0_moveShot_8 rfl (lv_at hl 0 rfl) ?_
    refine lv_iload_n hx hb dX0_moveShot_9 rfl (lv_at hl 2 rfl) ?_
    refine rwV1 (rest := []) S (c_X3_hasShot l E r rc f n y hf) cd_X3_hasShot bw_221 ⟨Nat.le_of_ble_eq_true rfl, Nat.le_of_ble_eq_true rfl⟩ ⟨Nat.zero_le _, Nat.zero_le _⟩ hP (hDa.to rfl) hE hA hS [0, 1] rfl rfl [r, rc] rfl rfl (ci := 2) rfl (q0 := 0) rfl (Nat.le_of_ble_eq_true rfl) hl.1 dX0_moveShot_10 (fun H locs hP _ hS => ?_)
    have hP : va_P E.1 vwCl [(r, .inr (2, [.ref rc])), (rc, .inl (E.2.1, 293, .inl f))] H := hP
    refine lv_if_ne (tgt := 18) hx hb dX0_moveShot_13 (by decide) (fun c_2 => ?_) (fun c_2 => ?_)
    · obtain ⟨q, h9_q, rfl⟩ : ∃ q : Nat, q < n ∧ y = nI q := (hasS_of (by omega) c_2)
      refine lv_iload_n hx hb dX0_moveShot_18 rfl (lv_at hl 1 rfl) ?_
      refine lv_istore_n (lv' := [(3, .int (nI p)), (0, .ref r), (1, .int (nI p)), (2, .int (nI q))]) hx hb dX0_moveShot_19 rfl hl (by decide) rfl (fun ls hl => ?_)
      have loop20 : ∀ (fuel : Nat) (d : Nat), q - p - d < fuel → (d ≤ q - p) → ∀ (H : Heap) (locs : List Loc), va_P E.1 vwCl [(r, .inr (2, [.ref rc])), (rc, .inl (E.2.1, 293, .inl (mvU f p d)))] H → va_S A s.heap H locs → ∀ ls : Array Slot, lv_has ls 4 [(3, .int (nI (p + d))), (0, .ref r), (1, .int (nI p)), (2, .int (nI q))] → W pg l e (rq 3) s m ([.ref r, .int (nI p), .int (nI q)] : List Value).toArray below meth c H locs 0 0 Q (F0 m 20 ls []) := by
        intro fuel
        induction fuel with
        | zero => intro d h9; exact absurd h9 (Nat.not_lt_zero _)
        | succ fuel ih20 =>
          intro d hfu20 hd H locs hP hS ls hl
          refine lv_iload_n hx hb dX0_moveShot_20 rfl (lv_at hl 0 rfl) ?_
          refine lv_iload_n hx hb dX0_moveShot_21 rfl (lv_at hl 3 rfl) ?_
          refine rn_icmp_ge (a := p + d) (b := q) (tgt := 39) hx hb (by omega) (by omega) dX0_moveShot_22 (by decide) (fun c_3 => ?_) (fun c_3 => ?_)
          · have hex : q - p = d := by omega
            subst hex
            refine lv_iload_n hx hb dX0_moveShot_39 rfl (lv_at hl 2 rfl) ?_
            refine lv_istore_n (lv' := [(3, .int (nI p)), (0, .ref r), (1, .int (nI p)), (2, .int (nI q))]) hx hb dX0_moveShot_40 rfl hl (by decide) rfl (fun ls hl => ?_)
            have loop41 : ∀ (fuel : Nat) (t : Nat), p - q - t < fuel → (t ≤ p - q) → ∀ (H : Heap) (locs : List Loc), va_P E.1 vwCl [(r, .inr (2, [.ref rc])), (rc, .inl (E.2.1, 293, .inl (mvD (mvU f p (q - p)) p t)))] H → va_S A s.heap H locs → ∀ ls : Array Slot, lv_has ls 4 [(3, .int (nI (p - t))), (0, .ref r), (1, .int (nI p)), (2, .int (nI q))] → W pg l e (rq 3) s m ([.ref r, .int (nI p), .int (nI q)] : List Value).toArray below meth c H locs 0 0 Q (F0 m 41 ls []) := by
              intro fuel
              induction fuel with
              | zero => intro t h9; exact absurd h9 (Nat.not_lt_zero _)
              | succ fuel ih41 =>
                intro t hfu41 ht H locs hP hS ls hl
                refine lv_iload_n hx hb dX0_moveShot_41 rfl (lv_at hl 0 rfl) ?_
                refine lv_iload_n hx hb dX0_moveShot_42 rfl (lv_at hl 3 rfl) ?_
                refine rn_icmp_le (a := p - t) (b := q) (tgt := 60) hx hb (by omega) (by omega) dX0_moveShot_43 (by decide) (fun c_4 => ?_) (fun c_4 => ?_)
                · have hex : p - q = t := by omega
                  subst hex
                  refine lv_iload_n hx hb dX0_moveShot_60 rfl (lv_at hl 3 rfl) ?_
                  refine lv_iload_n hx hb dX0_moveShot_61 rfl (lv_at hl 2 rfl) ?_
                  refine lv_isub hx hb dX0_moveShot_62 ?_
                  refine rw_abs (rest := []) S hl.1 bw_247 ⟨Nat.le_of_ble_eq_true rfl, Nat.le_of_ble_eq_true rfl⟩ (Nat.le_of_ble_eq_true rfl) ⟨Nat.zero_le _, Nat.zero_le _⟩ dX0_moveShot_63 ?_
                  exact hret _ _ _ _ _ _ (by first | rw [cMv, ix_nI (show p < 2 ^ 31 by omega), ix_nI (show q < 2 ^ 31 by omega), if_neg c_1, if_neg c_2] | rw [cMv, if_neg c_1, if_neg c_2] | simp only [cMv, ix_nI (show p < 2 ^ 31 by omega), ix_nI (show q < 2 ^ 31 by omega), if_neg c_1, if_neg c_2]) (by first | rw [cMw, ix_nI (show p < 2 ^ 31 by omega), ix_nI (show q < 2 ^ 31 by omega), if_neg c_1, if_neg c_2] | rw [cMw, if_neg c_1, if_neg c_2] | simp only [cMw, ix_nI (show p < 2 ^ 31 by omega), ix_nI (show q < 2 ^ 31 by omega), if_neg c_1, if_neg c_2]) rfl hP hS dX0_moveShot_66
                · refine lv_aload_n hx hb dX0_moveShot_46 rfl (lv_at hl 1 rfl) ?_
                  refine lv_iload_n hx hb dX0_moveShot_47 rfl (lv_at hl 0 rfl) ?_
                  refine lv_iload_n hx hb dX0_moveShot_48 rfl (lv_at hl 0 rfl) ?_
                  refine lv_iconst (v := nI 1) hx hb dX0_moveShot_49 (by decide) ?_
                  refine rn_sub (a := p - t) (b := 1) hx hb dX0_moveShot_50 (by omega) ?_
                  refine rwVv2 (rest := []) S (c_X3_swapShots l E r rc (mvD (mvU f p (q - p)) p t) (p - t) ((p - t) - 1) (by omega) (by omega) (by omega)) cd_X3_swapShots bw_243 ⟨Nat.le_of_ble_eq_true rfl, Nat.le_of_ble_eq_true rfl⟩ ⟨Nat.zero_le _, Nat.zero_le _⟩ hP (hDa.to rfl) hE hA hS [0, 1] rfl rfl [r, rc] rfl rfl (ci := 2) rfl (q0 := 0) rfl (Nat.le_of_ble_eq_true rfl) hl.1 dX0_moveShot_51 (fun H locs hP _ hS => ?_)
                  have hP : va_P E.1 vwCl [(r, .inr (2, [.ref rc])), (rc, .inl (E.2.1, 293, .inl (swN (mvD (mvU f p (q - p)) p t) (p - t) ((p - t) - 1) 14)))] H := hP
                  refine rn_dec (a := p - t) (lv' := [(3, .int (nI (p - t - 1))), (0, .ref r), (1, .int (nI p)), (2, .int (nI q))]) hx hb dX0_moveShot_54 hl (k := 0) rfl (by decide) (by omega) (by decide) rfl (fun ls hl => ?_)
                  refine lv_goto (tgt := 41) hx hb dX0_moveShot_57 (by decide) ?_
                  have hP : va_P E.1 vwCl [(r, .inr (2, [.ref rc])), (rc, .inl (E.2.1, 293, .inl (mvD (mvU f p (q - p)) p (t + 1))))] H := by exact hP
                  have hl : lv_has ls 4 [(3, .int (nI (p - (t + 1)))), (0, .ref r), (1, .int (nI p)), (2, .int (nI q))] := lv_sub hl [0, 1, 2, 3] rfl
                  exact ih41 (t + 1) (by omega) (by omega) _ _ hP hS _ hl
            have hP : va_P E.1 vwCl [(r, .inr (2, [.ref rc])), (rc, .inl (E.2.1, 293, .inl (mvD (mvU f p (q - p)) p 0)))] H := by exact hP
            have hl : lv_has ls 4 [(3, .int (nI (p - 0))), (0, .ref r), (1, .int (nI p)), (2, .int (nI q))] := lv_sub hl [0, 1, 2, 3] rfl
            exact loop41 _ 0 (Nat.lt_succ_self _) (by omega) _ _ hP hS _ hl
          · refine lv_aload_n hx hb dX0_moveShot_25 rfl (lv_at hl 1 rfl) ?_
            refine lv_iload_n hx hb dX0_moveShot_26 rfl (lv_at hl 0 rfl) ?_
            refine lv_iload_n hx hb dX0_moveShot_27 rfl (lv_at hl 0 rfl) ?_
            refine lv_iconst (v := nI 1) hx hb dX0_moveShot_28 (by decide) ?_
            refine rn_add (a := p + d) (b := 1) hx hb dX0_moveShot_29 ?_
            refine rwVv2 (rest := []) S (c_X3_swapShots l E r rc (mvU f p d) (p + d) (p + d + 1) (by omega) (by omega) (by omega)) cd_X3_swapShots bw_243 ⟨Nat.le_of_ble_eq_true rfl, Nat.le_of_ble_eq_true rfl⟩ ⟨Nat.zero_le _, Nat.zero_le _⟩ hP (hDa.to rfl) hE hA hS [0, 1] rfl rfl [r, rc] rfl rfl (ci := 2) rfl (q0 := 0) rfl (Nat.le_of_ble_eq_true rfl) hl.1 dX0_moveShot_30 (fun H locs hP _ hS => ?_)
            have hP : va_P E.1 vwCl [(r, .inr (2, [.ref rc])), (rc, .inl (E.2.1, 293, .inl (swN (mvU f p d) (p + d) (p + d + 1) 14)))] H := hP
            refine rn_inc (a := p + d) (d := 1) (lv' := [(3, .int (nI (p + d + 1))), (0, .ref r), (1, .int (nI p)), (2, .int (nI q))]) hx hb dX0_moveShot_33 hl (k := 0) rfl (by decide) (by decide) rfl (fun ls hl => ?_)
            refine lv_goto (tgt := 20) hx hb dX0_moveShot_36 (by decide) ?_
            have hP : va_P E.1 vwCl [(r, .inr (2, [.ref rc])), (rc, .inl (E.2.1, 293, .inl (mvU f p (d + 1))))] H := by exact hP
            have hl : lv_has ls 4 [(3, .int (nI (p + (d + 1)))), (0, .ref r), (1, .int (nI p)), (2, .int (nI q))] := lv_sub hl [0, 1, 2, 3] rfl
            exact ih20 (d + 1) (by omega) (by omega) _ _ hP hS _ hl
      have hP : va_P E.1 vwCl [(r, .inr (2, [.ref rc])), (rc, .inl (E.2.1, 293, .inl (mvU f p 0)))] H := by exact hP
      have hl : lv_has ls 4 [(3, .int (nI (p + 0))), (0, .ref r), (1, .int (nI p)), (2, .int (nI q))] := lv_sub hl [0, 1, 2, 3] rfl
      exact loop20 _ 0 (Nat.lt_succ_self _) (by omega) _ _ hP hS _ hl
    · refine lv_iconst (v := (-1)) hx hb dX0_moveShot_16 (by decide) ?_
      exact hret _ _ _ _ _ _ (by first | rw [cMv, ix_nI (show p < 2 ^ 31 by omega), if_neg c_1, if_pos c_2] | rw [cMv, if_neg c_1, if_pos c_2] | simp only [cMv, ix_nI (show p < 2 ^ 31 by omega), if_neg c_1, if_pos c_2]) (by first | rw [cMw, ix_nI (show p < 2 ^ 31 by omega), if_neg c_1, if_pos c_2] | rw [cMw, if_neg c_1, if_pos c_2] | simp only [cMw, ix_nI (show p < 2 ^ 31 by omega), if_neg c_1, if_pos c_2]) rfl hP hS dX0_moveShot_17

theorem cd_X0_splitShot : cdS yX0_splitShot cX0_splitShot 4 (some .int) 3 := ⟨⟨bw_256, bw_10, by decide, by decide, by decide +kernel⟩, bw_255⟩
def cPv (f : Nat → Int32) (n : Nat) (x : Int32) (z : Int32) : Int32 := if hasS n x = 0 then (-1) else if isW z (nI 1) (nI 98) = 0 then (-2) else if 0 < f (13 + 14 * (ix x) + 0) - z then if n < 20 then nI (n + 1) else (-4) else (-5)
def cPw (f : Nat → Int32) (n : Nat) (x : Int32) (z : Int32) : Nat → Int32 := if hasS n x = 0 then f else if isW z (nI 1) (nI 98) = 0 then f else if 0 < f (13 + 14 * (ix x) + 0) - z then if n < 20 then (upd (upd (upd (upd (opS f n (ix x)) (13 + 14 * (ix x) + 0) z) (13 + 14 * (ix x) + 1) (nI 0)) (13 + 14 * ((ix x) + 1) + 0) (f (13 + 14 * (ix x) + 0) - z)) (13 + 14 * ((ix x) + 1) + 1) (nI 0)) else f else f
set_option maxHeartbeats 4000000 in
set_option maxRecDepth 100000 in
theorem c_X0_splitShot (l : Launch) (E : EV) (r : Nat) (rc : Nat) (f : Nat → Int32) (n : Nat) (x : Int32) (z : Int32) (hf : f 12 = nI n) (hn : n ≤ 20) : rcI l E yX0_splitShot cX0_splitShot 4 .int 3 [.ref r, .int x, .int z] [(r, .inr (2, [.ref rc])), (rc, .inl (E.2.1, 293, .inl f))] (cPv f n x z) [(r, .inr (2, [.ref rc])), (rc, .inl (E.2.1, 293, .inl (cPw f n x z)))] := by
  refine rcI_of (by decide) (Nat.le_of_ble_eq_true rfl) ?_
  intro pg e s m below meth c Q A ls S hP hD0 hE hA hl hret
  have hx := S.1
  have hb := S.2.1
  have hown := S.2.2.2.1
  have hts := S.2.2.2.2
  have hK := hE.1
  have hS : va_S A s.heap s.heap [] := va_S.rf
  have hDa : va_Da A [r, rc] := ⟨_, hD0, rfl⟩
  have hl : lv_has ls 4 [(0, .ref r), (1, .int x), (2, .int z)] := hl
  refine lv_aload_n hx hb dX0_splitShot_0 rfl (lv_at hl 0 rfl) ?_
  refine lv_iload_n hx hb dX0_splitShot_1 rfl (lv_at hl 1 rfl) ?_
  refine rwV1 (rest := []) S (c_X3_hasShot l E r rc f n x hf) cd_X3_hasShot bw_221 ⟨Nat.le_of_ble_eq_true rfl, Nat.le_of_ble_eq_true rfl⟩ ⟨Nat.zero_le _, Nat.zero_le _⟩ hP (hDa.to rfl) hE hA hS [0, 1] rfl rfl [r, rc] rfl rfl (ci := 2) rfl (q0 := 0) rfl (Nat.le_of_ble_eq_true rfl) hl.1 dX0_splitShot_2 (fun H locs hP _ hS => ?_)
  have hP : va_P E.1 vwCl [(r, .inr (2, [.ref rc])), (rc, .inl (E.2.1, 293, .inl f))] H := hP
  refine lv_if_ne (tgt := 10) hx hb dX0_splitShot_5 (by decide) (fun c_1 => ?_) (fun c_1 => ?_)
  · obtain ⟨p, h9_p, rfl⟩ : ∃ p : Nat, p < n ∧ x = nI p := (hasS_of (by omega) c_1)
    refine lv_iload_n hx hb dX0_splitShot_10 rfl (lv_at hl 2 rfl) ?_
    refine lv_iconst (v := nI 1) hx hb dX0_splitShot_11 (by decide) ?_
    refine lv_bipush (v := nI 98) hx hb dX0_splitShot_12 (by decide) ?_
    refine rwN3 (rest := []) S (c_X7_isWithin l E z (nI 1) (nI 98)) cd_X7_isWithin hE.2.1.1 ⟨Nat.le_of_ble_eq_true rfl, Nat.le_of_ble_eq_true rfl⟩ ⟨Nat.zero_le _, Nat.zero_le _⟩ hP (hDa.to rfl) hE hA hS [] rfl rfl [] rfl rfl (Nat.le_of_ble_eq_true rfl) hl.1 dX0_splitShot_14 (fun H locs hP _ hS => ?_)
    have hP : va_P E.1 vwCl [(r, .inr (2, [.ref rc])), (rc, .inl (E.2.1, 293, .inl f))] H := hP
    refine lv_if_ne (tgt := 23) hx hb dX0_splitShot_17 (by decide) (fun c_2 => ?_) (fun c_2 => ?_)
    · refine lv_aload_n hx hb dX0_splitShot_23 rfl (lv_at hl 0 rfl) ?_
      refine lv_iload_n hx hb dX0_splitShot_24 rfl (lv_at hl 1 rfl) ?_
      refine lv_iconst (v := nI 0) hx hb dX0_splitShot_25 (by decide) ?_
      refine rwV2 (rest := []) S (c_X3_readShot l E r rc f p 0 (by omega) (by omega)) cd_X3_readShot bw_228 ⟨Nat.le_of_ble_eq_true rfl, Nat.le_of_ble_eq_true rfl⟩ ⟨Nat.zero_le _, Nat.zero_le _⟩ hP (hDa.to rfl) hE hA hS [0, 1] rfl rfl [r, rc] rfl rfl (ci := 2) rfl (q0 := 0) rfl (Nat.le_of_ble_eq_true rfl) hl.1 dX0_splitShot_26 (fun H locs hP _ hS => ?_)
      have hP : va_P E.1 vwCl [(r, .inr (2, [.ref rc])), (rc, .inl (E.2.1, 293, .inl f))] H := hP
      refine lv_iload_n hx hb dX0_splitShot_29 rfl (lv_at hl 2 rfl) ?_
      refine lv_isub hx hb dX0_splitShot_30 ?_
      refine lv_istore_n (lv' := [(3, .int (f (13 + 14 * p + 0) - z)), (0, .ref r), (1, .int (nI p)), (2, .int z)]) hx hb dX0_splitShot_31 rfl hl (by decide) rfl (fun ls hl => ?_)
      refine lv_iload_n hx hb dX0_splitShot_32 rfl (lv_at hl 0 rfl) ?_
      refine lv_if_gt (tgt := 39) hx hb dX0_splitShot_33 (by decide) (fun c_3 => ?_) (fun c_3 => ?_)
      · refine lv_aload_n hx hb dX0_splitShot_39 rfl (lv_at hl 1 rfl) ?_
        refine rwV0 (rest := []) S (c_X3_shots l E r rc f n hf) cd_X3_shots bw_158 ⟨Nat.le_of_ble_eq_true rfl, Nat.le_of_ble_eq_true rfl⟩ ⟨Nat.zero_le _, Nat.zero_le _⟩ hP (hDa.to rfl) hE hA hS [0, 1] rfl rfl [r, rc] rfl rfl (ci := 2) rfl (q0 := 0) rfl (Nat.le_of_ble_eq_true rfl) hl.1 dX0_splitShot_40 (fun H locs hP _ hS => ?_)
        have hP : va_P E.1 vwCl [(r, .inr (2, [.ref rc])), (rc, .inl (E.2.1, 293, .inl f))] H := hP
        refine lv_bipush (v := nI 20) hx hb dX0_splitShot_43 (by decide) ?_
        refine rn_icmp_lt (a := n) (b := 20) (tgt := 51) hx hb (by omega) (by omega) dX0_splitShot_45 (by decide) (fun c_4 => ?_) (fun c_4 => ?_)
        · refine lv_aload_n hx hb dX0_splitShot_51 rfl (lv_at hl 1 rfl) ?_
          refine lv_iload_n hx hb dX0_splitShot_52 rfl (lv_at hl 2 rfl) ?_
          refine rwVv1 (rest := []) S (c_X3_openPlace l E r rc f n p hf c_4 (by omega)) cd_X3_openPlace bw_173 ⟨Nat.le_of_ble_eq_true rfl, Nat.le_of_ble_eq_true rfl⟩ ⟨Nat.zero_le _, Nat.zero_le _⟩ hP (hDa.to rfl) hE hA hS [0, 1] rfl rfl [r, rc] rfl rfl (ci := 2) rfl (q0 := 0) rfl (Nat.le_of_ble_eq_true rfl) hl.1 dX0_splitShot_53 (fun H locs hP _ hS => ?_)
          have hP : va_P E.1 vwCl [(r, .inr (2, [.ref rc])), (rc, .inl (E.2.1, 293, .inl (opS f n p)))] H := hP
          refine lv_aload_n hx hb dX0_splitShot_56 rfl (lv_at hl 1 rfl) ?_
          refine lv_iload_n hx hb dX0_splitShot_57 rfl (lv_at hl 2 rfl) ?_
          refine lv_iconst (v := nI 0) hx hb dX0_splitShot_58 (by decide) ?_
          refine lv_iload_n hx hb dX0_splitShot_59 rfl (lv_at hl 3 rfl) ?_
          refine rwVv3 (rest := []) S (c_X3_writeShot l E r rc (opS f n p) p 0 z (by omega) (by omega)) cd_X3_writeShot bw_197 ⟨Nat.le_of_ble_eq_true rfl, Nat.le_of_ble_eq_true rfl⟩ ⟨Nat.zero_le _, Nat.zero_le _⟩ hP (hDa.to rfl) hE hA hS [0, 1] rfl rfl [r, rc] rfl rfl (ci := 2) rfl (q0 := 0) rfl (Nat.le_of_ble_eq_true rfl) hl.1 dX0_splitShot_60 (fun H locs hP _ hS => ?_)
          have hP : va_P E.1 vwCl [(r, .inr (2, [.ref rc])), (rc, .inl (E.2.1, 293, .inl (upd (opS f n p) (13 + 14 * p + 0) z)))] H := hP
          refine lv_aload_n hx hb dX0_splitShot_63 rfl (lv_at hl 1 rfl) ?_
          refine lv_iload_n hx hb dX0_splitShot_64 rfl (lv_at hl 2 rfl) ?_
          refine lv_iconst (v := nI 1) hx hb dX0_splitShot_65 (by decide) ?_
          refine lv_iconst (v := nI 0) hx hb dX0_splitShot_66 (by decide) ?_
          refine rwVv3 (rest := []) S (c_X3_writeShot l E r rc (upd (opS f n p) (13 + 14 * p + 0) z) p 1 (nI 0) (by omega) (by omega)) cd_X3_writeShot bw_197 ⟨Nat.le_of_ble_eq_true rfl, Nat.le_of_ble_eq_true rfl⟩ ⟨Nat.zero_le _, Nat.zero_le _⟩ hP (hDa.to rfl) hE hA hS [0, 1] rfl rfl [r, rc] rfl rfl (ci := 2) rfl (q0 := 0) rfl (Nat.le_of_ble_eq_true rfl) hl.1 dX0_splitShot_67 (fun H locs hP _ hS => ?_)
          have hP : va_P E.1 vwCl [(r, .inr (2, [.ref rc])), (rc, .inl (E.2.1, 293, .inl (upd (upd (opS f n p) (13 + 14 * p + 0) z) (13 + 14 * p + 1) (nI 0))))] H := hP
          refine lv_aload_n hx hb dX0_splitShot_70 rfl (lv_at hl 1 rfl) ?_
          refine lv_iload_n hx hb dX0_splitShot_71 rfl (lv_at hl 2 rfl) ?_
          refine lv_iconst (v := nI 1) hx hb dX0_splitShot_72 (by decide) ?_
          refine rn_add (a := p) (b := 1) hx hb dX0_splitShot_73 ?_
          refine lv_iconst (v := nI 0) hx hb dX0_splitShot_74 (by decide) ?_
          refine lv_iload_n hx hb dX0_splitShot_75 rfl (lv_at hl 0 rfl) ?_
          refine rwVv3 (rest := []) S (c_X3_writeShot l E r rc (upd (upd (opS f n p) (13 + 14 * p + 0) z) (13 + 14 * p + 1) (nI 0)) (p + 1) 0 (f (13 + 14 * p + 0) - z) (by omega) (by omega)) cd_X3_writeShot bw_197 ⟨Nat.le_of_ble_eq_true rfl, Nat.le_of_ble_eq_true rfl⟩ ⟨Nat.zero_le _, Nat.zero_le _⟩ hP (hDa.to rfl) hE hA hS [0, 1] rfl rfl [r, rc] rfl rfl (ci := 2) rfl (q0 := 0) rfl (Nat.le_of_ble_eq_true rfl) hl.1 dX0_splitShot_76 (fun H locs hP _ hS => ?_)
          have hP : va_P E.1 vwCl [(r, .inr (2, [.ref rc])), (rc, .inl (E.2.1, 293, .inl (upd (upd (upd (opS f n p) (13 + 14 * p + 0) z) (13 + 14 * p + 1) (nI 0)) (13 + 14 * (p + 1) + 0) (f (13 + 14 * p + 0) - z))))] H := hP
          refine lv_aload_n hx hb dX0_splitShot_79 rfl (lv_at hl 1 rfl) ?_
          refine lv_iload_n hx hb dX0_splitShot_80 rfl (lv_at hl 2 rfl) ?_
          refine lv_iconst (v := nI 1) hx hb dX0_splitShot_81 (by decide) ?_
          refine rn_add (a := p) (b := 1) hx hb dX0_splitShot_82 ?_
          refine lv_iconst (v := nI 1) hx hb dX0_splitShot_83 (by decide) ?_
          refine lv_iconst (v := nI 0) hx hb dX0_splitShot_84 (by decide) ?_
          refine rwVv3 (rest := []) S (c_X3_writeShot l E r rc (upd (upd (upd (opS f n p) (13 + 14 * p + 0) z) (13 + 14 * p + 1) (nI 0)) (13 + 14 * (p + 1) + 0) (f (13 + 14 * p + 0) - z)) (p + 1) 1 (nI 0) (by omega) (by omega)) cd_X3_writeShot bw_197 ⟨Nat.le_of_ble_eq_true rfl, Nat.le_of_ble_eq_true rfl⟩ ⟨Nat.zero_le _, Nat.zero_le _⟩ hP (hDa.to rfl) hE hA hS [0, 1] rfl rfl [r, rc] rfl rfl (ci := 2) rfl (q0 := 0) rfl (Nat.le_of_ble_eq_true rfl) hl.1 dX0_splitShot_85 (fun H locs hP _ hS => ?_)
          have hP : va_P E.1 vwCl [(r, .inr (2, [.ref rc])), (rc, .inl (E.2.1, 293, .inl (upd (upd (upd (upd (opS f n p) (13 + 14 * p + 0) z) (13 + 14 * p + 1) (nI 0)) (13 + 14 * (p + 1) + 0) (f (13 + 14 * p + 0) - z)) (13 + 14 * (p + 1) + 1) (nI 0))))] H := hP
          refine lv_aload_n hx hb dX0_splitShot_88 rfl (lv_at hl 1 rfl) ?_
          refine rwV0 (rest := []) S (c_X3_shots l E r rc (upd (upd (upd (upd (opS f n p) (13 + 14 * p + 0) z) (13 + 14 * p + 1) (nI 0)) (13 + 14 * (p + 1) + 0) (f (13 + 14 * p + 0) - z)) (13 + 14 * (p + 1) + 1) (nI 0)) (n + 1) ((pk_un (by omega)).trans ((pk_un (by omega)).trans ((pk_un (by omega)).trans ((pk_un (by omega)).trans pk_us))))) cd_X3_shots bw_158 ⟨Nat.le_of_ble_eq_true rfl, Nat.le_of_ble_eq_true rfl⟩ ⟨Nat.zero_le _, Nat.zero_le _⟩ hP (hDa.to rfl) hE hA hS [0, 1] rfl rfl [r, rc] rfl rfl (ci := 2) rfl (q0 := 0) rfl (Nat.le_of_ble_eq_true rfl) hl.1 dX0_splitShot_89 (fun H locs hP _ hS => ?_)
          have hP : va_P E.1 vwCl [(r, .inr (2, [.ref rc])), (rc, .inl (E.2.1, 293, .inl (upd (upd (upd (upd (opS f n p) (13 + 14 * p + 0) z) (13 + 14 * p + 1) (nI 0)) (13 + 14 * (p + 1) + 0) (f (13 + 14 * p + 0) - z)) (13 + 14 * (p + 1) + 1) (nI 0))))] H := hP
          exact hret _ _ _ _ _ _ (by first | rw [cPv, ix_nI (show p < 2 ^ 31 by omega), if_neg c_1, if_neg c_2, if_pos c_3, if_pos c_4] | rw [cPv, if_neg c_1, if_neg c_2, if_pos c_3, if_pos c_4] | simp only [cPv, ix_nI (show p < 2 ^ 31 by omega), if_neg c_1, if_neg c_2, if_pos c_3, if_pos c_4]) (by first | rw [cPw, ix_nI (show p < 2 ^ 31 by omega), if_neg c_1, if_neg c_2, if_pos c_3, if_pos c_4] | rw [cPw, if_neg c_1, if_neg c_2, if_pos c_3, if_pos c_4] | simp only [cPw, ix_nI (show p < 2 ^ 31 by omega), if_neg c_1, if_neg c_2, if_pos c_3, if_pos c_4]) rfl hP hS dX0_splitShot_92
        · refine lv_bipush (v := (-4)) hx hb dX0_splitShot_48 (by decide) ?_
          exact hret _ _ _ _ _ _ (by first | rw [cPv, ix_nI (show p < 2 ^ 31 by omega), if_neg c_1, if_neg c_2, if_pos c_3, if_neg c_4] | rw [cPv, if_neg c_1, if_neg c_2, if_pos c_3, if_neg c_4] | simp only [cPv, ix_nI (show p < 2 ^ 31 by omega), if_neg c_1, if_neg c_2, if_pos c_3, if_neg c_4]) (by first | rw [cPw, ix_nI (show p < 2 ^ 31 by omega), if_neg c_1, if_neg c_2, if_pos c_3, if_neg c_4] | rw [cPw, if_neg c_1, if_neg c_2, if_pos c_3, if_neg c_4] | simp only [cPw, ix_nI (show p < 2 ^ 31 by omega), if_neg c_1, if_neg c_2, if_pos c_3, if_neg c_4]) rfl hP hS dX0_splitShot_50
      · refine lv_bipush (v := (-5)) hx hb dX0_splitShot_36 (by decide) ?_
        exact hret _ _ _ _ _ _ (by first | rw [cPv, ix_nI (show p < 2 ^ 31 by omega), if_neg c_1, if_neg c_2, if_neg c_3] | rw [cPv, if_neg c_1, if_neg c_2, if_neg c_3] | simp only [cPv, ix_nI (show p < 2 ^ 31 by omega), if_neg c_1, if_neg c_2, if_neg c_3]) (by first | rw [cPw, ix_nI (show p < 2 ^ 31 by omega), if_neg c_1, if_neg c_2, if_neg c_3] | rw [cPw, if_neg c_1, if_neg c_2, if_neg c_3] | simp only [cPw, ix_nI (show p < 2 ^ 31 by omega), if_neg c_1, if_neg c_2, if_neg c_3]) rfl hP hS dX0_splitShot_38
    · refine lv_bipush (v := (-2)) hx hb dX0_splitShot_20 (by decide) ?_
      exact hret _ _ _ _ _ _ (by first | rw [cPv, ix_nI (show p < 2 ^ 31 by omega), if_neg c_1, if_pos c_2] | rw [cPv, if_neg c_1, if_pos c_2] | simp only [cPv, ix_nI (show p < 2 ^ 31 by omega), if_neg c_1, if_pos c_2]) (by first | rw [cPw, ix_nI (show p < 2 ^ 31 by omega), if_neg c_1, if_pos c_2] | rw [cPw, if_neg c_1, if_pos c_2] | simp only [cPw, ix_nI (show p < 2 ^ 31 by omega), if_neg c_1, if_pos c_2]) rfl hP hS dX0_splitShot_22
  · refine lv_iconst (v := (-1)) hx hb dX0_splitShot_8 (by decide) ?_
    exact hret _ _ _ _ _ _ (by rw [cPv, if_pos c_1]) (by rw [cPw, if_pos c_1]) rfl hP hS dX0_splitShot_9

theorem cd_X0_isSameStock : cdS yX0_isSameStock cX0_isSameStock 4 (some .boolean) 3 := ⟨⟨bw_266, bw_10, by decide, by decide, by decide +kernel⟩, bw_265⟩
def cSs (f : Nat → Int32) (p : Nat) (q : Nat) : Int32 := if f (13 + 14 * p + 2) = f (13 + 14 * q + 2) then if f (13 + 14 * p + 3) = f (13 + 14 * q + 3) then if f (13 + 14 * p + 4) = f (13 + 14 * q + 4) then nI 1 else nI 0 else nI 0 else nI 0
theorem cSs_z (f : Nat → Int32) (p : Nat) (q : Nat) : narrow .boolean (.int (cSs f p q)) = .int (cSs f p q) := by
  unfold cSs
  repeat' split
  all_goals first | decide | rfl
set_option maxHeartbeats 4000000 in
set_option maxRecDepth 100000 in
theorem c_X0_isSameStock (l : Launch) (E : EV) (r : Nat) (rc : Nat) (f : Nat → Int32) (p : Nat) (q : Nat) (hp : p < 20) (hq : q < 20) : rcI l E yX0_isSameStock cX0_isSameStock 4 .boolean 1 [.ref r, .int (nI p), .int (nI q)] [(r, .inr (2, [.ref rc])), (rc, .inl (E.2.1, 293, .inl f))] (cSs f p q) [(r, .inr (2, [.ref rc])), (rc, .inl (E.2.1, 293, .inl f))] := by
  refine rcI_of (by decide) (Nat.le_of_ble_eq_true rfl) ?_
  intro pg e s m below meth c Q A ls S hP hD0 hE hA hl hret
  have hx := S.1
  have hb := S.2.1
  have hown := S.2.2.2.1
  have hts := S.2.2.2.2
  have hK := hE.1
  have hS : va_S A s.heap s.heap [] := va_S.rf
  have hDa : va_Da A [r, rc] := ⟨_, hD0, rfl⟩
  have hl : lv_has ls 4 [(0, .ref r), (1, .int (nI p)), (2, .int (nI q))] := hl
  refine lv_iconst (v := nI 2) hx hb dX0_isSameStock_0 (by decide) ?_
  refine lv_istore_n (lv' := [(3, .int (nI 2)), (0, .ref r), (1, .int (nI p)), (2, .int (nI q))]) hx hb dX0_isSameStock_1 rfl hl (by decide) rfl (fun ls hl => ?_)
  refine lv_iload_n hx hb dX0_isSameStock_2 rfl (lv_at hl 0 rfl) ?_
  refine lv_iconst (v := nI 5) hx hb dX0_isSameStock_3 (by decide) ?_
  refine rn_icmp_ge (a := 2) (b := 5) (tgt := 30) hx hb (by omega) (by omega) dX0_isSameStock_4 (by decide) (fun c_1 => absurd c_1 (by omega)) (fun c_1 => ?_)
  refine lv_aload_n hx hb dX0_isSameStock_7 rfl (lv_at hl 1 rfl) ?_
  refine lv_iload_n hx hb dX0_isSameStock_8 rfl (lv_at hl 2 rfl) ?_
  refine lv_iload_n hx hb dX0_isSameStock_9 rfl (lv_at hl 0 rfl) ?_
  refine rwV2 (rest := []) S (c_X3_readShot l E r rc f p 2 hp (by omega)) cd_X3_readShot bw_228 ⟨Nat.le_of_ble_eq_true rfl, Nat.le_of_ble_eq_true rfl⟩ ⟨Nat.zero_le _, Nat.zero_le _⟩ hP (hDa.to rfl) hE hA hS [0, 1] rfl rfl [r, rc] rfl rfl (ci := 2) rfl (q0 := 0) rfl (Nat.le_of_ble_eq_true rfl) hl.1 dX0_isSameStock_10 (fun H locs hP _ hS => ?_)
  have hP : va_P E.1 vwCl [(r, .inr (2, [.ref rc])), (rc, .inl (E.2.1, 293, .inl f))] H := hP
  refine lv_aload_n hx hb dX0_isSameStock_13 rfl (lv_at hl 1 rfl) ?_
  refine lv_iload_n hx hb dX0_isSameStock_14 rfl (lv_at hl 3 rfl) ?_
  refine lv_iload_n hx hb dX0_isSameStock_15 rfl (lv_at hl 0 rfl) ?_
  refine rwV2 (rest := [.int (f (13 + 14 * p + 2))]) S (c_X3_readShot l E r rc f q 2 hq (by omega)) cd_X3_readShot bw_228 ⟨Nat.le_of_ble_eq_true rfl, Nat.le_of_ble_eq_true rfl⟩ ⟨Nat.zero_le _, Nat.zero_le _⟩ hP (hDa.to rfl) hE hA hS [0, 1] rfl rfl [r, rc] rfl rfl (ci := 2) rfl (q0 := 0) rfl (Nat.le_of_ble_eq_true rfl) hl.1 dX0_isSameStock_16 (fun H locs hP _ hS => ?_)
  have hP : va_P E.1 vwCl [(r, .inr (2, [.ref rc])), (rc, .inl (E.2.1, 293, .inl f))] H := hP
  refine lv_icmp_eq (tgt := 24) hx hb dX0_isSameStock_19 (by decide) (fun c_2 => ?_) (fun c_2 => ?_)
  · refine rn_inc (a := 2) (d := 1) (lv' := [(3, .int (nI 3)), (0, .ref r), (1, .int (nI p)), (2, .int (nI q))]) hx hb dX0_isSameStock_24 hl (k := 0) rfl (by decide) (by decide) rfl (fun ls hl => ?_)
    refine lv_goto (tgt := 2) hx hb dX0_isSameStock_27 (by decide) ?_
    refine lv_iload_n hx hb dX0_isSameStock_2 rfl (lv_at hl 0 rfl) ?_
    refine lv_iconst (v := nI 5) hx hb dX0_isSameStock_3 (by decide) ?_
    refine rn_icmp_ge (a := 3) (b := 5) (tgt := 30) hx hb (by omega) (by omega) dX0_isSameStock_4 (by decide) (fun c_3 => absurd c_3 (by omega)) (fun c_3 => ?_)
    refine lv_aload_n hx hb dX0_isSameStock_7 rfl (lv_at hl 1 rfl) ?_
    refine lv_iload_n hx hb dX0_isSameStock_8 rfl (lv_at hl 2 rfl) ?_
    refine lv_iload_n hx hb dX0_isSameStock_9 rfl (lv_at hl 0 rfl) ?_
    refine rwV2 (rest := []) S (c_X3_readShot l E r rc f p 3 hp (by omega)) cd_X3_readShot bw_228 ⟨Nat.le_of_ble_eq_true rfl, Nat.le_of_ble_eq_true rfl⟩ ⟨Nat.zero_le _, Nat.zero_le _⟩ hP (hDa.to rfl) hE hA hS [0, 1] rfl rfl [r, rc] rfl rfl (ci := 2) rfl (q0 := 0) rfl (Nat.le_of_ble_eq_true rfl) hl.1 dX0_isSameStock_10 (fun H locs hP _ hS => ?_)
    have hP : va_P E.1 vwCl [(r, .inr (2, [.ref rc])), (rc, .inl (E.2.1, 293, .inl f))] H := hP
    refine lv_aload_n hx hb dX0_isSameStock_13 rfl (lv_at hl 1 rfl) ?_
    refine lv_iload_n hx hb dX0_isSameStock_14 rfl (lv_at hl 3 rfl) ?_
    refine lv_iload_n hx hb dX0_isSameStock_15 rfl (lv_at hl 0 rfl) ?_
    refine rwV2 (rest := [.int (f (13 + 14 * p + 3))]) S (c_X3_readShot l E r rc f q 3 hq (by omega)) cd_X3_readShot bw_228 ⟨Nat.le_of_ble_eq_true rfl, Nat.le_of_ble_eq_true rfl⟩ ⟨Nat.zero_le _, Nat.zero_le _⟩ hP (hDa.to rfl) hE hA hS [0, 1] rfl rfl [r, rc] rfl rfl (ci := 2) rfl (q0 := 0) rfl (Nat.le_of_ble_eq_true rfl) hl.1 dX0_isSameStock_16 (fun H locs hP _ hS => ?_)
    have hP : va_P E.1 vwCl [(r, .inr (2, [.ref rc])), (rc, .inl (E.2.1, 293, .inl f))] H := hP
    refine lv_icmp_eq (tgt := 24) hx hb dX0_isSameStock_19 (by decide) (fun c_4 => ?_) (fun c_4 => ?_)
    · refine rn_inc (a := 3) (d := 1) (lv' := [(3, .int (nI 4)), (0, .ref r), (1, .int (nI p)), (2, .int (nI q))]) hx hb dX0_isSameStock_24 hl (k := 0) rfl (by decide) (by decide) rfl (fun ls hl => ?_)
      refine lv_goto (tgt := 2) hx hb dX0_isSameStock_27 (by decide) ?_
      refine lv_iload_n hx hb dX0_isSameStock_2 rfl (lv_at hl 0 rfl) ?_
      refine lv_iconst (v := nI 5) hx hb dX0_isSameStock_3 (by decide) ?_
      refine rn_icmp_ge (a := 4) (b := 5) (tgt := 30) hx hb (by omega) (by omega) dX0_isSameStock_4 (by decide) (fun c_5 => absurd c_5 (by omega)) (fun c_5 => ?_)
      refine lv_aload_n hx hb dX0_isSameStock_7 rfl (lv_at hl 1 rfl) ?_
      refine lv_iload_n hx hb dX0_isSameStock_8 rfl (lv_at hl 2 rfl) ?_
      refine lv_iload_n hx hb dX0_isSameStock_9 rfl (lv_at hl 0 rfl) ?_
      refine rwV2 (rest := []) S (c_X3_readShot l E r rc f p 4 hp (by omega)) cd_X3_readShot bw_228 ⟨Nat.le_of_ble_eq_true rfl, Nat.le_of_ble_eq_true rfl⟩ ⟨Nat.zero_le _, Nat.zero_le _⟩ hP (hDa.to rfl) hE hA hS [0, 1] rfl rfl [r, rc] rfl rfl (ci := 2) rfl (q0 := 0) rfl (Nat.le_of_ble_eq_true rfl) hl.1 dX0_isSameStock_10 (fun H locs hP _ hS => ?_)
      have hP : va_P E.1 vwCl [(r, .inr (2, [.ref rc])), (rc, .inl (E.2.1, 293, .inl f))] H := hP
      refine lv_aload_n hx hb dX0_isSameStock_13 rfl (lv_at hl 1 rfl) ?_
      refine lv_iload_n hx hb dX0_isSameStock_14 rfl (lv_at hl 3 rfl) ?_
      refine lv_iload_n hx hb dX0_isSameStock_15 rfl (lv_at hl 0 rfl) ?_
      refine rwV2 (rest := [.int (f (13 + 14 * p + 4))]) S (c_X3_readShot l E r rc f q 4 hq (by omega)) cd_X3_readShot bw_228 ⟨Nat.le_of_ble_eq_true rfl, Nat.le_of_ble_eq_true rfl⟩ ⟨Nat.zero_le _, Nat.zero_le _⟩ hP (hDa.to rfl) hE hA hS [0, 1] rfl rfl [r, rc] rfl rfl (ci := 2) rfl (q0 := 0) rfl (Nat.le_of_ble_eq_true rfl) hl.1 dX0_isSameStock_16 (fun H locs hP _ hS => ?_)
      have hP : va_P E.1 vwCl [(r, .inr (2, [.ref rc])), (rc, .inl (E.2.1, 293, .inl f))] H := hP
      refine lv_icmp_eq (tgt := 24) hx hb dX0_isSameStock_19 (by decide) (fun c_6 => ?_) (fun c_6 => ?_)
      · refine rn_inc (a := 4) (d := 1) (lv' := [(3, .int (nI 5)), (0, .ref r), (1, .int (nI p)), (2, .int (nI q))]) hx hb dX0_isSameStock_24 hl (k := 0) rfl (by decide) (by decide) rfl (fun ls hl => ?_)
        refine lv_goto (tgt := 2) hx hb dX0_isSameStock_27 (by decide) ?_
        refine lv_iload_n hx hb dX0_isSameStock_2 rfl (lv_at hl 0 rfl) ?_
        refine lv_iconst (v := nI 5) hx hb dX0_isSameStock_3 (by decide) ?_
        refine rn_icmp_ge (a := 5) (b := 5) (tgt := 30) hx hb (by omega) (by omega) dX0_isSameStock_4 (by decide) (fun c_7 => ?_) (fun c_7 => absurd c_7 (by omega))
        refine lv_iconst (v := nI 1) hx hb dX0_isSameStock_30 (by decide) ?_
        exact hret _ _ _ _ _ _ (by rw [cSs, if_pos c_2, if_pos c_4, if_pos c_6]) rfl (by decide) hP hS dX0_isSameStock_31
      · refine lv_iconst (v := nI 0) hx hb dX0_isSameStock_22 (by decide) ?_
        exact hret _ _ _ _ _ _ (by rw [cSs, if_pos c_2, if_pos c_4, if_neg c_6]) rfl (by decide) hP hS dX0_isSameStock_23
    · refine lv_iconst (v := nI 0) hx hb dX0_isSameStock_22 (by decide) ?_
      exact hret _ _ _ _ _ _ (by rw [cSs, if_pos c_2, if_neg c_4]) rfl (by decide) hP hS dX0_isSameStock_23
  · refine lv_iconst (v := nI 0) hx hb dX0_isSameStock_22 (by decide) ?_
    exact hret _ _ _ _ _ _ (by rw [cSs, if_neg c_2]) rfl (by decide) hP hS dX0_isSameStock_23

theorem cd_X0_joinShots : cdS yX0_joinShots cX0_joinShots 3 (some .int) 2 := ⟨⟨bw_263, bw_10, by decide, by decide, by decide +kernel⟩, bw_262⟩
def cJv (f : Nat → Int32) (n : Nat) (x : Int32) : Int32 := if hasS n x = 0 then (-1) else if hasS n (nI ((ix x) + 1)) = 0 then (-1) else if nI 99 < f (13 + 14 * (ix x) + 0) + (f (13 + 14 * ((ix x) + 1) + 0)) then (-5) else if cSs f (ix x) ((ix x) + 1) = 0 then (-5) else f (13 + 14 * (ix x) + 0) + (f (13 + 14 * ((ix x) + 1) + 0))
def cJw (f : Nat → Int32) (n : Nat) (x : Int32) : Nat → Int32 := if hasS n x = 0 then f else if hasS n (nI ((ix x) + 1)) = 0 then f else if nI 99 < f (13 + 14 * (ix x) + 0) + (f (13 + 14 * ((ix x) + 1) + 0)) then f else if cSs f (ix x) ((ix x) + 1) = 0 then f else upd (upd (clS f n ((ix x) + 1)) (13 + 14 * (ix x) + 0) (f (13 + 14 * (ix x) + 0) + (f (13 + 14 * ((ix x) + 1) + 0)))) (13 + 14 * (ix x) + 1) (nI 0)
set_option maxHeartbeats 4000000 in
set_option maxRecDepth 100000 in
theorem c_X0_joinShots (l : Launch) (E : EV) (r : Nat) (rc : Nat) (f : Nat → Int32) (n : Nat) (x : Int32) (hf : f 12 = nI n) (hn : n ≤ 20) : rcI l E yX0_joinShots cX0_joinShots 3 .int 3 [.ref r, .int x] [(r, .inr (2, [.ref rc])), (rc, .inl (E.2.1, 293, .inl f))] (cJv f n x) [(r, .inr (2, [.ref rc])), (rc, .inl (E.2.1, 293, .inl (cJw f n x)))] := by
  refine rcI_of (by decide) (Nat.le_of_ble_eq_true rfl) ?_
  intro pg e s m below meth c Q A ls S hP hD0 hE hA hl hret
  have hx := S.1
  have hb := S.2.1
  have hown := S.2.2.2.1
  have hts := S.2.2.2.2
  have hK := hE.1
  have hS : va_S A s.heap s.heap [] := va_S.rf
  have hDa : va_Da A [r, rc] := ⟨_, hD0, rfl⟩
  have hl : lv_has ls 3 [(0, .ref r), (1, .int x)] := hl
  refine lv_aload_n hx hb dX0_joinShots_0 rfl (lv_at hl 0 rfl) ?_
  refine lv_iload_n hx hb dX0_joinShots_1 rfl (lv_at hl 1 rfl) ?_
  refine rwV1 (rest := []) S (c_X3_hasShot l E r rc f n x hf) cd_X3_hasShot bw_221 ⟨Nat.le_of_ble_eq_true rfl, Nat.le_of_ble_eq_true rfl⟩ ⟨Nat.zero_le _, Nat.zero_le _⟩ hP (hDa.to rfl) hE hA hS [0, 1] rfl rfl [r, rc] rfl rfl (ci := 2) rfl (q0 := 0) rfl (Nat.le_of_ble_eq_true rfl) hl.1 dX0_joinShots_2 (fun H locs hP _ hS => ?_)
  have hP : va_P E.1 vwCl [(r, .inr (2, [.ref rc])), (rc, .inl (E.2.1, 293, .inl f))] H := hP
  refine lv_if_eq (tgt := 18) hx hb dX0_joinShots_5 (by decide) (fun c_1 => ?_) (fun c_1 => ?_)
  · refine lv_iconst (v := (-1)) hx hb dX0_joinShots_18 (by decide) ?_
    exact hret _ _ _ _ _ _ (by rw [cJv, if_pos c_1]) (by rw [cJw, if_pos c_1]) rfl hP hS dX0_joinShots_19
  · obtain ⟨p, h9_p, rfl⟩ : ∃ p : Nat, p < n ∧ x = nI p := (hasS_of (by omega) c_1)
    refine lv_aload_n hx hb dX0_joinShots_8 rfl (lv_at hl 0 rfl) ?_
    refine lv_iload_n hx hb dX0_joinShots_9 rfl (lv_at hl 1 rfl) ?_
    refine lv_iconst (v := nI 1) hx hb dX0_joinShots_10 (by decide) ?_
    refine rn_add (a := p) (b := 1) hx hb dX0_joinShots_11 ?_
    refine rwV1 (rest := []) S (c_X3_hasShot l E r rc f n (nI (p + 1)) hf) cd_X3_hasShot bw_221 ⟨Nat.le_of_ble_eq_true rfl, Nat.le_of_ble_eq_true rfl⟩ ⟨Nat.zero_le _, Nat.zero_le _⟩ hP (hDa.to rfl) hE hA hS [0, 1] rfl rfl [r, rc] rfl rfl (ci := 2) rfl (q0 := 0) rfl (Nat.le_of_ble_eq_true rfl) hl.1 dX0_joinShots_12 (fun H locs hP _ hS => ?_)
    have hP : va_P E.1 vwCl [(r, .inr (2, [.ref rc])), (rc, .inl (E.2.1, 293, .inl f))] H := hP
    refine lv_if_ne (tgt := 20) hx hb dX0_joinShots_15 (by decide) (fun c_2 => ?_) (fun c_2 => ?_)
    · have hpn := hasS_lt (by omega) (by omega) c_2
      refine lv_aload_n hx hb dX0_joinShots_20 rfl (lv_at hl 0 rfl) ?_
      refine lv_iload_n hx hb dX0_joinShots_21 rfl (lv_at hl 1 rfl) ?_
      refine lv_iconst (v := nI 0) hx hb dX0_joinShots_22 (by decide) ?_
      refine rwV2 (rest := []) S (c_X3_readShot l E r rc f p 0 (by omega) (by omega)) cd_X3_readShot bw_228 ⟨Nat.le_of_ble_eq_true rfl, Nat.le_of_ble_eq_true rfl⟩ ⟨Nat.zero_le _, Nat.zero_le _⟩ hP (hDa.to rfl) hE hA hS [0, 1] rfl rfl [r, rc] rfl rfl (ci := 2) rfl (q0 := 0) rfl (Nat.le_of_ble_eq_true rfl) hl.1 dX0_joinShots_23 (fun H locs hP _ hS => ?_)
      have hP : va_P E.1 vwCl [(r, .inr (2, [.ref rc])), (rc, .inl (E.2.1, 293, .inl f))] H := hP
      refine lv_aload_n hx hb dX0_joinShots_26 rfl (lv_at hl 0 rfl) ?_
      refine lv_iload_n hx hb dX0_joinShots_27 rfl (lv_at hl 1 rfl) ?_
      refine lv_iconst (v := nI 1) hx hb dX0_joinShots_28 (by decide) ?_
      refine rn_add (a := p) (b := 1) hx hb dX0_joinShots_29 ?_
      refine lv_iconst (v := nI 0) hx hb dX0_joinShots_30 (by decide) ?_
      refine rwV2 (rest := [.int (f (13 + 14 * p + 0))]) S (c_X3_readShot l E r rc f (p + 1) 0 (by omega) (by omega)) cd_X3_readShot bw_228 ⟨Nat.le_of_ble_eq_true rfl, Nat.le_of_ble_eq_true rfl⟩ ⟨Nat.zero_le _, Nat.zero_le _⟩ hP (hDa.to rfl) hE hA hS [0, 1] rfl rfl [r, rc] rfl rfl (ci := 2) rfl (q0 := 0) rfl (Nat.le_of_ble_eq_true rfl) hl.1 dX0_joinShots_31 (fun H locs hP _ hS => ?_)
      have hP : va_P E.1 vwCl [(r, .inr (2, [.ref rc])), (rc, .inl (E.2.1, 293, .inl f))] H := hP
      refine lv_iadd hx hb dX0_joinShots_34 ?_
      refine lv_istore_n (lv' := [(2, .int (f (13 + 14 * p + 0) + (f (13 + 14 * (p + 1) + 0)))), (0, .ref r), (1, .int (nI p))]) hx hb dX0_joinShots_35 rfl hl (by decide) rfl (fun ls hl => ?_)
      refine lv_iload_n hx hb dX0_joinShots_36 rfl (lv_at hl 0 rfl) ?_
      refine lv_bipush (v := nI 99) hx hb dX0_joinShots_37 (by decide) ?_
      refine lv_icmp_gt (tgt := 53) hx hb dX0_joinShots_39 (by decide) (fun c_3 => ?_) (fun c_3 => ?_)
      · refine lv_bipush (v := (-5)) hx hb dX0_joinShots_53 (by decide) ?_
        exact hret _ _ _ _ _ _ (by first | rw [cJv, ix_nI (show p < 2 ^ 31 by omega), if_neg c_1, if_neg c_2, if_pos c_3] | rw [cJv, if_neg c_1, if_neg c_2, if_pos c_3] | simp only [cJv, ix_nI (show p < 2 ^ 31 by omega), if_neg c_1, if_neg c_2, if_pos c_3]) (by first | rw [cJw, ix_nI (show p < 2 ^ 31 by omega), if_neg c_1, if_neg c_2, if_pos c_3] | rw [cJw, if_neg c_1, if_neg c_2, if_pos c_3] | simp only [cJw, ix_nI (show p < 2 ^ 31 by omega), if_neg c_1, if_neg c_2, if_pos c_3]) rfl hP hS dX0_joinShots_55
      · refine lv_aload_n hx hb dX0_joinShots_42 rfl (lv_at hl 1 rfl) ?_
        refine lv_iload_n hx hb dX0_joinShots_43 rfl (lv_at hl 2 rfl) ?_
        refine lv_iload_n hx hb dX0_joinShots_44 rfl (lv_at hl 2 rfl) ?_
        refine lv_iconst (v := nI 1) hx hb dX0_joinShots_45 (by decide) ?_
        refine rn_add (a := p) (b := 1) hx hb dX0_joinShots_46 ?_
        refine rwS3 (rest := []) S (c_X0_isSameStock l E r rc f p (p + 1) (by omega) (by omega)) cd_X0_isSameStock bw_264 ⟨Nat.le_of_ble_eq_true rfl, Nat.le_of_ble_eq_true rfl⟩ ⟨Nat.zero_le _, Nat.zero_le _⟩ hP (hDa.to rfl) hE hA hS [0, 1] rfl rfl [r, rc] rfl rfl (Nat.le_of_ble_eq_true rfl) hl.1 dX0_joinShots_47 (fun H locs hP _ hS => ?_)
        have hP : va_P E.1 vwCl [(r, .inr (2, [.ref rc])), (rc, .inl (E.2.1, 293, .inl f))] H := hP
        refine lv_if_ne (tgt := 56) hx hb dX0_joinShots_50 (by decide) (fun c_4 => ?_) (fun c_4 => ?_)
        · refine lv_aload_n hx hb dX0_joinShots_56 rfl (lv_at hl 1 rfl) ?_
          refine lv_iload_n hx hb dX0_joinShots_57 rfl (lv_at hl 2 rfl) ?_
          refine lv_iconst (v := nI 1) hx hb dX0_joinShots_58 (by decide) ?_
          refine rn_add (a := p) (b := 1) hx hb dX0_joinShots_59 ?_
          refine rwVv1 (rest := []) S (c_X3_closePlace l E r rc f n (p + 1) hf hn (by omega)) cd_X3_closePlace bw_267 ⟨Nat.le_of_ble_eq_true rfl, Nat.le_of_ble_eq_true rfl⟩ ⟨Nat.zero_le _, Nat.zero_le _⟩ hP (hDa.to rfl) hE hA hS [0, 1] rfl rfl [r, rc] rfl rfl (ci := 2) rfl (q0 := 0) rfl (Nat.le_of_ble_eq_true rfl) hl.1 dX0_joinShots_60 (fun H locs hP _ hS => ?_)
          have hP : va_P E.1 vwCl [(r, .inr (2, [.ref rc])), (rc, .inl (E.2.1, 293, .inl (clS f n (p + 1))))] H := hP
          refine lv_aload_n hx hb dX0_joinShots_63 rfl (lv_at hl 1 rfl) ?_
          refine lv_iload_n hx hb dX0_joinShots_64 rfl (lv_at hl 2 rfl) ?_
          refine lv_iconst (v := nI 0) hx hb dX0_joinShots_65 (by decide) ?_
          refine lv_iload_n hx hb dX0_joinShots_66 rfl (lv_at hl 0 rfl) ?_
          refine rwVv3 (rest := []) S (c_X3_writeShot l E r rc (clS f n (p + 1)) p 0 (f (13 + 14 * p + 0) + (f (13 + 14 * (p + 1) + 0))) (by omega) (by omega)) cd_X3_writeShot bw_197 ⟨Nat.le_of_ble_eq_true rfl, Nat.le_of_ble_eq_true rfl⟩ ⟨Nat.zero_le _, Nat.zero_le _⟩ hP (hDa.to rfl) hE hA hS [0, 1] rfl rfl [r, rc] rfl rfl (ci := 2) rfl (q0 := 0) rfl (Nat.le_of_ble_eq_true rfl) hl.1 dX0_joinShots_67 (fun H locs hP _ hS => ?_)
          have hP : va_P E.1 vwCl [(r, .inr (2, [.ref rc])), (rc, .inl (E.2.1, 293, .inl (upd (clS f n (p + 1)) (13 + 14 * p + 0) (f (13 + 14 * p + 0) + (f (13 + 14 * (p + 1) + 0))))))] H := hP
          refine lv_aload_n hx hb dX0_joinShots_70 rfl (lv_at hl 1 rfl) ?_
          refine lv_iload_n hx hb dX0_joinShots_71 rfl (lv_at hl 2 rfl) ?_
          refine lv_iconst (v := nI 1) hx hb dX0_joinShots_72 (by decide) ?_
          refine lv_iconst (v := nI 0) hx hb dX0_joinShots_73 (by decide) ?_
          refine rwVv3 (rest := []) S (c_X3_writeShot l E r rc (upd (clS f n (p + 1)) (13 + 14 * p + 0) (f (13 + 14 * p + 0) + (f (13 + 14 * (p + 1) + 0)))) p 1 (nI 0) (by omega) (by omega)) cd_X3_writeShot bw_197 ⟨Nat.le_of_ble_eq_true rfl, Nat.le_of_ble_eq_true rfl⟩ ⟨Nat.zero_le _, Nat.zero_le _⟩ hP (hDa.to rfl) hE hA hS [0, 1] rfl rfl [r, rc] rfl rfl (ci := 2) rfl (q0 := 0) rfl (Nat.le_of_ble_eq_true rfl) hl.1 dX0_joinShots_74 (fun H locs hP _ hS => ?_)
          have hP : va_P E.1 vwCl [(r, .inr (2, [.ref rc])), (rc, .inl (E.2.1, 293, .inl (upd (upd (clS f n (p + 1)) (13 + 14 * p + 0) (f (13 + 14 * p + 0) + (f (13 + 14 * (p + 1) + 0)))) (13 + 14 * p + 1) (nI 0))))] H := hP
          refine lv_iload_n hx hb dX0_joinShots_77 rfl (lv_at hl 0 rfl) ?_
          exact hret _ _ _ _ _ _ (by first | rw [cJv, ix_nI (show p < 2 ^ 31 by omega), if_neg c_1, if_neg c_2, if_neg c_3, if_neg c_4] | rw [cJv, if_neg c_1, if_neg c_2, if_neg c_3, if_neg c_4] | simp only [cJv, ix_nI (show p < 2 ^ 31 by omega), if_neg c_1, if_neg c_2, if_neg c_3, if_neg c_4]) (by first | rw [cJw, ix_nI (show p < 2 ^ 31 by omega), if_neg c_1, if_neg c_2, if_neg c_3, if_neg c_4] | rw [cJw, if_neg c_1, if_neg c_2, if_neg c_3, if_neg c_4] | simp only [cJw, ix_nI (show p < 2 ^ 31 by omega), if_neg c_1, if_neg c_2, if_neg c_3, if_neg c_4]) rfl hP hS dX0_joinShots_78
        · refine lv_bipush (v := (-5)) hx hb dX0_joinShots_53 (by decide) ?_
          exact hret _ _ _ _ _ _ (by first | rw [cJv, ix_nI (show p < 2 ^ 31 by omega), if_neg c_1, if_neg c_2, if_neg c_3, if_pos c_4] | rw [cJv, if_neg c_1, if_neg c_2, if_neg c_3, if_pos c_4] | simp only [cJv, ix_nI (show p < 2 ^ 31 by omega), if_neg c_1, if_neg c_2, if_neg c_3, if_pos c_4]) (by first | rw [cJw, ix_nI (show p < 2 ^ 31 by omega), if_neg c_1, if_neg c_2, if_neg c_3, if_pos c_4] | rw [cJw, if_neg c_1, if_neg c_2, if_neg c_3, if_pos c_4] | simp only [cJw, ix_nI (show p < 2 ^ 31 by omega), if_neg c_1, if_neg c_2, if_neg c_3, if_pos c_4]) rfl hP hS dX0_joinShots_55
    · refine lv_iconst (v := (-1)) hx hb dX0_joinShots_18 (by decide) ?_
      exact hret _ _ _ _ _ _ (by first | rw [cJv, ix_nI (show p < 2 ^ 31 by omega), if_neg c_1, if_pos c_2] | rw [cJv, if_neg c_1, if_pos c_2] | simp only [cJv, ix_nI (show p < 2 ^ 31 by omega), if_neg c_1, if_pos c_2]) (by first | rw [cJw, ix_nI (show p < 2 ^ 31 by omega), if_neg c_1, if_pos c_2] | rw [cJw, if_neg c_1, if_pos c_2] | simp only [cJw, ix_nI (show p < 2 ^ 31 by omega), if_neg c_1, if_pos c_2]) rfl hP hS dX0_joinShots_19

theorem cd_X0_hoursOfPrint : cdS yX0_hoursOfPrint cX0_hoursOfPrint 1 (some .int) 1 := ⟨⟨bw_280, bw_10, by decide, by decide, by decide +kernel⟩, bw_279⟩
def cHo (f : Nat → Int32) (n : Nat) : Int32 := (cFt f n + (nI 99)) / (nI 100)
set_option maxHeartbeats 4000000 in
set_option maxRecDepth 100000 in
theorem c_X0_hoursOfPrint (l : Launch) (E : EV) (r : Nat) (rc : Nat) (f : Nat → Int32) (n : Nat) (hf : f 12 = nI n) (hn : n ≤ 20) : rcI l E yX0_hoursOfPrint cX0_hoursOfPrint 1 .int 2 [.ref r] [(r, .inr (2, [.ref rc])), (rc, .inl (E.2.1, 293, .inl f))] (cHo f n) [(r, .inr (2, [.ref rc])), (rc, .inl (E.2.1, 293, .inl f))] := by
  refine rcI_of (by decide) (Nat.le_of_ble_eq_true rfl) ?_
  intro pg e s m below meth c Q A ls S hP hD0 hE hA hl hret
  have hx := S.1
  have hb := S.2.1
  have hown := S.2.2.2.1
  have hts := S.2.2.2.2
  have hK := hE.1
  have hS : va_S A s.heap s.heap [] := va_S.rf
  have hDa : va_Da A [r, rc] := ⟨_, hD0, rfl⟩
  have hl : lv_has ls 1 [(0, .ref r)] := hl
  refine lv_aload_n hx hb dX0_hoursOfPrint_0 rfl (lv_at hl 0 rfl) ?_
  refine lv_aload_n hx hb dX0_hoursOfPrint_1 rfl (lv_at hl 0 rfl) ?_
  refine rwV0 (rest := [.ref r]) S (c_X3_shots l E r rc f n hf) cd_X3_shots bw_158 ⟨Nat.le_of_ble_eq_true rfl, Nat.le_of_ble_eq_true rfl⟩ ⟨Nat.zero_le _, Nat.zero_le _⟩ hP (hDa.to rfl) hE hA hS [0, 1] rfl rfl [r, rc] rfl rfl (ci := 2) rfl (q0 := 0) rfl (Nat.le_of_ble_eq_true rfl) hl.1 dX0_hoursOfPrint_2 (fun H locs hP _ hS => ?_)
  have hP : va_P E.1 vwCl [(r, .inr (2, [.ref rc])), (rc, .inl (E.2.1, 293, .inl f))] H := hP
  refine rwS2 (rest := []) S (c_X5_feetBefore l E r rc f n hn) cd_X5_feetBefore bw_281 ⟨Nat.le_of_ble_eq_true rfl, Nat.le_of_ble_eq_true rfl⟩ ⟨Nat.zero_le _, Nat.zero_le _⟩ hP (hDa.to rfl) hE hA hS [0, 1] rfl rfl [r, rc] rfl rfl (Nat.le_of_ble_eq_true rfl) hl.1 dX0_hoursOfPrint_5 (fun H locs hP _ hS => ?_)
  have hP : va_P E.1 vwCl [(r, .inr (2, [.ref rc])), (rc, .inl (E.2.1, 293, .inl f))] H := hP
  refine lv_bipush (v := nI 99) hx hb dX0_hoursOfPrint_8 (by decide) ?_
  refine lv_iadd hx hb dX0_hoursOfPrint_10 ?_
  refine lv_bipush (v := nI 100) hx hb dX0_hoursOfPrint_11 (by decide) ?_
  refine lv_idiv hx hb dX0_hoursOfPrint_13 (by decide) ?_
  exact hret _ _ _ _ _ _ (by rw [cHo]) rfl rfl hP hS dX0_hoursOfPrint_14

