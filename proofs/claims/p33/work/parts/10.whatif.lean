/-! what would be -/
def ff (P : Nat → Bool) : Nat → Nat
  | 0 => 0
  | n + 1 => if ff P n < n then ff P n else if P n then n else n + 1
termination_by n => n
theorem ff_no {P : Nat → Bool} : ∀ {n : Nat}, (∀ i, i < n → P i = false) → ff P n = n
  | 0, _ => by rw [ff]
  | n + 1, h => by
    have e := ff_no (P := P) (n := n) (fun i hi => h i (by omega))
    rw [ff, e, if_neg (Nat.lt_irrefl n), h n (by omega)]
    rfl
theorem ff_at {P : Nat → Bool} {k : Nat} (h : ∀ i, i < k → P i = false) (hk : P k = true) : ∀ {n : Nat}, k < n → ff P n = k
  | 0, hn => absurd hn (Nat.not_lt_zero _)
  | n + 1, hn => by
    rcases Nat.lt_or_ge k n with q | q
    · have e := ff_at h hk q
      rw [ff, e, if_pos q]
    · have e : k = n := by omega
      subst e
      rw [ff, ff_no h, if_neg (Nat.lt_irrefl k), hk]
      rfl
def ffz (x : Nat → Int32) (n : Nat) : Nat := ff (fun i => decide (x i = 0)) n
def ffn (x : Nat → Int32) (n : Nat) : Nat := ff (fun i => !decide (x i = 0)) n
theorem ffz_no {x : Nat → Int32} {n : Nat} (h : ∀ i, i < n → ¬ x i = 0) : ffz x n = n := ff_no (fun i hi => decide_eq_false (h i hi))
theorem ffz_at {x : Nat → Int32} {k n : Nat} (h : ∀ i, i < k → ¬ x i = 0) (hk : x k = 0) (hn : k < n) : ffz x n = k := ff_at (fun i hi => decide_eq_false (h i hi)) (decide_eq_true hk) hn
theorem ffn_no {x : Nat → Int32} {n : Nat} (h : ∀ i, i < n → x i = 0) : ffn x n = n := ff_no (fun i hi => by simp [h i hi])
theorem ffn_at {x : Nat → Int32} {k n : Nat} (h : ∀ i, i < k → x i = 0) (hk : ¬ x k = 0) (hn : k < n) : ffn x n = k := ff_at (fun i hi => by simp [h i hi]) (by simp [hk]) hn
def an (P : Nat → Int32) : Nat → Int32
  | 0 => nI 0
  | k + 1 => if P k = 0 then nI 1 else an P k
theorem an_0 {P : Nat → Int32} : ∀ {n : Nat}, (∀ i, i < n → ¬ P i = 0) → an P n = nI 0
  | 0, _ => rfl
  | n + 1, h => by rw [an, if_neg (h n (by omega))]; exact an_0 (fun i hi => h i (by omega))
theorem an_1 {P : Nat → Int32} {k : Nat} (hk : P k = 0) : ∀ {n : Nat}, k < n → an P n = nI 1
  | 0, hn => absurd hn (Nat.not_lt_zero _)
  | n + 1, hn => by
    rw [an]
    by_cases c : P n = 0
    · rw [if_pos c]
    · rw [if_neg c]
      refine an_1 hk ?_
      rcases Nat.lt_or_ge k n with q | q
      · exact q
      · have e : k = n := by omega
        subst e
        exact absurd hk c
theorem an_z (P : Nat → Int32) : ∀ n : Nat, narrow .boolean (.int (an P n)) = .int (an P n)
  | 0 => by show narrow .boolean (.int (nI 0)) = .int (nI 0); decide
  | n + 1 => by
    rw [an]
    split
    · decide
    · exact an_z P n
theorem cd_X6_lightNeeded : cdS yX6_lightNeeded cX6_lightNeeded 6 (some .int) 4 := ⟨⟨bw_498, bw_11, by decide, by decide, by decide +kernel⟩, bw_497⟩
def cNd (f : Nat → Int32) (p : Nat) (co : Nat) (lo : Int32) : Int32 := f (13 + 14 * p + (2 + co)) + (f (13 + 14 * p + (5 + co))) + lo - (f (7 + co))
set_option maxHeartbeats 4000000 in
set_option maxRecDepth 100000 in
theorem c_X6_lightNeeded (l : Launch) (E : EV) (r : Nat) (rc : Nat) (f : Nat → Int32) (p : Nat) (co : Nat) (lo : Int32) (hp : p < 20) (hco : co < 3) : rcI l E yX6_lightNeeded cX6_lightNeeded 6 .int 1 [.ref r, .int (nI p), .int (nI co), .int lo] [(r, .inr (2, [.ref rc])), (rc, .inl (E.2.1, 293, .inl f))] (cNd f p co lo) [(r, .inr (2, [.ref rc])), (rc, .inl (E.2.1, 293, .inl f))] := by
  refine rcI_of (by decide) (Nat.le_of_ble_eq_true rfl) ?_
  intro pg e s m below meth c Q A ls S hP hD0 hE hA hl hret
  have hx := S.1
  have hb := S.2.1
  have hown := S.2.2.2.1
  have hts := S.2.2.2.2
  have hK := hE.1
  have hS : va_S A s.heap s.heap [] := va_S.rf
  have hDa : va_Da A [r, rc] := ⟨_, hD0, rfl⟩
  have hl : lv_has ls 6 [(0, .ref r), (1, .int (nI p)), (2, .int (nI co)), (3, .int lo)] := hl
  refine lv_aload_n hx hb dX6_lightNeeded_0 rfl (lv_at hl 0 rfl) ?_
  refine lv_iload_n hx hb dX6_lightNeeded_1 rfl (lv_at hl 1 rfl) ?_
  refine lv_iconst (v := nI 2) hx hb dX6_lightNeeded_2 (by decide) ?_
  refine lv_iload_n hx hb dX6_lightNeeded_3 rfl (lv_at hl 2 rfl) ?_
  refine rn_add (a := 2) (b := co) hx hb dX6_lightNeeded_4 ?_
  refine rwV2 (rest := []) S (c_X3_readShot l E r rc f p (2 + co) hp (by omega)) cd_X3_readShot bw_499 ⟨Nat.le_of_ble_eq_true rfl, Nat.le_of_ble_eq_true rfl⟩ ⟨Nat.zero_le _, Nat.zero_le _⟩ hP (hDa.to rfl) hE hA hS [0, 1] rfl rfl [r, rc] rfl rfl (ci := 2) rfl (q0 := 0) rfl (Nat.le_of_ble_eq_true rfl) hl.1 dX6_lightNeeded_5 (fun H locs hP _ hS => ?_)
  have hP : va_P E.1 vwCl [(r, .inr (2, [.ref rc])), (rc, .inl (E.2.1, 293, .inl f))] H := hP
  refine lv_istore (lv' := [(4, .int (f (13 + 14 * p + (2 + co)))), (0, .ref r), (1, .int (nI p)), (2, .int (nI co)), (3, .int lo)]) hx hb dX6_lightNeeded_8 hl (by decide) rfl (fun ls hl => ?_)
  refine lv_aload_n hx hb dX6_lightNeeded_10 rfl (lv_at hl 1 rfl) ?_
  refine lv_iload_n hx hb dX6_lightNeeded_11 rfl (lv_at hl 2 rfl) ?_
  refine lv_iconst (v := nI 5) hx hb dX6_lightNeeded_12 (by decide) ?_
  refine lv_iload_n hx hb dX6_lightNeeded_13 rfl (lv_at hl 3 rfl) ?_
  refine rn_add (a := 5) (b := co) hx hb dX6_lightNeeded_14 ?_
  refine rwV2 (rest := []) S (c_X3_readShot l E r rc f p (5 + co) hp (by omega)) cd_X3_readShot bw_499 ⟨Nat.le_of_ble_eq_true rfl, Nat.le_of_ble_eq_true rfl⟩ ⟨Nat.zero_le _, Nat.zero_le _⟩ hP (hDa.to rfl) hE hA hS [0, 1] rfl rfl [r, rc] rfl rfl (ci := 2) rfl (q0 := 0) rfl (Nat.le_of_ble_eq_true rfl) hl.1 dX6_lightNeeded_15 (fun H locs hP _ hS => ?_)
  have hP : va_P E.1 vwCl [(r, .inr (2, [.ref rc])), (rc, .inl (E.2.1, 293, .inl f))] H := hP
  refine lv_istore (lv' := [(5, .int (f (13 + 14 * p + (5 + co)))), (4, .int (f (13 + 14 * p + (2 + co)))), (0, .ref r), (1, .int (nI p)), (2, .int (nI co)), (3, .int lo)]) hx hb dX6_lightNeeded_18 hl (by decide) rfl (fun ls hl => ?_)
  refine lv_iload hx hb dX6_lightNeeded_20 (lv_at hl 1 rfl) ?_
  refine lv_iload hx hb dX6_lightNeeded_22 (lv_at hl 0 rfl) ?_
  refine lv_iadd hx hb dX6_lightNeeded_24 ?_
  refine lv_iload_n hx hb dX6_lightNeeded_25 rfl (lv_at hl 5 rfl) ?_
  refine lv_iadd hx hb dX6_lightNeeded_26 ?_
  refine lv_aload_n hx hb dX6_lightNeeded_27 rfl (lv_at hl 2 rfl) ?_
  refine lv_bipush (v := nI 7) hx hb dX6_lightNeeded_28 (by decide) ?_
  refine lv_iload_n hx hb dX6_lightNeeded_30 rfl (lv_at hl 4 rfl) ?_
  refine rn_add (a := 7) (b := co) hx hb dX6_lightNeeded_31 ?_
  refine rwV1 (rest := [.int (f (13 + 14 * p + (2 + co)) + (f (13 + 14 * p + (5 + co))) + lo)]) S (c_X3_read l E r rc f (7 + co) (by omega)) cd_X3_read bw_500 ⟨Nat.le_of_ble_eq_true rfl, Nat.le_of_ble_eq_true rfl⟩ ⟨Nat.zero_le _, Nat.zero_le _⟩ hP (hDa.to rfl) hE hA hS [0, 1] rfl rfl [r, rc] rfl rfl (ci := 2) rfl (q0 := 0) rfl (Nat.le_of_ble_eq_true rfl) hl.1 dX6_lightNeeded_32 (fun H locs hP _ hS => ?_)
  have hP : va_P E.1 vwCl [(r, .inr (2, [.ref rc])), (rc, .inl (E.2.1, 293, .inl f))] H := hP
  refine lv_isub hx hb dX6_lightNeeded_35 ?_
  exact hret _ _ _ _ _ _ (by rw [cNd]) rfl rfl hP hS dX6_lightNeeded_36

def cSo (f : Nat → Int32) (co : Nat) (tr : Int32) : Nat → Int32
  | 0 => nI 0
  | k + 1 => cSo f co tr k + iabs (cOf f k co tr)
theorem cd_X6_offTogether : cdS yX6_offTogether cX6_offTogether 5 (some .int) 3 := ⟨⟨bw_476, bw_11, by decide, by decide, by decide +kernel⟩, bw_475⟩
set_option maxHeartbeats 4000000 in
set_option maxRecDepth 100000 in
theorem c_X6_offTogether (l : Launch) (E : EV) (r : Nat) (rc : Nat) (f : Nat → Int32) (n : Nat) (co : Nat) (tr : Int32) (hf : f 12 = nI n) (hn : n ≤ 20) (hco : co < 3) : rcI l E yX6_offTogether cX6_offTogether 5 .int 3 [.ref r, .int (nI co), .int tr] [(r, .inr (2, [.ref rc])), (rc, .inl (E.2.1, 293, .inl f))] (cSo f co tr n) [(r, .inr (2, [.ref rc])), (rc, .inl (E.2.1, 293, .inl f))] := by
  refine rcI_of (by decide) (Nat.le_of_ble_eq_true rfl) ?_
  intro pg e s m below meth c Q A ls S hP hD0 hE hA hl hret
  have hx := S.1
  have hb := S.2.1
  have hown := S.2.2.2.1
  have hts := S.2.2.2.2
  have hK := hE.1
  have hS : va_S A s.heap s.heap [] := va_S.rf
  have hDa : va_Da A [r, rc] := ⟨_, hD0, rfl⟩
  have hl : lv_has ls 5 [(0, .ref r), (1, .int (nI co)), (2, .int tr)] := hl
  refine lv_iconst (v := nI 0) hx hb dX6_offTogether_0 (by decide) ?_
  refine lv_istore_n (lv' := [(3, .int (nI 0)), (0, .ref r), (1, .int (nI co)), (2, .int tr)]) hx hb dX6_offTogether_1 rfl hl (by decide) rfl (fun ls hl => ?_)
  refine lv_iconst (v := nI 0) hx hb dX6_offTogether_2 (by decide) ?_
  refine lv_istore (lv' := [(4, .int (nI 0)), (3, .int (nI 0)), (0, .ref r), (1, .int (nI co)), (2, .int tr)]) hx hb dX6_offTogether_3 hl (by decide) rfl (fun ls hl => ?_)
  have loop5 : ∀ (fuel : Nat) (k : Nat), n - k < fuel → (k ≤ n) → ∀ (H : Heap) (locs : List Loc), va_P E.1 vwCl [(r, .inr (2, [.ref rc])), (rc, .inl (E.2.1, 293, .inl f))] H → va_S A s.heap H locs → ∀ ls : Array Slot, lv_has ls 5 [(4, .int (nI k)), (3, .int (cSo f co tr k)), (0, .ref r), (1, .int (nI co)), (2, .int tr)] → W pg l e (rq 3) s m ([.ref r, .int (nI co), .int tr] : List Value).toArray below meth c H locs 0 0 Q (F0 m 5 ls []) := by
    intro fuel
    induction fuel with
    | zero => intro k h9; exact absurd h9 (Nat.not_lt_zero _)
    | succ fuel ih5 =>
      intro k hfu5 hk H locs hP hS ls hl
      refine lv_iload hx hb dX6_offTogether_5 (lv_at hl 0 rfl) ?_
      refine lv_aload_n hx hb dX6_offTogether_7 rfl (lv_at hl 2 rfl) ?_
      refine rwV0 (rest := [.int (nI k)]) S (c_X3_shots l E r rc f n hf) cd_X3_shots bw_477 ⟨Nat.le_of_ble_eq_true rfl, Nat.le_of_ble_eq_true rfl⟩ ⟨Nat.zero_le _, Nat.zero_le _⟩ hP (hDa.to rfl) hE hA hS [0, 1] rfl rfl [r, rc] rfl rfl (ci := 2) rfl (q0 := 0) rfl (Nat.le_of_ble_eq_true rfl) hl.1 dX6_offTogether_8 (fun H locs hP _ hS => ?_)
      have hP : va_P E.1 vwCl [(r, .inr (2, [.ref rc])), (rc, .inl (E.2.1, 293, .inl f))] H := hP
      refine rn_icmp_ge (a := k) (b := n) (tgt := 41) hx hb (by omega) (by omega) dX6_offTogether_11 (by decide) (fun c_1 => ?_) (fun c_1 => ?_)
      · have hex : n = k := by omega
        subst hex
        refine lv_iload_n hx hb dX6_offTogether_41 rfl (lv_at hl 1 rfl) ?_
        exact hret _ _ _ _ _ _ rfl rfl rfl hP hS dX6_offTogether_42
      · refine lv_iload hx hb dX6_offTogether_14 (lv_at hl 0 rfl) ?_
        refine lv_bipush (v := nI 20) hx hb dX6_offTogether_16 (by decide) ?_
        refine rn_icmp_ge (a := k) (b := 20) (tgt := 41) hx hb (by omega) (by omega) dX6_offTogether_18 (by decide) (fun c_2 => absurd c_2 (by omega)) (fun c_2 => ?_)
        refine lv_iload_n hx hb dX6_offTogether_21 rfl (lv_at hl 1 rfl) ?_
        refine lv_aload_n hx hb dX6_offTogether_22 rfl (lv_at hl 2 rfl) ?_
        refine lv_iload hx hb dX6_offTogether_23 (lv_at hl 0 rfl) ?_
        refine lv_iload_n hx hb dX6_offTogether_25 rfl (lv_at hl 3 rfl) ?_
        refine lv_iload_n hx hb dX6_offTogether_26 rfl (lv_at hl 4 rfl) ?_
        refine rwS4 (rest := [.int (cSo f co tr k)]) S (c_X5_offWith l E r rc f k co tr (by omega) hco) cd_X5_offWith bw_478 ⟨Nat.le_of_ble_eq_true rfl, Nat.le_of_ble_eq_true rfl⟩ ⟨Nat.zero_le _, Nat.zero_le _⟩ hP (hDa.to rfl) hE hA hS [0, 1] rfl rfl [r, rc] rfl rfl (Nat.le_of_ble_eq_true rfl) hl.1 dX6_offTogether_27 (fun H locs hP _ hS => ?_)
        have hP : va_P E.1 vwCl [(r, .inr (2, [.ref rc])), (rc, .inl (E.2.1, 293, .inl f))] H := hP
        refine rw_abs (rest := [.int (cSo f co tr k)]) S hl.1 bw_479 ⟨Nat.le_of_ble_eq_true rfl, Nat.le_of_ble_eq_true rfl⟩ (Nat.le_of_ble_eq_true rfl) ⟨Nat.zero_le _, Nat.zero_le _⟩ dX6_offTogether_30 ?_
        refine lv_iadd hx hb dX6_offTogether_33 ?_
        refine lv_istore_n (lv' := [(3, .int (cSo f co tr k + (iabs (cOf f k co tr)))), (4, .int (nI k)), (0, .ref r), (1, .int (nI co)), (2, .int tr)]) hx hb dX6_offTogether_34 rfl hl (by decide) rfl (fun ls hl => ?_)
        refine rn_inc (a := k) (d := 1) (lv' := [(4, .int (nI (k + 1))), (3, .int (cSo f co tr k + (iabs (cOf f k co tr)))), (0, .ref r), (1, .int (nI co)), (2, .int tr)]) hx hb dX6_offTogether_35 hl (k := 1) rfl (by decide) (by decide) rfl (fun ls hl => ?_)
        refine lv_goto (tgt := 5) hx hb dX6_offTogether_38 (by decide) ?_
        have hl : lv_has ls 5 [(4, .int (nI (k + 1))), (3, .int (cSo f co tr (k + 1))), (0, .ref r), (1, .int (nI co)), (2, .int tr)] := lv_sub hl [0, 1, 2, 3, 4] rfl
        exact ih5 (k + 1) (by omega) (by omega) _ _ hP hS _ hl
  have hl : lv_has ls 5 [(4, .int (nI 0)), (3, .int (cSo f co tr 0)), (0, .ref r), (1, .int (nI co)), (2, .int tr)] := lv_sub hl [0, 1, 2, 3, 4] rfl
  exact loop5 _ 0 (Nat.lt_succ_self _) (by omega) _ _ hP hS _ hl

/-- the trims in the order in which they are tried; the best of the first t, and how far off with it -/
def trimOf (t : Nat) : Int32 := if t % 2 = 0 then nI (t / 2) else -nI (t / 2)
def cLq (f : Nat → Int32) (n co : Nat) : Nat → Int32 × Int32
  | 0 => (nI 0, cSo f co (nI 0) n)
  | t + 1 => if t < 2 then (nI 0, cSo f co (nI 0) n) else if (cLq f n co t).2 ≤ cSo f co (trimOf t) n then cLq f n co t else (trimOf t, cSo f co (trimOf t) n)
theorem cLq_2 (f : Nat → Int32) (n co : Nat) : cLq f n co 2 = (nI 0, cSo f co (nI 0) n) := by rw [cLq, if_pos (by omega)]
theorem cLq_p {f : Nat → Int32} {n co t : Nat} (ht : 2 ≤ t) (h : (cLq f n co t).2 ≤ cSo f co (trimOf t) n) : cLq f n co (t + 1) = cLq f n co t := by rw [cLq, if_neg (by omega), if_pos h]
theorem cLq_n {f : Nat → Int32} {n co t : Nat} (ht : 2 ≤ t) (h : ¬ (cLq f n co t).2 ≤ cSo f co (trimOf t) n) : cLq f n co (t + 1) = (trimOf t, cSo f co (trimOf t) n) := by rw [cLq, if_neg (by omega), if_neg h]
theorem cd_X6_leastOffTrim : cdS yX6_leastOffTrim cX6_leastOffTrim 7 (some .int) 2 := ⟨⟨bw_473, bw_11, by decide, by decide, by decide +kernel⟩, bw_472⟩
set_option maxHeartbeats 4000000 in
set_option maxRecDepth 100000 in
theorem c_X6_leastOffTrim (l : Launch) (E : EV) (r : Nat) (rc : Nat) (f : Nat → Int32) (n : Nat) (co : Nat) (hf : f 12 = nI n) (hn : n ≤ 20) (hco : co < 3) : rcI l E yX6_leastOffTrim cX6_leastOffTrim 7 .int 4 [.ref r, .int (nI co)] [(r, .inr (2, [.ref rc])), (rc, .inl (E.2.1, 293, .inl f))] ((cLq f n co 42).1) [(r, .inr (2, [.ref rc])), (rc, .inl (E.2.1, 293, .inl f))] := by
  refine rcI_of (by decide) (Nat.le_of_ble_eq_true rfl) ?_
  intro pg e s m below meth c Q A ls S hP hD0 hE hA hl hret
  have hx := S.1
  have hb := S.2.1
  have hown := S.2.2.2.1
  have hts := S.2.2.2.2
  have hK := hE.1
  have hS : va_S A s.heap s.heap [] := va_S.rf
  have hDa : va_Da A [r, rc] := ⟨_, hD0, rfl⟩
  have hl : lv_has ls 7 [(0, .ref r), (1, .int (nI co))] := hl
  refine lv_iconst (v := nI 0) hx hb dX6_leastOffTrim_0 (by decide) ?_
  refine lv_istore_n (lv' := [(2, .int (nI 0)), (0, .ref r), (1, .int (nI co))]) hx hb dX6_leastOffTrim_1 rfl hl (by decide) rfl (fun ls hl => ?_)
  refine lv_aload_n hx hb dX6_leastOffTrim_2 rfl (lv_at hl 1 rfl) ?_
  refine lv_iload_n hx hb dX6_leastOffTrim_3 rfl (lv_at hl 2 rfl) ?_
  refine lv_iconst (v := nI 0) hx hb dX6_leastOffTrim_4 (by decide) ?_
  refine rwS3 (rest := []) S (c_X6_offTogether l E r rc f n co (nI 0) hf hn hco) cd_X6_offTogether bw_474 ⟨Nat.le_of_ble_eq_true rfl, Nat.le_of_ble_eq_true rfl⟩ ⟨Nat.zero_le _, Nat.zero_le _⟩ hP (hDa.to rfl) hE hA hS [0, 1] rfl rfl [r, rc] rfl rfl (Nat.le_of_ble_eq_true rfl) hl.1 dX6_leastOffTrim_5 (fun H locs hP _ hS => ?_)
  have hP : va_P E.1 vwCl [(r, .inr (2, [.ref rc])), (rc, .inl (E.2.1, 293, .inl f))] H := hP
  refine lv_istore_n (lv' := [(3, .int (cSo f co (nI 0) n)), (2, .int (nI 0)), (0, .ref r), (1, .int (nI co))]) hx hb dX6_leastOffTrim_8 rfl hl (by decide) rfl (fun ls hl => ?_)
  refine lv_iconst (v := nI 2) hx hb dX6_leastOffTrim_9 (by decide) ?_
  refine lv_istore (lv' := [(4, .int (nI 2)), (3, .int (cSo f co (nI 0) n)), (2, .int (nI 0)), (0, .ref r), (1, .int (nI co))]) hx hb dX6_leastOffTrim_10 hl (by decide) rfl (fun ls hl => ?_)
  have loop12 : ∀ (fuel : Nat) (t : Nat), 42 - t < fuel → (2 ≤ t) → (t ≤ 42) → ∀ (H : Heap) (locs : List Loc), va_P E.1 vwCl [(r, .inr (2, [.ref rc])), (rc, .inl (E.2.1, 293, .inl f))] H → va_S A s.heap H locs → ∀ ls : Array Slot, lv_has ls 7 [(4, .int (nI t)), (3, .int ((cLq f n co t).2)), (2, .int ((cLq f n co t).1)), (0, .ref r), (1, .int (nI co))] → W pg l e (rq 4) s m ([.ref r, .int (nI co)] : List Value).toArray below meth c H locs 0 0 Q (F0 m 12 ls []) := by
    intro fuel
    induction fuel with
    | zero => intro t h9; exact absurd h9 (Nat.not_lt_zero _)
    | succ fuel ih12 =>
      intro t hfu12 ht ht2 H locs hP hS ls hl
      refine lv_iload hx hb dX6_leastOffTrim_12 (lv_at hl 0 rfl) ?_
      refine lv_bipush (v := nI 41) hx hb dX6_leastOffTrim_14 (by decide) ?_
      refine rn_icmp_gt (a := t) (b := 41) (tgt := 67) hx hb (by omega) (by omega) dX6_leastOffTrim_16 (by decide) (fun c_1 => ?_) (fun c_1 => ?_)
      · have hex : 42 = t := by omega
        subst hex
        refine lv_iload_n hx hb dX6_leastOffTrim_67 rfl (lv_at hl 2 rfl) ?_
        exact hret _ _ _ _ _ _ rfl rfl rfl hP hS dX6_leastOffTrim_68
      · refine lv_iload hx hb dX6_leastOffTrim_19 (lv_at hl 0 rfl) ?_
        refine lv_iconst (v := nI 2) hx hb dX6_leastOffTrim_21 (by decide) ?_
        refine rn_rem (a := t) (b := 2) hx hb dX6_leastOffTrim_22 (by omega) (by omega) (by omega) ?_
        refine rn_if_ne (a := t % 2) (tgt := 33) hx hb (by omega) dX6_leastOffTrim_23 (by decide) (fun c_2 => ?_) (fun c_2 => ?_)
        · refine lv_iload hx hb dX6_leastOffTrim_33 (lv_at hl 0 rfl) ?_
          refine lv_iconst (v := nI 2) hx hb dX6_leastOffTrim_35 (by decide) ?_
          refine rn_div (a := t) (b := 2) hx hb dX6_leastOffTrim_36 (by omega) (by omega) (by omega) ?_
          refine lv_ineg hx hb dX6_leastOffTrim_37 ?_
          refine W.eq (congrArg (fun z9 => F0 m 38 ls (.int z9 :: [])) (show -(nI (t / 2)) = trimOf t from (by first | rw [trimOf, if_pos c_2] | rw [trimOf, if_neg c_2]))) ?_
          refine lv_istore (lv' := [(5, .int (trimOf t)), (4, .int (nI t)), (3, .int ((cLq f n co t).2)), (2, .int ((cLq f n co t).1)), (0, .ref r), (1, .int (nI co))]) hx hb dX6_leastOffTrim_38 hl (by decide) rfl (fun ls hl => ?_)
          refine lv_aload_n hx hb dX6_leastOffTrim_40 rfl (lv_at hl 4 rfl) ?_
          refine lv_iload_n hx hb dX6_leastOffTrim_41 rfl (lv_at hl 5 rfl) ?_
          refine lv_iload hx hb dX6_leastOffTrim_42 (lv_at hl 0 rfl) ?_
          refine rwS3 (rest := []) S (c_X6_offTogether l E r rc f n co (trimOf t) hf hn hco) cd_X6_offTogether bw_474 ⟨Nat.le_of_ble_eq_true rfl, Nat.le_of_ble_eq_true rfl⟩ ⟨Nat.zero_le _, Nat.zero_le _⟩ hP (hDa.to rfl) hE hA hS [0, 1] rfl rfl [r, rc] rfl rfl (Nat.le_of_ble_eq_true rfl) hl.1 dX6_leastOffTrim_44 (fun H locs hP _ hS => ?_)
          have hP : va_P E.1 vwCl [(r, .inr (2, [.ref rc])), (rc, .inl (E.2.1, 293, .inl f))] H := hP
          refine lv_istore (lv' := [(6, .int (cSo f co (trimOf t) n)), (5, .int (trimOf t)), (4, .int (nI t)), (3, .int ((cLq f n co t).2)), (2, .int ((cLq f n co t).1)), (0, .ref r), (1, .int (nI co))]) hx hb dX6_leastOffTrim_47 hl (by decide) rfl (fun ls hl => ?_)
          refine lv_iload hx hb dX6_leastOffTrim_49 (lv_at hl 0 rfl) ?_
          refine lv_iload_n hx hb dX6_leastOffTrim_51 rfl (lv_at hl 3 rfl) ?_
          refine lv_icmp_ge (tgt := 61) hx hb dX6_leastOffTrim_52 (by decide) (fun c_3 => ?_) (fun c_3 => ?_)
          · refine rn_inc (a := t) (d := 1) (lv' := [(4, .int (nI (t + 1))), (6, .int (cSo f co (trimOf t) n)), (5, .int (trimOf t)), (3, .int ((cLq f n co t).2)), (2, .int ((cLq f n co t).1)), (0, .ref r), (1, .int (nI co))]) hx hb dX6_leastOffTrim_61 hl (k := 2) rfl (by decide) (by decide) rfl (fun ls hl => ?_)
            refine lv_goto (tgt := 12) hx hb dX6_leastOffTrim_64 (by decide) ?_
            have hl : lv_has ls 7 [(4, .int (nI (t + 1))), (3, .int ((cLq f n co t).2)), (2, .int ((cLq f n co t).1)), (0, .ref r), (1, .int (nI co))] := lv_sub hl [0, 3, 4, 5, 6] rfl
            have hl : lv_has ls 7 [(4, .int (nI (t + 1))), (3, .int ((cLq f n co (t + 1)).2)), (2, .int ((cLq f n co (t + 1)).1)), (0, .ref r), (1, .int (nI co))] := by first | (rw [cLq_p ht c_3]; exact hl) | (rw [cLq_n ht c_3]; exact hl)
            exact ih12 (t + 1) (by omega) (by omega) (by omega) _ _ hP hS _ hl
          · refine lv_iload hx hb dX6_leastOffTrim_55 (lv_at hl 0 rfl) ?_
            refine lv_istore_n (lv' := [(3, .int (cSo f co (trimOf t) n)), (6, .int (cSo f co (trimOf t) n)), (5, .int (trimOf t)), (4, .int (nI t)), (2, .int ((cLq f n co t).1)), (0, .ref r), (1, .int (nI co))]) hx hb dX6_leastOffTrim_57 rfl hl (by decide) rfl (fun ls hl => ?_)
            refine lv_iload hx hb dX6_leastOffTrim_58 (lv_at hl 2 rfl) ?_
            refine lv_istore_n (lv' := [(2, .int (trimOf t)), (3, .int (cSo f co (trimOf t) n)), (6, .int (cSo f co (trimOf t) n)), (5, .int (trimOf t)), (4, .int (nI t)), (0, .ref r), (1, .int (nI co))]) hx hb dX6_leastOffTrim_60 rfl hl (by decide) rfl (fun ls hl => ?_)
            refine rn_inc (a := t) (d := 1) (lv' := [(4, .int (nI (t + 1))), (2, .int (trimOf t)), (3, .int (cSo f co (trimOf t) n)), (6, .int (cSo f co (trimOf t) n)), (5, .int (trimOf t)), (0, .ref r), (1, .int (nI co))]) hx hb dX6_leastOffTrim_61 hl (k := 4) rfl (by decide) (by decide) rfl (fun ls hl => ?_)
            refine lv_goto (tgt := 12) hx hb dX6_leastOffTrim_64 (by decide) ?_
            have hl : lv_has ls 7 [(4, .int (nI (t + 1))), (3, .int (cSo f co (trimOf t) n)), (2, .int (trimOf t)), (0, .ref r), (1, .int (nI co))] := lv_sub hl [0, 2, 1, 5, 6] rfl
            have hl : lv_has ls 7 [(4, .int (nI (t + 1))), (3, .int ((cLq f n co (t + 1)).2)), (2, .int ((cLq f n co (t + 1)).1)), (0, .ref r), (1, .int (nI co))] := by first | (rw [cLq_p ht c_3]; exact hl) | (rw [cLq_n ht c_3]; exact hl)
            exact ih12 (t + 1) (by omega) (by omega) (by omega) _ _ hP hS _ hl
        · refine lv_iload hx hb dX6_leastOffTrim_26 (lv_at hl 0 rfl) ?_
          refine lv_iconst (v := nI 2) hx hb dX6_leastOffTrim_28 (by decide) ?_
          refine rn_div (a := t) (b := 2) hx hb dX6_leastOffTrim_29 (by omega) (by omega) (by omega) ?_
          refine lv_goto (tgt := 38) hx hb dX6_leastOffTrim_30 (by decide) ?_
          refine W.eq (congrArg (fun z9 => F0 m 38 ls (.int z9 :: [])) (show nI (t / 2) = trimOf t from (by first | rw [trimOf, if_pos c_2] | rw [trimOf, if_neg c_2]))) ?_
          refine lv_istore (lv' := [(5, .int (trimOf t)), (4, .int (nI t)), (3, .int ((cLq f n co t).2)), (2, .int ((cLq f n co t).1)), (0, .ref r), (1, .int (nI co))]) hx hb dX6_leastOffTrim_38 hl (by decide) rfl (fun ls hl => ?_)
          refine lv_aload_n hx hb dX6_leastOffTrim_40 rfl (lv_at hl 4 rfl) ?_
          refine lv_iload_n hx hb dX6_leastOffTrim_41 rfl (lv_at hl 5 rfl) ?_
          refine lv_iload hx hb dX6_leastOffTrim_42 (lv_at hl 0 rfl) ?_
          refine rwS3 (rest := []) S (c_X6_offTogether l E r rc f n co (trimOf t) hf hn hco) cd_X6_offTogether bw_474 ⟨Nat.le_of_ble_eq_true rfl, Nat.le_of_ble_eq_true rfl⟩ ⟨Nat.zero_le _, Nat.zero_le _⟩ hP (hDa.to rfl) hE hA hS [0, 1] rfl rfl [r, rc] rfl rfl (Nat.le_of_ble_eq_true rfl) hl.1 dX6_leastOffTrim_44 (fun H locs hP _ hS => ?_)
          have hP : va_P E.1 vwCl [(r, .inr (2, [.ref rc])), (rc, .inl (E.2.1, 293, .inl f))] H := hP
          refine lv_istore (lv' := [(6, .int (cSo f co (trimOf t) n)), (5, .int (trimOf t)), (4, .int (nI t)), (3, .int ((cLq f n co t).2)), (2, .int ((cLq f n co t).1)), (0, .ref r), (1, .int (nI co))]) hx hb dX6_leastOffTrim_47 hl (by decide) rfl (fun ls hl => ?_)
          refine lv_iload hx hb dX6_leastOffTrim_49 (lv_at hl 0 rfl) ?_
          refine lv_iload_n hx hb dX6_leastOffTrim_51 rfl (lv_at hl 3 rfl) ?_
          refine lv_icmp_ge (tgt := 61) hx hb dX6_leastOffTrim_52 (by decide) (fun c_4 => ?_) (fun c_4 => ?_)
          · refine rn_inc (a := t) (d := 1) (lv' := [(4, .int (nI (t + 1))), (6, .int (cSo f co (trimOf t) n)), (5, .int (trimOf t)), (3, .int ((cLq f n co t).2)), (2, .int ((cLq f n co t).1)), (0, .ref r), (1, .int (nI co))]) hx hb dX6_leastOffTrim_61 hl (k := 2) rfl (by decide) (by decide) rfl (fun ls hl => ?_)
            refine lv_goto (tgt := 12) hx hb dX6_leastOffTrim_64 (by decide) ?_
            have hl : lv_has ls 7 [(4, .int (nI (t + 1))), (3, .int ((cLq f n co t).2)), (2, .int ((cLq f n co t).1)), (0, .ref r), (1, .int (nI co))] := lv_sub hl [0, 3, 4, 5, 6] rfl
            have hl : lv_has ls 7 [(4, .int (nI (t + 1))), (3, .int ((cLq f n co (t + 1)).2)), (2, .int ((cLq f n co (t + 1)).1)), (0, .ref r), (1, .int (nI co))] := by first | (rw [cLq_p ht c_4]; exact hl) | (rw [cLq_n ht c_4]; exact hl)
            exact ih12 (t + 1) (by omega) (by omega) (by omega) _ _ hP hS _ hl
          · refine lv_iload hx hb dX6_leastOffTrim_55 (lv_at hl 0 rfl) ?_
            refine lv_istore_n (lv' := [(3, .int (cSo f co (trimOf t) n)), (6, .int (cSo f co (trimOf t) n)), (5, .int (trimOf t)), (4, .int (nI t)), (2, .int ((cLq f n co t).1)), (0, .ref r), (1, .int (nI co))]) hx hb dX6_leastOffTrim_57 rfl hl (by decide) rfl (fun ls hl => ?_)
            refine lv_iload hx hb dX6_leastOffTrim_58 (lv_at hl 2 rfl) ?_
            refine lv_istore_n (lv' := [(2, .int (trimOf t)), (3, .int (cSo f co (trimOf t) n)), (6, .int (cSo f co (trimOf t) n)), (5, .int (trimOf t)), (4, .int (nI t)), (0, .ref r), (1, .int (nI co))]) hx hb dX6_leastOffTrim_60 rfl hl (by decide) rfl (fun ls hl => ?_)
            refine rn_inc (a := t) (d := 1) (lv' := [(4, .int (nI (t + 1))), (2, .int (trimOf t)), (3, .int (cSo f co (trimOf t) n)), (6, .int (cSo f co (trimOf t) n)), (5, .int (trimOf t)), (0, .ref r), (1, .int (nI co))]) hx hb dX6_leastOffTrim_61 hl (k := 4) rfl (by decide) (by decide) rfl (fun ls hl => ?_)
            refine lv_goto (tgt := 12) hx hb dX6_leastOffTrim_64 (by decide) ?_
            have hl : lv_has ls 7 [(4, .int (nI (t + 1))), (3, .int (cSo f co (trimOf t) n)), (2, .int (trimOf t)), (0, .ref r), (1, .int (nI co))] := lv_sub hl [0, 2, 1, 5, 6] rfl
            have hl : lv_has ls 7 [(4, .int (nI (t + 1))), (3, .int ((cLq f n co (t + 1)).2)), (2, .int ((cLq f n co (t + 1)).1)), (0, .ref r), (1, .int (nI co))] := by first | (rw [cLq_p ht c_4]; exact hl) | (rw [cLq_n ht c_4]; exact hl)
            exact ih12 (t + 1) (by omega) (by omega) (by omega) _ _ hP hS _ hl
  have hl : lv_has ls 7 [(4, .int (nI 2)), (3, .int (cSo f co (nI 0) n)), (2, .int (nI 0)), (0, .ref r), (1, .int (nI co))] := lv_sub hl [0, 1, 2, 3, 4] rfl
  have hl : lv_has ls 7 [(4, .int (nI 2)), (3, .int ((cLq f n co 2).2)), (2, .int ((cLq f n co 2).1)), (0, .ref r), (1, .int (nI co))] := by rw [cLq_2]; exact hl
  exact loop12 _ 2 (Nat.lt_succ_self _) (by omega) (by omega) _ _ hP hS _ hl

