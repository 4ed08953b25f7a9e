/-! the reference: the fault, the orders of a text -/
theorem ite_eq' {c : Prop} [Decidable c] {a b x : Int32} (ha : a = x) (hb : b = x) : (if c then a else b) = x := by
  split
  · exact ha
  · exact hb
theorem le_ite {c : Prop} [Decidable c] {a b L : Nat} (ha : a ≤ L) (hb : b ≤ L) : (if c then a else b) ≤ L := by
  split
  · exact ha
  · exact hb
theorem ge_ite {c : Prop} [Decidable c] {a b L : Nat} (ha : L ≤ a) (hb : L ≤ b) : L ≤ (if c then a else b) := by
  split
  · exact ha
  · exact hb
theorem mRoA_le {gt : Nat → Int32} {ln ta : Nat} {gu : Nat → Int32} (hta : ta ≤ ln) : mRoA gt ln ta gu ≤ ln := by
  unfold mRoA
  by_cases c0 : mCd gt ln ta = 0
  · rw [if_pos c0]; omega
  rw [if_neg c0]
  have h1 : ta + 1 ≤ ln := mCd_lt c0
  have h0 : ta + 1 - 1 ≤ ln := by omega
  repeat' (with_reducible refine le_ite ?_ ?_)
  all_goals first | with_reducible exact h1 | with_reducible exact h0 | with_reducible exact mRnA_le (h1) | with_reducible exact mTkA_le (mRnA_le (h1)) (by decide) | with_reducible exact mRnA_le (mTkA_le (mRnA_le (h1)) (by decide)) | with_reducible exact mTkA_le (mRnA_le (mTkA_le (mRnA_le (h1)) (by decide))) (by decide) | with_reducible exact mRnA_le (mTkA_le (mRnA_le (mTkA_le (mRnA_le (h1)) (by decide))) (by decide)) | with_reducible exact mTkA_le (mRnA_le (mTkA_le (mRnA_le (mTkA_le (mRnA_le (h1)) (by decide))) (by decide))) (by decide) | with_reducible exact mRnA_le (mTkA_le (mRnA_le (mTkA_le (mRnA_le (mTkA_le (mRnA_le (h1)) (by decide))) (by decide))) (by decide)) | with_reducible exact mRcA_le (mRnA_le (h1)) | with_reducible exact mTkA_le (mRcA_le (mRnA_le (h1))) (by decide) | with_reducible exact mRnA_le (mTkA_le (mRcA_le (mRnA_le (h1))) (by decide)) | with_reducible exact mRwA_le (h1)
theorem mTkA_ge {gt : Nat → Int32} {ln ta : Nat} {x : Int32} : ta ≤ mTkA gt ln ta x := by
  unfold mTkA
  refine ge_ite ?_ ?_ <;> omega
theorem mTkA_0 {gt : Nat → Int32} {ln ta : Nat} {x : Int32} (h : mTk gt ln ta x = 0) : mTkA gt ln ta x = ta := by
  unfold mTk at h
  unfold mTkA
  by_cases c : mCd gt ln ta = x
  · rw [if_pos c] at h; exact absurd h (by decide)
  · rw [if_neg c]; rfl
theorem mRnA_ge {gt : Nat → Int32} {ln ta : Nat} {gu : Nat → Int32} {q : Nat} : ta ≤ mRnA gt ln ta gu q := by
  unfold mRnA
  repeat' (with_reducible refine ge_ite ?_ ?_)
  all_goals omega
theorem mRcA_ge {gt : Nat → Int32} {ln ta : Nat} {gu : Nat → Int32} : ta ≤ mRcA gt ln ta gu := by
  unfold mRcA
  repeat' (with_reducible refine ge_ite ?_ ?_)
  all_goals omega
theorem mRwA_ge {gt : Nat → Int32} {ln ta : Nat} {gu : Nat → Int32} : ta ≤ mRwA gt ln ta gu := by
  unfold mRwA
  repeat' (with_reducible refine ge_ite ?_ ?_)
  all_goals (repeat (first | with_reducible exact Nat.le_refl _ | with_reducible refine Nat.le_trans ?_ mRnA_ge | with_reducible refine Nat.le_trans ?_ mTkA_ge | with_reducible refine Nat.le_trans ?_ mRcA_ge))
def pv (m : Nat) (v : Int32) (a : Nat) : Prop := v = 0 ∨ m ≤ a
theorem pv_both {m : Nat} {c : Prop} [Decidable c] {v w : Int32} {a b : Nat} (h1 : pv m v a) (h2 : pv m w b) : pv m (if c then v else w) (if c then a else b) := by
  split
  · exact h1
  · exact h2
theorem pv_a {m : Nat} {c : Prop} [Decidable c] {v : Int32} {a b : Nat} (h1 : pv m v a) (h2 : pv m v b) : pv m v (if c then a else b) := by
  split
  · exact h1
  · exact h2
theorem pv_v {m : Nat} {c : Prop} [Decidable c] {v w : Int32} {a : Nat} (h1 : pv m v a) (h2 : pv m w a) : pv m (if c then v else w) a := by
  split
  · exact h1
  · exact h2
theorem pv_0 {m a : Nat} : pv m (nI 0) a := Or.inl nI_0
theorem pv_l {m a : Nat} {v : Int32} (h : m ≤ a) : pv m v a := Or.inr h
theorem mRo_pv (gt : Nat → Int32) (ln ta : Nat) (gu : Nat → Int32) : pv (ta + 1) (mRo gt ln ta gu) (mRoA gt ln ta gu) := by
  unfold mRo mRoA
  repeat' (first | with_reducible exact pv_0 | with_reducible refine pv_both ?_ ?_ | with_reducible refine pv_a ?_ ?_ | with_reducible refine pv_v ?_ ?_)
  all_goals with_reducible refine pv_l ?_
  · with_reducible exact Nat.le_refl _
  · with_reducible exact mRnA_ge
  · with_reducible exact Nat.le_refl _
  · with_reducible exact Nat.le_trans (Nat.le_trans (Nat.le_trans (mRnA_ge) mRcA_ge) mTkA_ge) mRnA_ge
  · with_reducible exact Nat.le_trans (Nat.le_trans (mRnA_ge) mTkA_ge) mRnA_ge
  · with_reducible exact Nat.le_refl _
  · with_reducible exact Nat.le_trans (Nat.le_trans (Nat.le_trans (Nat.le_trans (Nat.le_trans (Nat.le_trans (mRnA_ge) mTkA_ge) mRnA_ge) mTkA_ge) mRnA_ge) mTkA_ge) mRnA_ge
  · with_reducible exact mRwA_ge
theorem mRo_lt {gt : Nat → Int32} {ln ta : Nat} {gu : Nat → Int32} (h : ¬ mRo gt ln ta gu = 0) : ta + 1 ≤ mRoA gt ln ta gu := (mRo_pv gt ln ta gu).resolve_left h
theorem mRoS_e (gt : Nat → Int32) (ln ta : Nat) (gu : Nat → Int32) : mRoS gt ln ta gu = mCd gt ln ta := by
  unfold mRoS
  repeat' (with_reducible refine ite_eq' ?_ ?_)
  all_goals rfl
/-- at, sign, numbers -/
abbrev MS : Type := Nat × Int32 × (Nat → Int32)
def mNx (gt : Nat → Int32) (ln : Nat) (σ : MS) : MS := (mRoA gt ln σ.1 σ.2.2, mRoS gt ln σ.1 σ.2.2, mRoU gt ln σ.1 σ.2.2)
/-- behind k orders, each with its semicolon -/
def mFs (gt : Nat → Int32) (ln : Nat) (σ : MS) : Nat → MS
  | 0 => σ
  | k + 1 => (mTkA gt ln (mRoA gt ln (mFs gt ln σ k).1 (mFs gt ln σ k).2.2) (nI 59), mRoS gt ln (mFs gt ln σ k).1 (mFs gt ln σ k).2.2, mRoU gt ln (mFs gt ln σ k).1 (mFs gt ln σ k).2.2)
theorem mFs1 (gt : Nat → Int32) (ln : Nat) (σ : MS) (k : Nat) : (mFs gt ln σ (k + 1)).1 = mTkA gt ln (mRoA gt ln (mFs gt ln σ k).1 (mFs gt ln σ k).2.2) (nI 59) := rfl
theorem mFs2 (gt : Nat → Int32) (ln : Nat) (σ : MS) (k : Nat) : (mFs gt ln σ (k + 1)).2.1 = mRoS gt ln (mFs gt ln σ k).1 (mFs gt ln σ k).2.2 := rfl
theorem mFs3 (gt : Nat → Int32) (ln : Nat) (σ : MS) (k : Nat) : (mFs gt ln σ (k + 1)).2.2 = mRoU gt ln (mFs gt ln σ k).1 (mFs gt ln σ k).2.2 := rfl
def mFk (gt : Nat → Int32) (ln : Nat) (σ : MS) (k : Nat) : Int32 := if mRo gt ln (mFs gt ln σ k).1 (mFs gt ln σ k).2.2 = 0 then 0 else if mRoA gt ln (mFs gt ln σ k).1 (mFs gt ln σ k).2.2 = ln then 0 else if mTk gt ln (mRoA gt ln (mFs gt ln σ k).1 (mFs gt ln σ k).2.2) (nI 59) = 0 then 0 else 1
theorem mFk_a {gt : Nat → Int32} {ln : Nat} {σ : MS} {k : Nat} (h : mRo gt ln (mFs gt ln σ k).1 (mFs gt ln σ k).2.2 = 0) : mFk gt ln σ k = 0 := if_pos h
theorem mFk_b {gt : Nat → Int32} {ln : Nat} {σ : MS} {k : Nat} (h : ¬ mRo gt ln (mFs gt ln σ k).1 (mFs gt ln σ k).2.2 = 0) (h2 : mRoA gt ln (mFs gt ln σ k).1 (mFs gt ln σ k).2.2 = ln) : mFk gt ln σ k = 0 := by rw [mFk, if_neg h, if_pos h2]
theorem mFk_c {gt : Nat → Int32} {ln : Nat} {σ : MS} {k : Nat} (h : ¬ mRo gt ln (mFs gt ln σ k).1 (mFs gt ln σ k).2.2 = 0) (h2 : ¬ mRoA gt ln (mFs gt ln σ k).1 (mFs gt ln σ k).2.2 = ln) (h3 : mTk gt ln (mRoA gt ln (mFs gt ln σ k).1 (mFs gt ln σ k).2.2) (nI 59) = 0) : mFk gt ln σ k = 0 := by rw [mFk, if_neg h, if_neg h2, if_pos h3]
theorem mFk_n {gt : Nat → Int32} {ln : Nat} {σ : MS} {k : Nat} (h : ¬ mRo gt ln (mFs gt ln σ k).1 (mFs gt ln σ k).2.2 = 0) (h2 : ¬ mRoA gt ln (mFs gt ln σ k).1 (mFs gt ln σ k).2.2 = ln) (h3 : ¬ mTk gt ln (mRoA gt ln (mFs gt ln σ k).1 (mFs gt ln σ k).2.2) (nI 59) = 0) : ¬ mFk gt ln σ k = 0 := by rw [mFk, if_neg h, if_neg h2, if_neg h3]; decide
theorem mFs_up {gt : Nat → Int32} {ln : Nat} {σ : MS} {k : Nat} (hk : k ≤ (mFs gt ln σ k).1) (h : ¬ mRo gt ln (mFs gt ln σ k).1 (mFs gt ln σ k).2.2 = 0) : k + 1 ≤ mTkA gt ln (mRoA gt ln (mFs gt ln σ k).1 (mFs gt ln σ k).2.2) (nI 59) := Nat.le_trans (Nat.le_trans (Nat.succ_le_succ hk) (mRo_lt h)) mTkA_ge
def mFN (gt : Nat → Int32) (ln : Nat) (σ : MS) : Nat := ffz (mFk gt ln σ) 81
def mFV (gt : Nat → Int32) (ln : Nat) (σ : MS) : Int32 := if mRo gt ln (mFs gt ln σ (mFN gt ln σ)).1 (mFs gt ln σ (mFN gt ln σ)).2.2 = 0 then nI (mNx gt ln (mFs gt ln σ (mFN gt ln σ))).1 else if (mNx gt ln (mFs gt ln σ (mFN gt ln σ))).1 = ln then -6 else nI (mNx gt ln (mFs gt ln σ (mFN gt ln σ))).1
def mFS (gt : Nat → Int32) (ln : Nat) (σ : MS) : MS := mNx gt ln (mFs gt ln σ (mFN gt ln σ))
theorem mF_a {gt : Nat → Int32} {ln : Nat} {σ : MS} {k : Nat} (hN : mFN gt ln σ = k) (h : mRo gt ln (mFs gt ln σ k).1 (mFs gt ln σ k).2.2 = 0) : mFV gt ln σ = nI (mRoA gt ln (mFs gt ln σ k).1 (mFs gt ln σ k).2.2) ∧ mFS gt ln σ = mNx gt ln (mFs gt ln σ k) := by
  rw [mFV, mFS, hN, if_pos h]; exact ⟨rfl, rfl⟩
theorem mF_b {gt : Nat → Int32} {ln : Nat} {σ : MS} {k : Nat} (hN : mFN gt ln σ = k) (h : ¬ mRo gt ln (mFs gt ln σ k).1 (mFs gt ln σ k).2.2 = 0) (h2 : mRoA gt ln (mFs gt ln σ k).1 (mFs gt ln σ k).2.2 = ln) : mFV gt ln σ = -6 ∧ mFS gt ln σ = mNx gt ln (mFs gt ln σ k) := by
  rw [mFV, mFS, hN, if_neg h]; exact ⟨if_pos h2, rfl⟩
theorem mF_c {gt : Nat → Int32} {ln : Nat} {σ : MS} {k : Nat} (hN : mFN gt ln σ = k) (h : ¬ mRo gt ln (mFs gt ln σ k).1 (mFs gt ln σ k).2.2 = 0) (h2 : ¬ mRoA gt ln (mFs gt ln σ k).1 (mFs gt ln σ k).2.2 = ln) : mFV gt ln σ = nI (mRoA gt ln (mFs gt ln σ k).1 (mFs gt ln σ k).2.2) ∧ mFS gt ln σ = mNx gt ln (mFs gt ln σ k) := by
  rw [mFV, mFS, hN, if_neg h]; exact ⟨if_neg h2, rfl⟩
theorem mFN_at {gt : Nat → Int32} {ln : Nat} {σ : MS} {k : Nat} (hall : ∀ j, j < k → ¬ mFk gt ln σ j = 0) (h : mFk gt ln σ k = 0) (hk : k < 81) : mFN gt ln σ = k := ffz_at hall h hk
theorem mFs_0 (gt : Nat → Int32) (ln : Nat) (σ : MS) : mFs gt ln σ 0 = σ := rfl

theorem cd_X8_findFault : cdV RX8 yX8_findFault cX8_findFault 1 (some .int) 0 := ⟨⟨bw_1054, bw_65, by decide, by decide, by decide +kernel⟩, bw_1053, bw_49⟩
set_option maxHeartbeats 4000000 in
set_option maxRecDepth 100000 in
theorem c_X8_findFault (l : Launch) (E : EV) (xo : Nat) (st : Nat) (sp : Nat) (th : Nat) (so : Nat) (sv : Nat) (pd : Nat) (nu : Nat) (sn : Nat) (ln : Nat) (ta : Nat) (sg : Int32) (gt : Nat → Int32) (gu : Nat → Int32) (hln : ln ≤ 80) : rcI l E yX8_findFault cX8_findFault 1 .int 4 [.ref xo] [(xo, .inr (5, [.ref st, .ref sp, .ref th, .int (nI sn), .ref so, .ref sv, .ref pd, .int (nI ln), .int (nI ta), .int sg, .ref nu])), (pd, .inl (E.2.1, 80, .inl gt)), (nu, .inl (E.2.1, 4, .inl gu))] (mFV gt ln (0, sg, gu)) [(xo, .inr (5, [.ref st, .ref sp, .ref th, .int (nI sn), .ref so, .ref sv, .ref pd, .int (nI ln), .int (nI ((mFS gt ln (0, sg, gu)).1)), .int ((mFS gt ln (0, sg, gu)).2.1), .ref nu])), (pd, .inl (E.2.1, 80, .inl gt)), (nu, .inl (E.2.1, 4, .inl ((mFS gt ln (0, sg, gu)).2.2)))] := by
  refine rcI_of (by decide) (Nat.le_of_ble_eq_true rfl) ?_
  intro pg e s m below meth c Q A ls S hP hD0 hE hA hl hret
  have hx := S.1
  have hb := S.2.1
  have hown := S.2.2.2.1
  have hts := S.2.2.2.2
  have hK := hE.1
  have hS : va_S A s.heap s.heap [] := va_S.rf
  have hDa : va_Da A [xo, pd, nu] := ⟨_, hD0, rfl⟩
  have hl : lv_has ls 1 [(0, .ref xo)] := hl
  refine lv_aload_n hx hb dX8_findFault_0 rfl (lv_at hl 0 rfl) ?_
  refine lv_iconst (v := nI 0) hx hb dX8_findFault_1 (by decide) ?_
  refine va_put (D := E.1) (ci := 5) (v := .int (nI 0)) (ty := .int) (C := RX8) (T := TX8) (N := 11) hx hb hts inb_X8 tyX8 tyX8_ok nmX8 hown hK hP (hDa.to rfl) hS 0 rfl rfl 8 (by decide) (hts _ bw_718) (fun _ h9 => h9) rfl (by decide +kernel) rfl rfl (Nat.le_of_ble_eq_true rfl) dX8_findFault_2 (fun H locs hP _ hS => ?_)
  have hP : va_P E.1 vwCl [(xo, .inr (5, [.ref st, .ref sp, .ref th, .int (nI sn), .ref so, .ref sv, .ref pd, .int (nI ln), .int (nI 0), .int sg, .ref nu])), (pd, .inl (E.2.1, 80, .inl gt)), (nu, .inl (E.2.1, 4, .inl gu))] H := hP
  have loop5 : ∀ (fuel : Nat) (k : Nat), 81 - k < fuel → (k ≤ (mFs gt ln (0, sg, gu) k).1) → ((mFs gt ln (0, sg, gu) k).1 ≤ ln) → (∀ j, j < k → ¬ mFk gt ln (0, sg, gu) j = 0) → ∀ (H : Heap) (locs : List Loc), va_P E.1 vwCl [(xo, .inr (5, [.ref st, .ref sp, .ref th, .int (nI sn), .ref so, .ref sv, .ref pd, .int (nI ln), .int (nI ((mFs gt ln (0, sg, gu) k).1)), .int ((mFs gt ln (0, sg, gu) k).2.1), .ref nu])), (pd, .inl (E.2.1, 80, .inl gt)), (nu, .inl (E.2.1, 4, .inl ((mFs gt ln (0, sg, gu) k).2.2)))] H → va_S A s.heap H locs → ∀ ls : Array Slot, lv_has ls 1 [(0, .ref xo)] → W pg l e (rq 4) s m ([.ref xo] : List Value).toArray below meth c H locs 0 0 Q (F0 m 5 ls []) := by
    intro fuel
    induction fuel with
    | zero => intro k h9; exact absurd h9 (Nat.not_lt_zero _)
    | succ fuel ih5 =>
      intro k hfu5 hk hF hall H locs hP hS ls hl
      refine lv_aload_n hx hb dX8_findFault_5 rfl (lv_at hl 0 rfl) ?_
      refine rwV0 (rest := []) S (c_X8_readsOrder l E xo st sp th so sv pd nu sn ln ((mFs gt ln (0, sg, gu) k).1) ((mFs gt ln (0, sg, gu) k).2.1) gt ((mFs gt ln (0, sg, gu) k).2.2) hln (by omega)) cd_X8_readsOrder bw_1055 ⟨Nat.le_of_ble_eq_true rfl, Nat.le_of_ble_eq_true rfl⟩ ⟨Nat.zero_le _, Nat.zero_le _⟩ hP (hDa.to rfl) hE hA hS [0, 1, 2] rfl rfl [xo, pd, nu] rfl rfl (ci := 5) rfl (q0 := 0) rfl (Nat.le_of_ble_eq_true rfl) hl.1 dX8_findFault_6 (fun H locs hP _ hS => ?_)
      have hP : va_P E.1 vwCl [(xo, .inr (5, [.ref st, .ref sp, .ref th, .int (nI sn), .ref so, .ref sv, .ref pd, .int (nI ln), .int (nI (mRoA gt ln ((mFs gt ln (0, sg, gu) k).1) ((mFs gt ln (0, sg, gu) k).2.2))), .int (mRoS gt ln ((mFs gt ln (0, sg, gu) k).1) ((mFs gt ln (0, sg, gu) k).2.2)), .ref nu])), (pd, .inl (E.2.1, 80, .inl gt)), (nu, .inl (E.2.1, 4, .inl (mRoU gt ln ((mFs gt ln (0, sg, gu) k).1) ((mFs gt ln (0, sg, gu) k).2.2))))] H := hP
      refine lv_if_eq (tgt := 40) hx hb dX8_findFault_9 (by decide) (fun c_1 => ?_) (fun c_1 => ?_)
      · refine lv_aload_n hx hb dX8_findFault_40 rfl (lv_at hl 0 rfl) ?_
        refine va_get (D := E.1) (ci := 5) (v := .int (nI (mRoA gt ln ((mFs gt ln (0, sg, gu) k).1) ((mFs gt ln (0, sg, gu) k).2.2)))) (C := RX8) (T := TX8) (N := 11) hx hb hts inb_X8 hown hK hP 0 rfl rfl 8 (by decide) (hts _ bw_718) (fun _ h9 => h9) rfl dX8_findFault_41 ?_
        exact hret _ _ _ _ _ _ (mF_a (mFN_at hall (mFk_a c_1) (by omega)) c_1).1.symm (by rw [(mF_a (mFN_at hall (mFk_a c_1) (by omega)) c_1).2]; rfl) rfl hP hS dX8_findFault_44
      · have hA9 := mRoA_le (gt := gt) (gu := (mFs gt ln (0, sg, gu) k).2.2) hF
        refine lv_aload_n hx hb dX8_findFault_12 rfl (lv_at hl 0 rfl) ?_
        refine va_get (D := E.1) (ci := 5) (v := .int (nI (mRoA gt ln ((mFs gt ln (0, sg, gu) k).1) ((mFs gt ln (0, sg, gu) k).2.2)))) (C := RX8) (T := TX8) (N := 11) hx hb hts inb_X8 hown hK hP 0 rfl rfl 8 (by decide) (hts _ bw_718) (fun _ h9 => h9) rfl dX8_findFault_13 ?_
        refine lv_aload_n hx hb dX8_findFault_16 rfl (lv_at hl 0 rfl) ?_
        refine va_get (D := E.1) (ci := 5) (v := .int (nI ln)) (C := RX8) (T := TX8) (N := 11) hx hb hts inb_X8 hown hK hP 0 rfl rfl 7 (by decide) (hts _ bw_717) (fun _ h9 => h9) rfl dX8_findFault_17 ?_
        refine rn_icmp_ne (a := mRoA gt ln ((mFs gt ln (0, sg, gu) k).1) ((mFs gt ln (0, sg, gu) k).2.2)) (b := ln) (tgt := 26) hx hb (by omega) (by omega) dX8_findFault_20 (by decide) (fun c_2 => ?_) (fun c_2 => ?_)
        · refine lv_aload_n hx hb dX8_findFault_26 rfl (lv_at hl 0 rfl) ?_
          refine lv_bipush (v := nI 59) hx hb dX8_findFault_27 (by decide) ?_
          refine rwV1 (rest := []) S (c_X8_takes l E xo st sp th so sv pd nu sn ln (mRoA gt ln ((mFs gt ln (0, sg, gu) k).1) ((mFs gt ln (0, sg, gu) k).2.2)) (mRoS gt ln ((mFs gt ln (0, sg, gu) k).1) ((mFs gt ln (0, sg, gu) k).2.2)) gt (nI 59) hln (mRoA_le (by omega))) cd_X8_takes bw_1067 ⟨Nat.le_of_ble_eq_true rfl, Nat.le_of_ble_eq_true rfl⟩ ⟨Nat.zero_le _, Nat.zero_le _⟩ hP (hDa.to rfl) hE hA hS [0, 1] rfl rfl [xo, pd] rfl rfl (ci := 5) rfl (q0 := 0) rfl (Nat.le_of_ble_eq_true rfl) hl.1 dX8_findFault_29 (fun H locs hP _ hS => ?_)
          have hP : va_P E.1 vwCl [(xo, .inr (5, [.ref st, .ref sp, .ref th, .int (nI sn), .ref so, .ref sv, .ref pd, .int (nI ln), .int (nI (mTkA gt ln (mRoA gt ln ((mFs gt ln (0, sg, gu) k).1) ((mFs gt ln (0, sg, gu) k).2.2)) (nI 59))), .int (mRoS gt ln ((mFs gt ln (0, sg, gu) k).1) ((mFs gt ln (0, sg, gu) k).2.2)), .ref nu])), (pd, .inl (E.2.1, 80, .inl gt)), (nu, .inl (E.2.1, 4, .inl (mRoU gt ln ((mFs gt ln (0, sg, gu) k).1) ((mFs gt ln (0, sg, gu) k).2.2))))] H := hP
          refine lv_if_ne (tgt := 5) hx hb dX8_findFault_32 (by decide) (fun c_3 => ?_) (fun c_3 => ?_)
          · have hP : va_P E.1 vwCl [(xo, .inr (5, [.ref st, .ref sp, .ref th, .int (nI sn), .ref so, .ref sv, .ref pd, .int (nI ln), .int (nI ((mFs gt ln (0, sg, gu) (k + 1)).1)), .int ((mFs gt ln (0, sg, gu) (k + 1)).2.1), .ref nu])), (pd, .inl (E.2.1, 80, .inl gt)), (nu, .inl (E.2.1, 4, .inl ((mFs gt ln (0, sg, gu) (k + 1)).2.2)))] H := by rw [mFs1, mFs2, mFs3]; exact hP
            have hl : lv_has ls 1 [(0, .ref xo)] := lv_sub hl [0] rfl
            exact ih5 (k + 1) (by omega) (by rw [mFs1]; exact mFs_up hk c_1) (by rw [mFs1]; exact mTkA_le (mRoA_le hF) (by decide)) (lt_s hall (mFk_n c_1 c_2 c_3)) _ _ hP hS _ hl
          · refine lv_aload_n hx hb dX8_findFault_35 rfl (lv_at hl 0 rfl) ?_
            refine va_get (D := E.1) (ci := 5) (v := .int (nI (mTkA gt ln (mRoA gt ln ((mFs gt ln (0, sg, gu) k).1) ((mFs gt ln (0, sg, gu) k).2.2)) (nI 59)))) (C := RX8) (T := TX8) (N := 11) hx hb hts inb_X8 hown hK hP 0 rfl rfl 8 (by decide) (hts _ bw_718) (fun _ h9 => h9) rfl dX8_findFault_36 ?_
            exact hret _ _ _ _ _ _ (by rw [(mF_c (mFN_at hall (mFk_c c_1 c_2 c_3) (by omega)) c_1 c_2).1, mTkA_0 c_3]) (by rw [(mF_c (mFN_at hall (mFk_c c_1 c_2 c_3) (by omega)) c_1 c_2).2, mTkA_0 c_3]; rfl) rfl hP hS dX8_findFault_39
        · refine lv_bipush (v := (-6)) hx hb dX8_findFault_23 (by decide) ?_
          exact hret _ _ _ _ _ _ (mF_b (mFN_at hall (mFk_b c_1 c_2) (by omega)) c_1 c_2).1.symm (by rw [(mF_b (mFN_at hall (mFk_b c_1 c_2) (by omega)) c_1 c_2).2]; rfl) rfl hP hS dX8_findFault_25
  have hP : va_P E.1 vwCl [(xo, .inr (5, [.ref st, .ref sp, .ref th, .int (nI sn), .ref so, .ref sv, .ref pd, .int (nI ln), .int (nI ((mFs gt ln (0, sg, gu) 0).1)), .int ((mFs gt ln (0, sg, gu) 0).2.1), .ref nu])), (pd, .inl (E.2.1, 80, .inl gt)), (nu, .inl (E.2.1, 4, .inl ((mFs gt ln (0, sg, gu) 0).2.2)))] H := by rw [mFs_0]; exact hP
  have hl : lv_has ls 1 [(0, .ref xo)] := lv_sub hl [0] rfl
  exact loop5 _ 0 (Nat.lt_succ_self _) (Nat.zero_le _) (by rw [mFs_0]; exact Nat.zero_le _) (fun i h9 => absurd h9 (Nat.not_lt_zero i)) _ _ hP hS _ hl

theorem cd_X8_fault : cdV RX8 yX8_fault cX8_fault 1 (some .int) 0 := ⟨⟨bw_1050, bw_65, by decide, by decide, by decide +kernel⟩, bw_1048, bw_1049⟩
set_option maxHeartbeats 4000000 in
set_option maxRecDepth 100000 in
theorem c_X8_fault (l : Launch) (E : EV) (xo : Nat) (st : Nat) (sp : Nat) (th : Nat) (so : Nat) (sv : Nat) (pd : Nat) (nu : Nat) (sn : Nat) (ln : Nat) (ta : Nat) (sg : Int32) (gt : Nat → Int32) (gu : Nat → Int32) (hln : ln ≤ 80) : rcI l E yX8_fault cX8_fault 1 .int 5 [.ref xo] [(xo, .inr (5, [.ref st, .ref sp, .ref th, .int (nI sn), .ref so, .ref sv, .ref pd, .int (nI ln), .int (nI ta), .int sg, .ref nu])), (pd, .inl (E.2.1, 80, .inl gt)), (nu, .inl (E.2.1, 4, .inl gu))] (mFV gt ln (0, sg, gu)) [(xo, .inr (5, [.ref st, .ref sp, .ref th, .int (nI sn), .ref so, .ref sv, .ref pd, .int (nI ln), .int (nI ((mFS gt ln (0, sg, gu)).1)), .int ((mFS gt ln (0, sg, gu)).2.1), .ref nu])), (pd, .inl (E.2.1, 80, .inl gt)), (nu, .inl (E.2.1, 4, .inl ((mFS gt ln (0, sg, gu)).2.2)))] := by
  refine rcI_of (by decide) (Nat.le_of_ble_eq_true rfl) ?_
  intro pg e s m below meth c Q A ls S hP hD0 hE hA hl hret
  have hx := S.1
  have hb := S.2.1
  have hown := S.2.2.2.1
  have hts := S.2.2.2.2
  have hK := hE.1
  have hS : va_S A s.heap s.heap [] := va_S.rf
  have hDa : va_Da A [xo, pd, nu] := ⟨_, hD0, rfl⟩
  have hl : lv_has ls 1 [(0, .ref xo)] := hl
  refine lv_aload_n hx hb dX8_fault_0 rfl (lv_at hl 0 rfl) ?_
  refine rwV0 (rest := []) S (c_X8_findFault l E xo st sp th so sv pd nu sn ln ta sg gt gu hln) cd_X8_findFault bw_1051 ⟨Nat.le_of_ble_eq_true rfl, Nat.le_of_ble_eq_true rfl⟩ ⟨Nat.zero_le _, Nat.zero_le _⟩ hP (hDa.to rfl) hE hA hS [0, 1, 2] rfl rfl [xo, pd, nu] rfl rfl (ci := 5) rfl (q0 := 0) rfl (Nat.le_of_ble_eq_true rfl) hl.1 dX8_fault_1 (fun H locs hP _ hS => ?_)
  have hP : va_P E.1 vwCl [(xo, .inr (5, [.ref st, .ref sp, .ref th, .int (nI sn), .ref so, .ref sv, .ref pd, .int (nI ln), .int (nI ((mFS gt ln (0, sg, gu)).1)), .int ((mFS gt ln (0, sg, gu)).2.1), .ref nu])), (pd, .inl (E.2.1, 80, .inl gt)), (nu, .inl (E.2.1, 4, .inl ((mFS gt ln (0, sg, gu)).2.2)))] H := hP
  exact hret _ _ _ _ _ _ rfl rfl rfl hP hS dX8_fault_4

theorem cd_X8_doesOrder : cdV RX8 yX8_doesOrder cX8_doesOrder 1 (some .int) 0 := ⟨⟨bw_1086, bw_65, by decide, by decide, by decide +kernel⟩, bw_1085, bw_56⟩
def mDv (g : Nat → Int32) (n : Nat) (sg : Int32) (gu : Nat → Int32) : Int32 := if sg = nI 97 then mZv g n else if sg = nI 98 then mTn g 3 else if sg = nI 99 then mCv g n (gu 0) else if sg = nI 100 then mTn g 3 else if sg = nI 101 then mTn g 3 else if sg = nI 102 then mTn g 3 else if sg = nI 103 then mTn g 3 else if sg = nI 104 then mTn g 3 else if sg = nI 105 then mTn g 3 else if sg = nI 106 then mTn g 3 else if sg = nI 107 then mTn g 3 else if sg = nI 108 then mLv g n (gu 0) (gu 1) (gu 2) else if sg = nI 109 then mMv g n (gu 0) (gu 1) else if sg = nI 110 then mTn g 3 else if sg = nI 111 then mTn g 3 else if sg = nI 112 then mKv g n else if sg = nI 113 then mTn g 3 else if sg = nI 114 then mTn g 3 else if sg = nI 115 then mAv g n (nI n) (gu 0) (gu 1) (gu 2) (gu 3) else if sg = nI 116 then mTn g 3 else if sg = nI 117 then mTn g 3 else if sg = nI 118 then mTn g 3 else if sg = nI 119 then mWv g n (gu 0) (gu 1) (gu 2) else mTn g 3
def mDw (g : Nat → Int32) (n : Nat) (sg : Int32) (gu : Nat → Int32) : Nat → Int32 := if sg = nI 97 then mZw g n else if sg = nI 98 then mTc g 3 else if sg = nI 99 then mCw g n (gu 0) else if sg = nI 100 then mTc g 3 else if sg = nI 101 then mTc g 3 else if sg = nI 102 then mTc g 3 else if sg = nI 103 then mTc g 3 else if sg = nI 104 then mTc g 3 else if sg = nI 105 then mTc g 3 else if sg = nI 106 then mTc g 3 else if sg = nI 107 then mTc g 3 else if sg = nI 108 then mLw g n (gu 0) (gu 1) (gu 2) else if sg = nI 109 then mMw g n (gu 0) (gu 1) else if sg = nI 110 then mTc g 3 else if sg = nI 111 then mTc g 3 else if sg = nI 112 then mQw g n else if sg = nI 113 then mTc g 3 else if sg = nI 114 then mTc g 3 else if sg = nI 115 then mAw g n (nI n) (gu 0) (gu 1) (gu 2) (gu 3) else if sg = nI 116 then mTc g 3 else if sg = nI 117 then mTc g 3 else if sg = nI 118 then mTc g 3 else if sg = nI 119 then mWw g n (gu 0) (gu 1) (gu 2) else mTc g 3
set_option maxHeartbeats 4000000 in
set_option maxRecDepth 100000 in
theorem c_X8_doesOrder (l : Launch) (E : EV) (xo : Nat) (st : Nat) (sp : Nat) (th : Nat) (so : Nat) (sv : Nat) (pd : Nat) (nu : Nat) (sn : Nat) (ln : Nat) (ta : Nat) (sg : Int32) (g : Nat → Int32) (gu : Nat → Int32) (n : Nat) (hf : g 4 = nI n) (hn : n ≤ 20) (hst : ¬ g 0 = 0) : rcI l E yX8_doesOrder cX8_doesOrder 1 .int 6 [.ref xo] [(xo, .inr (5, [.ref st, .ref sp, .ref th, .int (nI sn), .ref so, .ref sv, .ref pd, .int (nI ln), .int (nI ta), .int sg, .ref nu])), (st, .inl (E.2.1, 293, .inl g)), (nu, .inl (E.2.1, 4, .inl gu))] (mDv g n sg gu) [(xo, .inr (5, [.ref st, .ref sp, .ref th, .int (nI sn), .ref so, .ref sv, .ref pd, .int (nI ln), .int (nI ta), .int sg, .ref nu])), (st, .inl (E.2.1, 293, .inl (mDw g n sg gu))), (nu, .inl (E.2.1, 4, .inl gu))] := by
  refine rcI_of (by decide) (Nat.le_of_ble_eq_true rfl) ?_
  intro pg e s m below meth c Q A ls S hP hD0 hE hA hl hret
  have hx := S.1
  have hb := S.2.1
  have hown := S.2.2.2.1
  have hts := S.2.2.2.2
  have hK := hE.1
  have hS : va_S A s.heap s.heap [] := va_S.rf
  have hDa : va_Da A [xo, st, nu] := ⟨_, hD0, rfl⟩
  have hl : lv_has ls 1 [(0, .ref xo)] := hl
  refine lv_aload_n hx hb dX8_doesOrder_0 rfl (lv_at hl 0 rfl) ?_
  refine va_get (D := E.1) (ci := 5) (v := .int sg) (C := RX8) (T := TX8) (N := 11) hx hb hts inb_X8 hown hK hP 0 rfl rfl 9 (by decide) (hts _ bw_719) (fun _ h9 => h9) rfl dX8_doesOrder_1 ?_
  by_cases c_1 : sg = nI 97
  · refine lv_tableIn (tgt := 226) hx hb dX8_doesOrder_4 (by rw [c_1]; decide) (by rw [c_1]; decide) (by rw [c_1]; rfl) (by decide) ?_
    refine lv_aload_n hx hb dX8_doesOrder_226 rfl (lv_at hl 0 rfl) ?_
    refine rwV0 (rest := []) S (c_X8_correctsAll l E xo st sp th so sv pd nu sn ln ta sg g n hf hn hst) cd_X8_correctsAll bw_944 ⟨Nat.le_of_ble_eq_true rfl, Nat.le_of_ble_eq_true rfl⟩ ⟨Nat.zero_le _, Nat.zero_le _⟩ hP (hDa.to rfl) hE hA hS [0, 1] rfl rfl [xo, st] rfl rfl (ci := 5) rfl (q0 := 0) rfl (Nat.le_of_ble_eq_true rfl) hl.1 dX8_doesOrder_227 (fun H locs hP _ hS => ?_)
    have hP : va_P E.1 vwCl [(xo, .inr (5, [.ref st, .ref sp, .ref th, .int (nI sn), .ref so, .ref sv, .ref pd, .int (nI ln), .int (nI ta), .int sg, .ref nu])), (st, .inl (E.2.1, 293, .inl (mZw g n))), (nu, .inl (E.2.1, 4, .inl gu))] H := hP
    exact hret _ _ _ _ _ _ (by rw [mDv, if_pos c_1]) (by rw [mDw, if_pos c_1]) rfl hP hS dX8_doesOrder_230
  by_cases c_2 : sg = nI 98
  · refine lv_tableIn (tgt := 231) hx hb dX8_doesOrder_4 (by rw [c_2]; decide) (by rw [c_2]; decide) (by rw [c_2]; rfl) (by decide) ?_
    refine lv_aload_n hx hb dX8_doesOrder_231 rfl (lv_at hl 0 rfl) ?_
    refine rwV0 (rest := []) S (c_X8_cards l E xo st sp th so sv pd nu sn ln ta sg g) cd_X8_cards bw_952 ⟨Nat.le_of_ble_eq_true rfl, Nat.le_of_ble_eq_true rfl⟩ ⟨Nat.zero_le _, Nat.zero_le _⟩ hP (hDa.to rfl) hE hA hS [0, 1] rfl rfl [xo, st] rfl rfl (ci := 5) rfl (q0 := 0) rfl (Nat.le_of_ble_eq_true rfl) hl.1 dX8_doesOrder_232 (fun H locs hP _ hS => ?_)
    have hP : va_P E.1 vwCl [(xo, .inr (5, [.ref st, .ref sp, .ref th, .int (nI sn), .ref so, .ref sv, .ref pd, .int (nI ln), .int (nI ta), .int sg, .ref nu])), (st, .inl (E.2.1, 293, .inl (mTc g 3))), (nu, .inl (E.2.1, 4, .inl gu))] H := hP
    exact hret _ _ _ _ _ _ (by rw [mDv, if_neg c_1, if_pos c_2]) (by rw [mDw, if_neg c_1, if_pos c_2]) rfl hP hS dX8_doesOrder_235
  by_cases c_3 : sg = nI 99
  · refine lv_tableIn (tgt := 215) hx hb dX8_doesOrder_4 (by rw [c_3]; decide) (by rw [c_3]; decide) (by rw [c_3]; rfl) (by decide) ?_
    refine lv_aload_n hx hb dX8_doesOrder_215 rfl (lv_at hl 0 rfl) ?_
    refine lv_aload_n hx hb dX8_doesOrder_216 rfl (lv_at hl 0 rfl) ?_
    refine va_get (D := E.1) (ci := 5) (v := .ref nu) (C := RX8) (T := TX8) (N := 11) hx hb hts inb_X8 hown hK hP 0 rfl rfl 10 (by decide) (hts _ bw_720) (fun _ h9 => h9) rfl dX8_doesOrder_217 ?_
    refine lv_iconst (v := nI 0) hx hb dX8_doesOrder_220 (by decide) ?_
    refine rn_iald (i := 0) hx hb hK hP 2 0 rfl rfl (by omega) (by omega) dX8_doesOrder_221 ?_
    refine rwV1 (rest := []) S (c_X8_corrects l E xo st sp th so sv pd nu sn ln ta sg g n (gu 0) hf hn hst) cd_X8_corrects bw_932 ⟨Nat.le_of_ble_eq_true rfl, Nat.le_of_ble_eq_true rfl⟩ ⟨Nat.zero_le _, Nat.zero_le _⟩ hP (hDa.to rfl) hE hA hS [0, 1] rfl rfl [xo, st] rfl rfl (ci := 5) rfl (q0 := 0) rfl (Nat.le_of_ble_eq_true rfl) hl.1 dX8_doesOrder_222 (fun H locs hP _ hS => ?_)
    have hP : va_P E.1 vwCl [(xo, .inr (5, [.ref st, .ref sp, .ref th, .int (nI sn), .ref so, .ref sv, .ref pd, .int (nI ln), .int (nI ta), .int sg, .ref nu])), (st, .inl (E.2.1, 293, .inl (mCw g n (gu 0)))), (nu, .inl (E.2.1, 4, .inl gu))] H := hP
    exact hret _ _ _ _ _ _ (by rw [mDv, if_neg c_1, if_neg c_2, if_pos c_3]) (by rw [mDw, if_neg c_1, if_neg c_2, if_pos c_3]) rfl hP hS dX8_doesOrder_225
  by_cases c_4 : sg = nI 100
  · refine lv_tableIn (tgt := 231) hx hb dX8_doesOrder_4 (by rw [c_4]; decide) (by rw [c_4]; decide) (by rw [c_4]; rfl) (by decide) ?_
    refine lv_aload_n hx hb dX8_doesOrder_231 rfl (lv_at hl 0 rfl) ?_
    refine rwV0 (rest := []) S (c_X8_cards l E xo st sp th so sv pd nu sn ln ta sg g) cd_X8_cards bw_952 ⟨Nat.le_of_ble_eq_true rfl, Nat.le_of_ble_eq_true rfl⟩ ⟨Nat.zero_le _, Nat.zero_le _⟩ hP (hDa.to rfl) hE hA hS [0, 1] rfl rfl [xo, st] rfl rfl (ci := 5) rfl (q0 := 0) rfl (Nat.le_of_ble_eq_true rfl) hl.1 dX8_doesOrder_232 (fun H locs hP _ hS => ?_)
    have hP : va_P E.1 vwCl [(xo, .inr (5, [.ref st, .ref sp, .ref th, .int (nI sn), .ref so, .ref sv, .ref pd, .int (nI ln), .int (nI ta), .int sg, .ref nu])), (st, .inl (E.2.1, 293, .inl (mTc g 3))), (nu, .inl (E.2.1, 4, .inl gu))] H := hP
    exact hret _ _ _ _ _ _ (by rw [mDv, if_neg c_1, if_neg c_2, if_neg c_3, if_pos c_4]) (by rw [mDw, if_neg c_1, if_neg c_2, if_neg c_3, if_pos c_4]) rfl hP hS dX8_doesOrder_235
  by_cases c_5 : sg = nI 101
  · refine lv_tableIn (tgt := 231) hx hb dX8_doesOrder_4 (by rw [c_5]; decide) (by rw [c_5]; decide) (by rw [c_5]; rfl) (by decide) ?_
    refine lv_aload_n hx hb dX8_doesOrder_231 rfl (lv_at hl 0 rfl) ?_
    refine rwV0 (rest := []) S (c_X8_cards l E xo st sp th so sv pd nu sn ln ta sg g) cd_X8_cards bw_952 ⟨Nat.le_of_ble_eq_true rfl, Nat.le_of_ble_eq_true rfl⟩ ⟨Nat.zero_le _, Nat.zero_le _⟩ hP (hDa.to rfl) hE hA hS [0, 1] rfl rfl [xo, st] rfl rfl (ci := 5) rfl (q0 := 0) rfl (Nat.le_of_ble_eq_true rfl) hl.1 dX8_doesOrder_232 (fun H locs hP _ hS => ?_)
    have hP : va_P E.1 vwCl [(xo, .inr (5, [.ref st, .ref sp, .ref th, .int (nI sn), .ref so, .ref sv, .ref pd, .int (nI ln), .int (nI ta), .int sg, .ref nu])), (st, .inl (E.2.1, 293, .inl (mTc g 3))), (nu, .inl (E.2.1, 4, .inl gu))] H := hP
    exact hret _ _ _ _ _ _ (by rw [mDv, if_neg c_1, if_neg c_2, if_neg c_3, if_neg c_4, if_pos c_5]) (by rw [mDw, if_neg c_1, if_neg c_2, if_neg c_3, if_neg c_4, if_pos c_5]) rfl hP hS dX8_doesOrder_235
  by_cases c_6 : sg = nI 102
  · refine lv_tableIn (tgt := 231) hx hb dX8_doesOrder_4 (by rw [c_6]; decide) (by rw [c_6]; decide) (by rw [c_6]; rfl) (by decide) ?_
    refine lv_aload_n hx hb dX8_doesOrder_231 rfl (lv_at hl 0 rfl) ?_
    refine rwV0 (rest := []) S (c_X8_cards l E xo st sp th so sv pd nu sn ln ta sg g) cd_X8_cards bw_952 ⟨Nat.le_of_ble_eq_true rfl, Nat.le_of_ble_eq_true rfl⟩ ⟨Nat.zero_le _, Nat.zero_le _⟩ hP (hDa.to rfl) hE hA hS [0, 1] rfl rfl [xo, st] rfl rfl (ci := 5) rfl (q0 := 0) rfl (Nat.le_of_ble_eq_true rfl) hl.1 dX8_doesOrder_232 (fun H locs hP _ hS => ?_)
    have hP : va_P E.1 vwCl [(xo, .inr (5, [.ref st, .ref sp, .ref th, .int (nI sn), .ref so, .ref sv, .ref pd, .int (nI ln), .int (nI ta), .int sg, .ref nu])), (st, .inl (E.2.1, 293, .inl (mTc g 3))), (nu, .inl (E.2.1, 4, .inl gu))] H := hP
    exact hret _ _ _ _ _ _ (by rw [mDv, if_neg c_1, if_neg c_2, if_neg c_3, if_neg c_4, if_neg c_5, if_pos c_6]) (by rw [mDw, if_neg c_1, if_neg c_2, if_neg c_3, if_neg c_4, if_neg c_5, if_pos c_6]) rfl hP hS dX8_doesOrder_235
  by_cases c_7 : sg = nI 103
  · refine lv_tableIn (tgt := 231) hx hb dX8_doesOrder_4 (by rw [c_7]; decide) (by rw [c_7]; decide) (by rw [c_7]; rfl) (by decide) ?_
    refine lv_aload_n hx hb dX8_doesOrder_231 rfl (lv_at hl 0 rfl) ?_
    refine rwV0 (rest := []) S (c_X8_cards l E xo st sp th so sv pd nu sn ln ta sg g) cd_X8_cards bw_952 ⟨Nat.le_of_ble_eq_true rfl, Nat.le_of_ble_eq_true rfl⟩ ⟨Nat.zero_le _, Nat.zero_le _⟩ hP (hDa.to rfl) hE hA hS [0, 1] rfl rfl [xo, st] rfl rfl (ci := 5) rfl (q0 := 0) rfl (Nat.le_of_ble_eq_true rfl) hl.1 dX8_doesOrder_232 (fun H locs hP _ hS => ?_)
    have hP : va_P E.1 vwCl [(xo, .inr (5, [.ref st, .ref sp, .ref th, .int (nI sn), .ref so, .ref sv, .ref pd, .int (nI ln), .int (nI ta), .int sg, .ref nu])), (st, .inl (E.2.1, 293, .inl (mTc g 3))), (nu, .inl (E.2.1, 4, .inl gu))] H := hP
    exact hret _ _ _ _ _ _ (by rw [mDv, if_neg c_1, if_neg c_2, if_neg c_3, if_neg c_4, if_neg c_5, if_neg c_6, if_pos c_7]) (by rw [mDw, if_neg c_1, if_neg c_2, if_neg c_3, if_neg c_4, if_neg c_5, if_neg c_6, if_pos c_7]) rfl hP hS dX8_doesOrder_235
  by_cases c_8 : sg = nI 104
  · refine lv_tableIn (tgt := 231) hx hb dX8_doesOrder_4 (by rw [c_8]; decide) (by rw [c_8]; decide) (by rw [c_8]; rfl) (by decide) ?_
    refine lv_aload_n hx hb dX8_doesOrder_231 rfl (lv_at hl 0 rfl) ?_
    refine rwV0 (rest := []) S (c_X8_cards l E xo st sp th so sv pd nu sn ln ta sg g) cd_X8_cards bw_952 ⟨Nat.le_of_ble_eq_true rfl, Nat.le_of_ble_eq_true rfl⟩ ⟨Nat.zero_le _, Nat.zero_le _⟩ hP (hDa.to rfl) hE hA hS [0, 1] rfl rfl [xo, st] rfl rfl (ci := 5) rfl (q0 := 0) rfl (Nat.le_of_ble_eq_true rfl) hl.1 dX8_doesOrder_232 (fun H locs hP _ hS => ?_)
    have hP : va_P E.1 vwCl [(xo, .inr (5, [.ref st, .ref sp, .ref th, .int (nI sn), .ref so, .ref sv, .ref pd, .int (nI ln), .int (nI ta), .int sg, .ref nu])), (st, .inl (E.2.1, 293, .inl (mTc g 3))), (nu, .inl (E.2.1, 4, .inl gu))] H := hP
    exact hret _ _ _ _ _ _ (by rw [mDv, if_neg c_1, if_neg c_2, if_neg c_3, if_neg c_4, if_neg c_5, if_neg c_6, if_neg c_7, if_pos c_8]) (by rw [mDw, if_neg c_1, if_neg c_2, if_neg c_3, if_neg c_4, if_neg c_5, if_neg c_6, if_neg c_7, if_pos c_8]) rfl hP hS dX8_doesOrder_235
  by_cases c_9 : sg = nI 105
  · refine lv_tableIn (tgt := 231) hx hb dX8_doesOrder_4 (by rw [c_9]; decide) (by rw [c_9]; decide) (by rw [c_9]; rfl) (by decide) ?_
    refine lv_aload_n hx hb dX8_doesOrder_231 rfl (lv_at hl 0 rfl) ?_
    refine rwV0 (rest := []) S (c_X8_cards l E xo st sp th so sv pd nu sn ln ta sg g) cd_X8_cards bw_952 ⟨Nat.le_of_ble_eq_true rfl, Nat.le_of_ble_eq_true rfl⟩ ⟨Nat.zero_le _, Nat.zero_le _⟩ hP (hDa.to rfl) hE hA hS [0, 1] rfl rfl [xo, st] rfl rfl (ci := 5) rfl (q0 := 0) rfl (Nat.le_of_ble_eq_true rfl) hl.1 dX8_doesOrder_232 (fun H locs hP _ hS => ?_)
    have hP : va_P E.1 vwCl [(xo, .inr (5, [.ref st, .ref sp, .ref th, .int (nI sn), .ref so, .ref sv, .ref pd, .int (nI ln), .int (nI ta), .int sg, .ref nu])), (st, .inl (E.2.1, 293, .inl (mTc g 3))), (nu, .inl (E.2.1, 4, .inl gu))] H := hP
    exact hret _ _ _ _ _ _ (by rw [mDv, if_neg c_1, if_neg c_2, if_neg c_3, if_neg c_4, if_neg c_5, if_neg c_6, if_neg c_7, if_neg c_8, if_pos c_9]) (by rw [mDw, if_neg c_1, if_neg c_2, if_neg c_3, if_neg c_4, if_neg c_5, if_neg c_6, if_neg c_7, if_neg c_8, if_pos c_9]) rfl hP hS dX8_doesOrder_235
  by_cases c_10 : sg = nI 106
  · refine lv_tableIn (tgt := 231) hx hb dX8_doesOrder_4 (by rw [c_10]; decide) (by rw [c_10]; decide) (by rw [c_10]; rfl) (by decide) ?_
    refine lv_aload_n hx hb dX8_doesOrder_231 rfl (lv_at hl 0 rfl) ?_
    refine rwV0 (rest := []) S (c_X8_cards l E xo st sp th so sv pd nu sn ln ta sg g) cd_X8_cards bw_952 ⟨Nat.le_of_ble_eq_true rfl, Nat.le_of_ble_eq_true rfl⟩ ⟨Nat.zero_le _, Nat.zero_le _⟩ hP (hDa.to rfl) hE hA hS [0, 1] rfl rfl [xo, st] rfl rfl (ci := 5) rfl (q0 := 0) rfl (Nat.le_of_ble_eq_true rfl) hl.1 dX8_doesOrder_232 (fun H locs hP _ hS => ?_)
    have hP : va_P E.1 vwCl [(xo, .inr (5, [.ref st, .ref sp, .ref th, .int (nI sn), .ref so, .ref sv, .ref pd, .int (nI ln), .int (nI ta), .int sg, .ref nu])), (st, .inl (E.2.1, 293, .inl (mTc g 3))), (nu, .inl (E.2.1, 4, .inl gu))] H := hP
    exact hret _ _ _ _ _ _ (by rw [mDv, if_neg c_1, if_neg c_2, if_neg c_3, if_neg c_4, if_neg c_5, if_neg c_6, if_neg c_7, if_neg c_8, if_neg c_9, if_pos c_10]) (by rw [mDw, if_neg c_1, if_neg c_2, if_neg c_3, if_neg c_4, if_neg c_5, if_neg c_6, if_neg c_7, if_neg c_8, if_neg c_9, if_pos c_10]) rfl hP hS dX8_doesOrder_235
  by_cases c_11 : sg = nI 107
  · refine lv_tableIn (tgt := 231) hx hb dX8_doesOrder_4 (by rw [c_11]; decide) (by rw [c_11]; decide) (by rw [c_11]; rfl) (by decide) ?_
    refine lv_aload_n hx hb dX8_doesOrder_231 rfl (lv_at hl 0 rfl) ?_
    refine rwV0 (rest := []) S (c_X8_cards l E xo st sp th so sv pd nu sn ln ta sg g) cd_X8_cards bw_952 ⟨Nat.le_of_ble_eq_true rfl, Nat.le_of_ble_eq_true rfl⟩ ⟨Nat.zero_le _, Nat.zero_le _⟩ hP (hDa.to rfl) hE hA hS [0, 1] rfl rfl [xo, st] rfl rfl (ci := 5) rfl (q0 := 0) rfl (Nat.le_of_ble_eq_true rfl) hl.1 dX8_doesOrder_232 (fun H locs hP _ hS => ?_)
    have hP : va_P E.1 vwCl [(xo, .inr (5, [.ref st, .ref sp, .ref th, .int (nI sn), .ref so, .ref sv, .ref pd, .int (nI ln), .int (nI ta), .int sg, .ref nu])), (st, .inl (E.2.1, 293, .inl (mTc g 3))), (nu, .inl (E.2.1, 4, .inl gu))] H := hP
    exact hret _ _ _ _ _ _ (by rw [mDv, if_neg c_1, if_neg c_2, if_neg c_3, if_neg c_4, if_neg c_5, if_neg c_6, if_neg c_7, if_neg c_8, if_neg c_9, if_neg c_10, if_pos c_11]) (by rw [mDw, if_neg c_1, if_neg c_2, if_neg c_3, if_neg c_4, if_neg c_5, if_neg c_6, if_neg c_7, if_neg c_8, if_neg c_9, if_neg c_10, if_pos c_11]) rfl hP hS dX8_doesOrder_235
  by_cases c_12 : sg = nI 108
  · refine lv_tableIn (tgt := 147) hx hb dX8_doesOrder_4 (by rw [c_12]; decide) (by rw [c_12]; decide) (by rw [c_12]; rfl) (by decide) ?_
    refine lv_aload_n hx hb dX8_doesOrder_147 rfl (lv_at hl 0 rfl) ?_
    refine lv_aload_n hx hb dX8_doesOrder_148 rfl (lv_at hl 0 rfl) ?_
    refine va_get (D := E.1) (ci := 5) (v := .ref nu) (C := RX8) (T := TX8) (N := 11) hx hb hts inb_X8 hown hK hP 0 rfl rfl 10 (by decide) (hts _ bw_720) (fun _ h9 => h9) rfl dX8_doesOrder_149 ?_
    refine lv_iconst (v := nI 0) hx hb dX8_doesOrder_152 (by decide) ?_
    refine rn_iald (i := 0) hx hb hK hP 2 0 rfl rfl (by omega) (by omega) dX8_doesOrder_153 ?_
    refine lv_aload_n hx hb dX8_doesOrder_154 rfl (lv_at hl 0 rfl) ?_
    refine va_get (D := E.1) (ci := 5) (v := .ref nu) (C := RX8) (T := TX8) (N := 11) hx hb hts inb_X8 hown hK hP 0 rfl rfl 10 (by decide) (hts _ bw_720) (fun _ h9 => h9) rfl dX8_doesOrder_155 ?_
    refine lv_iconst (v := nI 1) hx hb dX8_doesOrder_158 (by decide) ?_
    refine rn_iald (i := 1) hx hb hK hP 2 0 rfl rfl (by omega) (by omega) dX8_doesOrder_159 ?_
    refine lv_aload_n hx hb dX8_doesOrder_160 rfl (lv_at hl 0 rfl) ?_
    refine va_get (D := E.1) (ci := 5) (v := .ref nu) (C := RX8) (T := TX8) (N := 11) hx hb hts inb_X8 hown hK hP 0 rfl rfl 10 (by decide) (hts _ bw_720) (fun _ h9 => h9) rfl dX8_doesOrder_161 ?_
    refine lv_iconst (v := nI 2) hx hb dX8_doesOrder_164 (by decide) ?_
    refine rn_iald (i := 2) hx hb hK hP 2 0 rfl rfl (by omega) (by omega) dX8_doesOrder_165 ?_
    refine rwV3 (rest := []) S (c_X8_lights l E xo st sp th so sv pd nu sn ln ta sg g n (gu 0) (gu 1) (gu 2) hf hn) cd_X8_lights bw_820 ⟨Nat.le_of_ble_eq_true rfl, Nat.le_of_ble_eq_true rfl⟩ ⟨Nat.zero_le _, Nat.zero_le _⟩ hP (hDa.to rfl) hE hA hS [0, 1] rfl rfl [xo, st] rfl rfl (ci := 5) rfl (q0 := 0) rfl (Nat.le_of_ble_eq_true rfl) hl.1 dX8_doesOrder_166 (fun H locs hP _ hS => ?_)
    have hP : va_P E.1 vwCl [(xo, .inr (5, [.ref st, .ref sp, .ref th, .int (nI sn), .ref so, .ref sv, .ref pd, .int (nI ln), .int (nI ta), .int sg, .ref nu])), (st, .inl (E.2.1, 293, .inl (mLw g n (gu 0) (gu 1) (gu 2)))), (nu, .inl (E.2.1, 4, .inl gu))] H := hP
    exact hret _ _ _ _ _ _ (by rw [mDv, if_neg c_1, if_neg c_2, if_neg c_3, if_neg c_4, if_neg c_5, if_neg c_6, if_neg c_7, if_neg c_8, if_neg c_9, if_neg c_10, if_neg c_11, if_pos c_12]) (by rw [mDw, if_neg c_1, if_neg c_2, if_neg c_3, if_neg c_4, if_neg c_5, if_neg c_6, if_neg c_7, if_neg c_8, if_neg c_9, if_neg c_10, if_neg c_11, if_pos c_12]) rfl hP hS dX8_doesOrder_169
  by_cases c_13 : sg = nI 109
  · refine lv_tableIn (tgt := 193) hx hb dX8_doesOrder_4 (by rw [c_13]; decide) (by rw [c_13]; decide) (by rw [c_13]; rfl) (by decide) ?_
    refine lv_aload_n hx hb dX8_doesOrder_193 rfl (lv_at hl 0 rfl) ?_
    refine lv_aload_n hx hb dX8_doesOrder_194 rfl (lv_at hl 0 rfl) ?_
    refine va_get (D := E.1) (ci := 5) (v := .ref nu) (C := RX8) (T := TX8) (N := 11) hx hb hts inb_X8 hown hK hP 0 rfl rfl 10 (by decide) (hts _ bw_720) (fun _ h9 => h9) rfl dX8_doesOrder_195 ?_
    refine lv_iconst (v := nI 0) hx hb dX8_doesOrder_198 (by decide) ?_
    refine rn_iald (i := 0) hx hb hK hP 2 0 rfl rfl (by omega) (by omega) dX8_doesOrder_199 ?_
    refine lv_aload_n hx hb dX8_doesOrder_200 rfl (lv_at hl 0 rfl) ?_
    refine va_get (D := E.1) (ci := 5) (v := .ref nu) (C := RX8) (T := TX8) (N := 11) hx hb hts inb_X8 hown hK hP 0 rfl rfl 10 (by decide) (hts _ bw_720) (fun _ h9 => h9) rfl dX8_doesOrder_201 ?_
    refine lv_iconst (v := nI 1) hx hb dX8_doesOrder_204 (by decide) ?_
    refine rn_iald (i := 1) hx hb hK hP 2 0 rfl rfl (by omega) (by omega) dX8_doesOrder_205 ?_
    refine rwV2 (rest := []) S (c_X8_moves l E xo st sp th so sv pd nu sn ln ta sg g n (gu 0) (gu 1) hf hn) cd_X8_moves bw_843 ⟨Nat.le_of_ble_eq_true rfl, Nat.le_of_ble_eq_true rfl⟩ ⟨Nat.zero_le _, Nat.zero_le _⟩ hP (hDa.to rfl) hE hA hS [0, 1] rfl rfl [xo, st] rfl rfl (ci := 5) rfl (q0 := 0) rfl (Nat.le_of_ble_eq_true rfl) hl.1 dX8_doesOrder_206 (fun H locs hP _ hS => ?_)
    have hP : va_P E.1 vwCl [(xo, .inr (5, [.ref st, .ref sp, .ref th, .int (nI sn), .ref so, .ref sv, .ref pd, .int (nI ln), .int (nI ta), .int sg, .ref nu])), (st, .inl (E.2.1, 293, .inl (mMw g n (gu 0) (gu 1)))), (nu, .inl (E.2.1, 4, .inl gu))] H := hP
    exact hret _ _ _ _ _ _ (by rw [mDv, if_neg c_1, if_neg c_2, if_neg c_3, if_neg c_4, if_neg c_5, if_neg c_6, if_neg c_7, if_neg c_8, if_neg c_9, if_neg c_10, if_neg c_11, if_neg c_12, if_pos c_13]) (by rw [mDw, if_neg c_1, if_neg c_2, if_neg c_3, if_neg c_4, if_neg c_5, if_neg c_6, if_neg c_7, if_neg c_8, if_neg c_9, if_neg c_10, if_neg c_11, if_neg c_12, if_pos c_13]) rfl hP hS dX8_doesOrder_209
  by_cases c_14 : sg = nI 110
  · refine lv_tableIn (tgt := 231) hx hb dX8_doesOrder_4 (by rw [c_14]; decide) (by rw [c_14]; decide) (by rw [c_14]; rfl) (by decide) ?_
    refine lv_aload_n hx hb dX8_doesOrder_231 rfl (lv_at hl 0 rfl) ?_
    refine rwV0 (rest := []) S (c_X8_cards l E xo st sp th so sv pd nu sn ln ta sg g) cd_X8_cards bw_952 ⟨Nat.le_of_ble_eq_true rfl, Nat.le_of_ble_eq_true rfl⟩ ⟨Nat.zero_le _, Nat.zero_le _⟩ hP (hDa.to rfl) hE hA hS [0, 1] rfl rfl [xo, st] rfl rfl (ci := 5) rfl (q0 := 0) rfl (Nat.le_of_ble_eq_true rfl) hl.1 dX8_doesOrder_232 (fun H locs hP _ hS => ?_)
    have hP : va_P E.1 vwCl [(xo, .inr (5, [.ref st, .ref sp, .ref th, .int (nI sn), .ref so, .ref sv, .ref pd, .int (nI ln), .int (nI ta), .int sg, .ref nu])), (st, .inl (E.2.1, 293, .inl (mTc g 3))), (nu, .inl (E.2.1, 4, .inl gu))] H := hP
    exact hret _ _ _ _ _ _ (by rw [mDv, if_neg c_1, if_neg c_2, if_neg c_3, if_neg c_4, if_neg c_5, if_neg c_6, if_neg c_7, if_neg c_8, if_neg c_9, if_neg c_10, if_neg c_11, if_neg c_12, if_neg c_13, if_pos c_14]) (by rw [mDw, if_neg c_1, if_neg c_2, if_neg c_3, if_neg c_4, if_neg c_5, if_neg c_6, if_neg c_7, if_neg c_8, if_neg c_9, if_neg c_10, if_neg c_11, if_neg c_12, if_neg c_13, if_pos c_14]) rfl hP hS dX8_doesOrder_235
  by_cases c_15 : sg = nI 111
  · refine lv_tableIn (tgt := 231) hx hb dX8_doesOrder_4 (by rw [c_15]; decide) (by rw [c_15]; decide) (by rw [c_15]; rfl) (by decide) ?_
    refine lv_aload_n hx hb dX8_doesOrder_231 rfl (lv_at hl 0 rfl) ?_
    refine rwV0 (rest := []) S (c_X8_cards l E xo st sp th so sv pd nu sn ln ta sg g) cd_X8_cards bw_952 ⟨Nat.le_of_ble_eq_true rfl, Nat.le_of_ble_eq_true rfl⟩ ⟨Nat.zero_le _, Nat.zero_le _⟩ hP (hDa.to rfl) hE hA hS [0, 1] rfl rfl [xo, st] rfl rfl (ci := 5) rfl (q0 := 0) rfl (Nat.le_of_ble_eq_true rfl) hl.1 dX8_doesOrder_232 (fun H locs hP _ hS => ?_)
    have hP : va_P E.1 vwCl [(xo, .inr (5, [.ref st, .ref sp, .ref th, .int (nI sn), .ref so, .ref sv, .ref pd, .int (nI ln), .int (nI ta), .int sg, .ref nu])), (st, .inl (E.2.1, 293, .inl (mTc g 3))), (nu, .inl (E.2.1, 4, .inl gu))] H := hP
    exact hret _ _ _ _ _ _ (by rw [mDv, if_neg c_1, if_neg c_2, if_neg c_3, if_neg c_4, if_neg c_5, if_neg c_6, if_neg c_7, if_neg c_8, if_neg c_9, if_neg c_10, if_neg c_11, if_neg c_12, if_neg c_13, if_neg c_14, if_pos c_15]) (by rw [mDw, if_neg c_1, if_neg c_2, if_neg c_3, if_neg c_4, if_neg c_5, if_neg c_6, if_neg c_7, if_neg c_8, if_neg c_9, if_neg c_10, if_neg c_11, if_neg c_12, if_neg c_13, if_neg c_14, if_pos c_15]) rfl hP hS dX8_doesOrder_235
  by_cases c_16 : sg = nI 112
  · refine lv_tableIn (tgt := 210) hx hb dX8_doesOrder_4 (by rw [c_16]; decide) (by rw [c_16]; decide) (by rw [c_16]; rfl) (by decide) ?_
    refine lv_aload_n hx hb dX8_doesOrder_210 rfl (lv_at hl 0 rfl) ?_
    refine rwV0 (rest := []) S (c_X8_makesPrint l E xo st sp th so sv pd nu sn ln ta sg g n hf hn) cd_X8_makesPrint bw_878 ⟨Nat.le_of_ble_eq_true rfl, Nat.le_of_ble_eq_true rfl⟩ ⟨Nat.zero_le _, Nat.zero_le _⟩ hP (hDa.to rfl) hE hA hS [0, 1] rfl rfl [xo, st] rfl rfl (ci := 5) rfl (q0 := 0) rfl (Nat.le_of_ble_eq_true rfl) hl.1 dX8_doesOrder_211 (fun H locs hP _ hS => ?_)
    have hP : va_P E.1 vwCl [(xo, .inr (5, [.ref st, .ref sp, .ref th, .int (nI sn), .ref so, .ref sv, .ref pd, .int (nI ln), .int (nI ta), .int sg, .ref nu])), (st, .inl (E.2.1, 293, .inl (mQw g n))), (nu, .inl (E.2.1, 4, .inl gu))] H := hP
    exact hret _ _ _ _ _ _ (by rw [mDv, if_neg c_1, if_neg c_2, if_neg c_3, if_neg c_4, if_neg c_5, if_neg c_6, if_neg c_7, if_neg c_8, if_neg c_9, if_neg c_10, if_neg c_11, if_neg c_12, if_neg c_13, if_neg c_14, if_neg c_15, if_pos c_16]) (by rw [mDw, if_neg c_1, if_neg c_2, if_neg c_3, if_neg c_4, if_neg c_5, if_neg c_6, if_neg c_7, if_neg c_8, if_neg c_9, if_neg c_10, if_neg c_11, if_neg c_12, if_neg c_13, if_neg c_14, if_neg c_15, if_pos c_16]) rfl hP hS dX8_doesOrder_214
  by_cases c_17 : sg = nI 113
  · refine lv_tableIn (tgt := 231) hx hb dX8_doesOrder_4 (by rw [c_17]; decide) (by rw [c_17]; decide) (by rw [c_17]; rfl) (by decide) ?_
    refine lv_aload_n hx hb dX8_doesOrder_231 rfl (lv_at hl 0 rfl) ?_
    refine rwV0 (rest := []) S (c_X8_cards l E xo st sp th so sv pd nu sn ln ta sg g) cd_X8_cards bw_952 ⟨Nat.le_of_ble_eq_true rfl, Nat.le_of_ble_eq_true rfl⟩ ⟨Nat.zero_le _, Nat.zero_le _⟩ hP (hDa.to rfl) hE hA hS [0, 1] rfl rfl [xo, st] rfl rfl (ci := 5) rfl (q0 := 0) rfl (Nat.le_of_ble_eq_true rfl) hl.1 dX8_doesOrder_232 (fun H locs hP _ hS => ?_)
    have hP : va_P E.1 vwCl [(xo, .inr (5, [.ref st, .ref sp, .ref th, .int (nI sn), .ref so, .ref sv, .ref pd, .int (nI ln), .int (nI ta), .int sg, .ref nu])), (st, .inl (E.2.1, 293, .inl (mTc g 3))), (nu, .inl (E.2.1, 4, .inl gu))] H := hP
    exact hret _ _ _ _ _ _ (by rw [mDv, if_neg c_1, if_neg c_2, if_neg c_3, if_neg c_4, if_neg c_5, if_neg c_6, if_neg c_7, if_neg c_8, if_neg c_9, if_neg c_10, if_neg c_11, if_neg c_12, if_neg c_13, if_neg c_14, if_neg c_15, if_neg c_16, if_pos c_17]) (by rw [mDw, if_neg c_1, if_neg c_2, if_neg c_3, if_neg c_4, if_neg c_5, if_neg c_6, if_neg c_7, if_neg c_8, if_neg c_9, if_neg c_10, if_neg c_11, if_neg c_12, if_neg c_13, if_neg c_14, if_neg c_15, if_neg c_16, if_pos c_17]) rfl hP hS dX8_doesOrder_235
  by_cases c_18 : sg = nI 114
  · refine lv_tableIn (tgt := 231) hx hb dX8_doesOrder_4 (by rw [c_18]; decide) (by rw [c_18]; decide) (by rw [c_18]; rfl) (by decide) ?_
    refine lv_aload_n hx hb dX8_doesOrder_231 rfl (lv_at hl 0 rfl) ?_
    refine rwV0 (rest := []) S (c_X8_cards l E xo st sp th so sv pd nu sn ln ta sg g) cd_X8_cards bw_952 ⟨Nat.le_of_ble_eq_true rfl, Nat.le_of_ble_eq_true rfl⟩ ⟨Nat.zero_le _, Nat.zero_le _⟩ hP (hDa.to rfl) hE hA hS [0, 1] rfl rfl [xo, st] rfl rfl (ci := 5) rfl (q0 := 0) rfl (Nat.le_of_ble_eq_true rfl) hl.1 dX8_doesOrder_232 (fun H locs hP _ hS => ?_)
    have hP : va_P E.1 vwCl [(xo, .inr (5, [.ref st, .ref sp, .ref th, .int (nI sn), .ref so, .ref sv, .ref pd, .int (nI ln), .int (nI ta), .int sg, .ref nu])), (st, .inl (E.2.1, 293, .inl (mTc g 3))), (nu, .inl (E.2.1, 4, .inl gu))] H := hP
    exact hret _ _ _ _ _ _ (by rw [mDv, if_neg c_1, if_neg c_2, if_neg c_3, if_neg c_4, if_neg c_5, if_neg c_6, if_neg c_7, if_neg c_8, if_neg c_9, if_neg c_10, if_neg c_11, if_neg c_12, if_neg c_13, if_neg c_14, if_neg c_15, if_neg c_16, if_neg c_17, if_pos c_18]) (by rw [mDw, if_neg c_1, if_neg c_2, if_neg c_3, if_neg c_4, if_neg c_5, if_neg c_6, if_neg c_7, if_neg c_8, if_neg c_9, if_neg c_10, if_neg c_11, if_neg c_12, if_neg c_13, if_neg c_14, if_neg c_15, if_neg c_16, if_neg c_17, if_pos c_18]) rfl hP hS dX8_doesOrder_235
  by_cases c_19 : sg = nI 115
  · refine lv_tableIn (tgt := 112) hx hb dX8_doesOrder_4 (by rw [c_19]; decide) (by rw [c_19]; decide) (by rw [c_19]; rfl) (by decide) ?_
    refine lv_aload_n hx hb dX8_doesOrder_112 rfl (lv_at hl 0 rfl) ?_
    refine lv_aload_n hx hb dX8_doesOrder_113 rfl (lv_at hl 0 rfl) ?_
    refine va_get (D := E.1) (ci := 5) (v := .ref st) (C := RX8) (T := TX8) (N := 11) hx hb hts inb_X8 hown hK hP 0 rfl rfl 0 (by decide) (hts _ bw_710) (fun _ h9 => h9) rfl dX8_doesOrder_114 ?_
    refine lv_iconst (v := nI 4) hx hb dX8_doesOrder_117 (by decide) ?_
    refine rn_iald (i := 4) hx hb hK hP 1 0 rfl rfl (by omega) (by omega) dX8_doesOrder_118 ?_
    refine W.eq (congrArg (fun z => F0 m 119 ls (.int z :: [.ref xo])) (show g 4 = nI n from hf)) ?_
    refine lv_aload_n hx hb dX8_doesOrder_119 rfl (lv_at hl 0 rfl) ?_
    refine va_get (D := E.1) (ci := 5) (v := .ref nu) (C := RX8) (T := TX8) (N := 11) hx hb hts inb_X8 hown hK hP 0 rfl rfl 10 (by decide) (hts _ bw_720) (fun _ h9 => h9) rfl dX8_doesOrder_120 ?_
    refine lv_iconst (v := nI 0) hx hb dX8_doesOrder_123 (by decide) ?_
    refine rn_iald (i := 0) hx hb hK hP 2 0 rfl rfl (by omega) (by omega) dX8_doesOrder_124 ?_
    refine lv_aload_n hx hb dX8_doesOrder_125 rfl (lv_at hl 0 rfl) ?_
    refine va_get (D := E.1) (ci := 5) (v := .ref nu) (C := RX8) (T := TX8) (N := 11) hx hb hts inb_X8 hown hK hP 0 rfl rfl 10 (by decide) (hts _ bw_720) (fun _ h9 => h9) rfl dX8_doesOrder_126 ?_
    refine lv_iconst (v := nI 1) hx hb dX8_doesOrder_129 (by decide) ?_
    refine rn_iald (i := 1) hx hb hK hP 2 0 rfl rfl (by omega) (by omega) dX8_doesOrder_130 ?_
    refine lv_aload_n hx hb dX8_doesOrder_131 rfl (lv_at hl 0 rfl) ?_
    refine va_get (D := E.1) (ci := 5) (v := .ref nu) (C := RX8) (T := TX8) (N := 11) hx hb hts inb_X8 hown hK hP 0 rfl rfl 10 (by decide) (hts _ bw_720) (fun _ h9 => h9) rfl dX8_doesOrder_132 ?_
    refine lv_iconst (v := nI 2) hx hb dX8_doesOrder_135 (by decide) ?_
    refine rn_iald (i := 2) hx hb hK hP 2 0 rfl rfl (by omega) (by omega) dX8_doesOrder_136 ?_
    refine lv_aload_n hx hb dX8_doesOrder_137 rfl (lv_at hl 0 rfl) ?_
    refine va_get (D := E.1) (ci := 5) (v := .ref nu) (C := RX8) (T := TX8) (N := 11) hx hb hts inb_X8 hown hK hP 0 rfl rfl 10 (by decide) (hts _ bw_720) (fun _ h9 => h9) rfl dX8_doesOrder_138 ?_
    refine lv_iconst (v := nI 3) hx hb dX8_doesOrder_141 (by decide) ?_
    refine rn_iald (i := 3) hx hb hK hP 2 0 rfl rfl (by omega) (by omega) dX8_doesOrder_142 ?_
    refine rwV5 (rest := []) S (c_X8_comes l E xo st sp th so sv pd nu sn ln ta sg g n (nI n) (gu 0) (gu 1) (gu 2) (gu 3) hf hn) cd_X8_comes bw_785 ⟨Nat.le_of_ble_eq_true rfl, Nat.le_of_ble_eq_true rfl⟩ ⟨Nat.zero_le _, Nat.zero_le _⟩ hP (hDa.to rfl) hE hA hS [0, 1] rfl rfl [xo, st] rfl rfl (ci := 5) rfl (q0 := 0) rfl (Nat.le_of_ble_eq_true rfl) hl.1 dX8_doesOrder_143 (fun H locs hP _ hS => ?_)
    have hP : va_P E.1 vwCl [(xo, .inr (5, [.ref st, .ref sp, .ref th, .int (nI sn), .ref so, .ref sv, .ref pd, .int (nI ln), .int (nI ta), .int sg, .ref nu])), (st, .inl (E.2.1, 293, .inl (mAw g n (nI n) (gu 0) (gu 1) (gu 2) (gu 3)))), (nu, .inl (E.2.1, 4, .inl gu))] H := hP
    exact hret _ _ _ _ _ _ (by rw [mDv, if_neg c_1, if_neg c_2, if_neg c_3, if_neg c_4, if_neg c_5, if_neg c_6, if_neg c_7, if_neg c_8, if_neg c_9, if_neg c_10, if_neg c_11, if_neg c_12, if_neg c_13, if_neg c_14, if_neg c_15, if_neg c_16, if_neg c_17, if_neg c_18, if_pos c_19]) (by rw [mDw, if_neg c_1, if_neg c_2, if_neg c_3, if_neg c_4, if_neg c_5, if_neg c_6, if_neg c_7, if_neg c_8, if_neg c_9, if_neg c_10, if_neg c_11, if_neg c_12, if_neg c_13, if_neg c_14, if_neg c_15, if_neg c_16, if_neg c_17, if_neg c_18, if_pos c_19]) rfl hP hS dX8_doesOrder_146
  by_cases c_20 : sg = nI 116
  · refine lv_tableIn (tgt := 231) hx hb dX8_doesOrder_4 (by rw [c_20]; decide) (by rw [c_20]; decide) (by rw [c_20]; rfl) (by decide) ?_
    refine lv_aload_n hx hb dX8_doesOrder_231 rfl (lv_at hl 0 rfl) ?_
    refine rwV0 (rest := []) S (c_X8_cards l E xo st sp th so sv pd nu sn ln ta sg g) cd_X8_cards bw_952 ⟨Nat.le_of_ble_eq_true rfl, Nat.le_of_ble_eq_true rfl⟩ ⟨Nat.zero_le _, Nat.zero_le _⟩ hP (hDa.to rfl) hE hA hS [0, 1] rfl rfl [xo, st] rfl rfl (ci := 5) rfl (q0 := 0) rfl (Nat.le_of_ble_eq_true rfl) hl.1 dX8_doesOrder_232 (fun H locs hP _ hS => ?_)
    have hP : va_P E.1 vwCl [(xo, .inr (5, [.ref st, .ref sp, .ref th, .int (nI sn), .ref so, .ref sv, .ref pd, .int (nI ln), .int (nI ta), .int sg, .ref nu])), (st, .inl (E.2.1, 293, .inl (mTc g 3))), (nu, .inl (E.2.1, 4, .inl gu))] H := hP
    exact hret _ _ _ _ _ _ (by rw [mDv, if_neg c_1, if_neg c_2, if_neg c_3, if_neg c_4, if_neg c_5, if_neg c_6, if_neg c_7, if_neg c_8, if_neg c_9, if_neg c_10, if_neg c_11, if_neg c_12, if_neg c_13, if_neg c_14, if_neg c_15, if_neg c_16, if_neg c_17, if_neg c_18, if_neg c_19, if_pos c_20]) (by rw [mDw, if_neg c_1, if_neg c_2, if_neg c_3, if_neg c_4, if_neg c_5, if_neg c_6, if_neg c_7, if_neg c_8, if_neg c_9, if_neg c_10, if_neg c_11, if_neg c_12, if_neg c_13, if_neg c_14, if_neg c_15, if_neg c_16, if_neg c_17, if_neg c_18, if_neg c_19, if_pos c_20]) rfl hP hS dX8_doesOrder_235
  by_cases c_21 : sg = nI 117
  · refine lv_tableIn (tgt := 231) hx hb dX8_doesOrder_4 (by rw [c_21]; decide) (by rw [c_21]; decide) (by rw [c_21]; rfl) (by decide) ?_
    refine lv_aload_n hx hb dX8_doesOrder_231 rfl (lv_at hl 0 rfl) ?_
    refine rwV0 (rest := []) S (c_X8_cards l E xo st sp th so sv pd nu sn ln ta sg g) cd_X8_cards bw_952 ⟨Nat.le_of_ble_eq_true rfl, Nat.le_of_ble_eq_true rfl⟩ ⟨Nat.zero_le _, Nat.zero_le _⟩ hP (hDa.to rfl) hE hA hS [0, 1] rfl rfl [xo, st] rfl rfl (ci := 5) rfl (q0 := 0) rfl (Nat.le_of_ble_eq_true rfl) hl.1 dX8_doesOrder_232 (fun H locs hP _ hS => ?_)
    have hP : va_P E.1 vwCl [(xo, .inr (5, [.ref st, .ref sp, .ref th, .int (nI sn), .ref so, .ref sv, .ref pd, .int (nI ln), .int (nI ta), .int sg, .ref nu])), (st, .inl (E.2.1, 293, .inl (mTc g 3))), (nu, .inl (E.2.1, 4, .inl gu))] H := hP
    exact hret _ _ _ _ _ _ (by rw [mDv, if_neg c_1, if_neg c_2, if_neg c_3, if_neg c_4, if_neg c_5, if_neg c_6, if_neg c_7, if_neg c_8, if_neg c_9, if_neg c_10, if_neg c_11, if_neg c_12, if_neg c_13, if_neg c_14, if_neg c_15, if_neg c_16, if_neg c_17, if_neg c_18, if_neg c_19, if_neg c_20, if_pos c_21]) (by rw [mDw, if_neg c_1, if_neg c_2, if_neg c_3, if_neg c_4, if_neg c_5, if_neg c_6, if_neg c_7, if_neg c_8, if_neg c_9, if_neg c_10, if_neg c_11, if_neg c_12, if_neg c_13, if_neg c_14, if_neg c_15, if_neg c_16, if_neg c_17, if_neg c_18, if_neg c_19, if_neg c_20, if_pos c_21]) rfl hP hS dX8_doesOrder_235
  by_cases c_22 : sg = nI 118
  · refine lv_tableIn (tgt := 231) hx hb dX8_doesOrder_4 (by rw [c_22]; decide) (by rw [c_22]; decide) (by rw [c_22]; rfl) (by decide) ?_
    refine lv_aload_n hx hb dX8_doesOrder_231 rfl (lv_at hl 0 rfl) ?_
    refine rwV0 (rest := []) S (c_X8_cards l E xo st sp th so sv pd nu sn ln ta sg g) cd_X8_cards bw_952 ⟨Nat.le_of_ble_eq_true rfl, Nat.le_of_ble_eq_true rfl⟩ ⟨Nat.zero_le _, Nat.zero_le _⟩ hP (hDa.to rfl) hE hA hS [0, 1] rfl rfl [xo, st] rfl rfl (ci := 5) rfl (q0 := 0) rfl (Nat.le_of_ble_eq_true rfl) hl.1 dX8_doesOrder_232 (fun H locs hP _ hS => ?_)
    have hP : va_P E.1 vwCl [(xo, .inr (5, [.ref st, .ref sp, .ref th, .int (nI sn), .ref so, .ref sv, .ref pd, .int (nI ln), .int (nI ta), .int sg, .ref nu])), (st, .inl (E.2.1, 293, .inl (mTc g 3))), (nu, .inl (E.2.1, 4, .inl gu))] H := hP
    exact hret _ _ _ _ _ _ (by rw [mDv, if_neg c_1, if_neg c_2, if_neg c_3, if_neg c_4, if_neg c_5, if_neg c_6, if_neg c_7, if_neg c_8, if_neg c_9, if_neg c_10, if_neg c_11, if_neg c_12, if_neg c_13, if_neg c_14, if_neg c_15, if_neg c_16, if_neg c_17, if_neg c_18, if_neg c_19, if_neg c_20, if_neg c_21, if_pos c_22]) (by rw [mDw, if_neg c_1, if_neg c_2, if_neg c_3, if_neg c_4, if_neg c_5, if_neg c_6, if_neg c_7, if_neg c_8, if_neg c_9, if_neg c_10, if_neg c_11, if_neg c_12, if_neg c_13, if_neg c_14, if_neg c_15, if_neg c_16, if_neg c_17, if_neg c_18, if_neg c_19, if_neg c_20, if_neg c_21, if_pos c_22]) rfl hP hS dX8_doesOrder_235
  by_cases c_23 : sg = nI 119
  · refine lv_tableIn (tgt := 170) hx hb dX8_doesOrder_4 (by rw [c_23]; decide) (by rw [c_23]; decide) (by rw [c_23]; rfl) (by decide) ?_
    refine lv_aload_n hx hb dX8_doesOrder_170 rfl (lv_at hl 0 rfl) ?_
    refine lv_aload_n hx hb dX8_doesOrder_171 rfl (lv_at hl 0 rfl) ?_
    refine va_get (D := E.1) (ci := 5) (v := .ref nu) (C := RX8) (T := TX8) (N := 11) hx hb hts inb_X8 hown hK hP 0 rfl rfl 10 (by decide) (hts _ bw_720) (fun _ h9 => h9) rfl dX8_doesOrder_172 ?_
    refine lv_iconst (v := nI 0) hx hb dX8_doesOrder_175 (by decide) ?_
    refine rn_iald (i := 0) hx hb hK hP 2 0 rfl rfl (by omega) (by omega) dX8_doesOrder_176 ?_
    refine lv_aload_n hx hb dX8_doesOrder_177 rfl (lv_at hl 0 rfl) ?_
    refine va_get (D := E.1) (ci := 5) (v := .ref nu) (C := RX8) (T := TX8) (N := 11) hx hb hts inb_X8 hown hK hP 0 rfl rfl 10 (by decide) (hts _ bw_720) (fun _ h9 => h9) rfl dX8_doesOrder_178 ?_
    refine lv_iconst (v := nI 1) hx hb dX8_doesOrder_181 (by decide) ?_
    refine rn_iald (i := 1) hx hb hK hP 2 0 rfl rfl (by omega) (by omega) dX8_doesOrder_182 ?_
    refine lv_aload_n hx hb dX8_doesOrder_183 rfl (lv_at hl 0 rfl) ?_
    refine va_get (D := E.1) (ci := 5) (v := .ref nu) (C := RX8) (T := TX8) (N := 11) hx hb hts inb_X8 hown hK hP 0 rfl rfl 10 (by decide) (hts _ bw_720) (fun _ h9 => h9) rfl dX8_doesOrder_184 ?_
    refine lv_iconst (v := nI 2) hx hb dX8_doesOrder_187 (by decide) ?_
    refine rn_iald (i := 2) hx hb hK hP 2 0 rfl rfl (by omega) (by omega) dX8_doesOrder_188 ?_
    refine rwV3 (rest := []) S (c_X8_wishes l E xo st sp th so sv pd nu sn ln ta sg g n (gu 0) (gu 1) (gu 2) hf hn) cd_X8_wishes bw_835 ⟨Nat.le_of_ble_eq_true rfl, Nat.le_of_ble_eq_true rfl⟩ ⟨Nat.zero_le _, Nat.zero_le _⟩ hP (hDa.to rfl) hE hA hS [0, 1] rfl rfl [xo, st] rfl rfl (ci := 5) rfl (q0 := 0) rfl (Nat.le_of_ble_eq_true rfl) hl.1 dX8_doesOrder_189 (fun H locs hP _ hS => ?_)
    have hP : va_P E.1 vwCl [(xo, .inr (5, [.ref st, .ref sp, .ref th, .int (nI sn), .ref so, .ref sv, .ref pd, .int (nI ln), .int (nI ta), .int sg, .ref nu])), (st, .inl (E.2.1, 293, .inl (mWw g n (gu 0) (gu 1) (gu 2)))), (nu, .inl (E.2.1, 4, .inl gu))] H := hP
    exact hret _ _ _ _ _ _ (by rw [mDv, if_neg c_1, if_neg c_2, if_neg c_3, if_neg c_4, if_neg c_5, if_neg c_6, if_neg c_7, if_neg c_8, if_neg c_9, if_neg c_10, if_neg c_11, if_neg c_12, if_neg c_13, if_neg c_14, if_neg c_15, if_neg c_16, if_neg c_17, if_neg c_18, if_neg c_19, if_neg c_20, if_neg c_21, if_neg c_22, if_pos c_23]) (by rw [mDw, if_neg c_1, if_neg c_2, if_neg c_3, if_neg c_4, if_neg c_5, if_neg c_6, if_neg c_7, if_neg c_8, if_neg c_9, if_neg c_10, if_neg c_11, if_neg c_12, if_neg c_13, if_neg c_14, if_neg c_15, if_neg c_16, if_neg c_17, if_neg c_18, if_neg c_19, if_neg c_20, if_neg c_21, if_neg c_22, if_pos c_23]) rfl hP hS dX8_doesOrder_192
  refine lv_tableOut (tgt := 231) hx hb dX8_doesOrder_4 (sw_out (lo := 97) (n := 23) ((lt_s (lt_s (lt_s (lt_s (lt_s (lt_s (lt_s (lt_s (lt_s (lt_s (lt_s (lt_s (lt_s (lt_s (lt_s (lt_s (lt_s (lt_s (lt_s (lt_s (lt_s (lt_s (lt_s lt_0 c_1) c_2) c_3) c_4) c_5) c_6) c_7) c_8) c_9) c_10) c_11) c_12) c_13) c_14) c_15) c_16) c_17) c_18) c_19) c_20) c_21) c_22) c_23 : ∀ a, a < 23 → (fun a => ¬ sg = nI (97 + a)) a))) (by decide) ?_
  refine lv_aload_n hx hb dX8_doesOrder_231 rfl (lv_at hl 0 rfl) ?_
  refine rwV0 (rest := []) S (c_X8_cards l E xo st sp th so sv pd nu sn ln ta sg g) cd_X8_cards bw_952 ⟨Nat.le_of_ble_eq_true rfl, Nat.le_of_ble_eq_true rfl⟩ ⟨Nat.zero_le _, Nat.zero_le _⟩ hP (hDa.to rfl) hE hA hS [0, 1] rfl rfl [xo, st] rfl rfl (ci := 5) rfl (q0 := 0) rfl (Nat.le_of_ble_eq_true rfl) hl.1 dX8_doesOrder_232 (fun H locs hP _ hS => ?_)
  have hP : va_P E.1 vwCl [(xo, .inr (5, [.ref st, .ref sp, .ref th, .int (nI sn), .ref so, .ref sv, .ref pd, .int (nI ln), .int (nI ta), .int sg, .ref nu])), (st, .inl (E.2.1, 293, .inl (mTc g 3))), (nu, .inl (E.2.1, 4, .inl gu))] H := hP
  exact hret _ _ _ _ _ _ (by rw [mDv, if_neg c_1, if_neg c_2, if_neg c_3, if_neg c_4, if_neg c_5, if_neg c_6, if_neg c_7, if_neg c_8, if_neg c_9, if_neg c_10, if_neg c_11, if_neg c_12, if_neg c_13, if_neg c_14, if_neg c_15, if_neg c_16, if_neg c_17, if_neg c_18, if_neg c_19, if_neg c_20, if_neg c_21, if_neg c_22, if_neg c_23]) (by rw [mDw, if_neg c_1, if_neg c_2, if_neg c_3, if_neg c_4, if_neg c_5, if_neg c_6, if_neg c_7, if_neg c_8, if_neg c_9, if_neg c_10, if_neg c_11, if_neg c_12, if_neg c_13, if_neg c_14, if_neg c_15, if_neg c_16, if_neg c_17, if_neg c_18, if_neg c_19, if_neg c_20, if_neg c_21, if_neg c_22, if_neg c_23]) rfl hP hS dX8_doesOrder_235

