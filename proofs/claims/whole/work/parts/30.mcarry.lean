/-! the reference: carryOut() -/
def g14 (g : Nat → Int32) : Prop := g 4 = nI (ix (g 4)) ∧ ix (g 4) ≤ 20 ∧ ¬ g 0 = 0
theorem g14_of {g : Nat → Int32} {n : Nat} (h : g 4 = nI n) (hn : n ≤ 20) (h0 : ¬ g 0 = 0) : g14 g := by
  have e : ix (g 4) = n := by rw [h]; exact ix_nI (by omega)
  exact ⟨by rw [e]; exact h, by omega, h0⟩
theorem g14_k {g h : Nat → Int32} (hg : g14 g) (e4 : h 4 = g 4) (e0 : h 0 = g 0) : g14 h := by
  unfold g14
  rw [e4, e0]; exact hg
theorem g14_ite {c : Prop} [Decidable c] {a b : Nat → Int32} (ha : g14 a) (hb : g14 b) : g14 (if c then a else b) := by
  split
  · exact ha
  · exact hb
theorem mTa_u (g : Nat → Int32) (p j : Nat) (h : j < 13) : mTa g p j = g j := (pk_un (by omega)).trans ((pk_un (by omega)).trans ((pk_un (by omega)).trans (pk_un (by omega))))
theorem opM_u (g : Nat → Int32) (n p j : Nat) (h : j < 13) (h4 : j ≠ 4) : opM g n p j = g j := (pk_un h4).trans (by simp only [opN]; (repeat' split) <;> first | rfl | omega)
theorem clM_u (g : Nat → Int32) (n p j : Nat) (h : j < 13) (h4 : j ≠ 4) : clM g n p j = g j := (pk_un h4).trans (by simp only [clN]; (repeat' split) <;> first | rfl | omega)
theorem swN_u (f : Nat → Int32) (a b i j : Nat) (h : j < 13) : swN f a b i j = f j := by
  unfold swN
  rw [if_neg (by omega), if_neg (by omega)]
theorem mvU_u (f : Nat → Int32) (p j : Nat) (h : j < 13) : ∀ d, mvU f p d j = f j
  | 0 => rfl
  | d + 1 => (swN_u _ _ _ _ j h).trans (mvU_u f p j h d)
theorem mvD_u (f : Nat → Int32) (p j : Nat) (h : j < 13) : ∀ d, mvD f p d j = f j
  | 0 => rfl
  | d + 1 => (swN_u _ _ _ _ j h).trans (mvD_u f p j h d)
theorem mAw_ok {g : Nat → Int32} {n : Nat} (h : g14 g) (hn : n ≤ 20) (x ft re gr bl : Int32) : g14 (mAw g n x ft re gr bl) := by
  unfold mAw
  by_cases c : n = 20
  · rw [if_pos c]
    repeat' (with_reducible refine g14_ite ?_ ?_)
    all_goals exact h
  · rw [if_neg c]
    repeat' (with_reducible refine g14_ite ?_ ?_)
    all_goals first | with_reducible exact h | exact g14_of (n := n + 1) ((mTa_u _ _ 4 (by decide)).trans ((pk_un (by omega)).trans ((pk_un (by omega)).trans ((pk_un (by omega)).trans ((pk_un (by omega)).trans ((pk_un (by omega)).trans ((pk_un (by omega)).trans ((pk_un (by omega)).trans ((pk_un (by omega)).trans ((pk_un (by omega)).trans ((pk_un (by omega)).trans (opM_4 _ _ _)))))))))))) (by omega) (fun z => h.2.2 (((mTa_u _ _ 0 (by decide)).trans ((pk_un (by omega)).trans ((pk_un (by omega)).trans ((pk_un (by omega)).trans ((pk_un (by omega)).trans ((pk_un (by omega)).trans ((pk_un (by omega)).trans ((pk_un (by omega)).trans ((pk_un (by omega)).trans ((pk_un (by omega)).trans ((pk_un (by omega)).trans (opM_u _ _ _ 0 (by decide) (by decide))))))))))))).symm.trans z))
theorem mLw_ok {g : Nat → Int32} {n : Nat} (h : g14 g) (x y z : Int32) : g14 (mLw g n x y z) := by
  unfold mLw
  repeat' (with_reducible refine g14_ite ?_ ?_)
  all_goals first | with_reducible exact h | exact g14_k h (pk_un (by omega)) (pk_un (by omega))
theorem mWw_ok {g : Nat → Int32} {n : Nat} (h : g14 g) (x y z : Int32) : g14 (mWw g n x y z) := by
  unfold mWw
  repeat' (with_reducible refine g14_ite ?_ ?_)
  all_goals first | with_reducible exact h | exact g14_k h (pk_un (by omega)) (pk_un (by omega))
theorem mMw_ok {g : Nat → Int32} {n : Nat} (h : g14 g) (x y : Int32) : g14 (mMw g n x y) := by
  unfold mMw
  repeat' (with_reducible refine g14_ite ?_ ?_)
  all_goals first | with_reducible exact h | with_reducible exact g14_k h (mvU_u _ _ 4 (by decide) _) (mvU_u _ _ 0 (by decide) _) | with_reducible exact g14_k h (mvD_u _ _ 4 (by decide) _) (mvD_u _ _ 0 (by decide) _)
theorem mQw_ok {g : Nat → Int32} {n : Nat} (h : g14 g) : g14 (mQw g n) := by
  unfold mQw
  repeat' (with_reducible refine g14_ite ?_ ?_)
  all_goals first | with_reducible exact h | with_reducible exact g14_k h (mKw_4 _ _) (mKw_0 _ _)
theorem mCw_ok {g : Nat → Int32} {n : Nat} (h : g14 g) (x : Int32) : g14 (mCw g n x) := by
  unfold mCw
  repeat' (with_reducible refine g14_ite ?_ ?_)
  all_goals first | with_reducible exact h | with_reducible exact g14_k h (mEw_u _ _ 4 (by decide) (by decide)) (mEw_u _ _ 0 (by decide) (by decide))
theorem mDw_ok {g : Nat → Int32} {n : Nat} (h : g14 g) (hn : n ≤ 20) (sg : Int32) (gu : Nat → Int32) : g14 (mDw g n sg gu) := by
  have hT : g14 (mTc g 3) := g14_k h (mTc_u g 4 (by decide) 3) (mTc_u g 0 (by decide) 3)
  have hZ : g14 (mZw g n) := g14_k h (mZw_u _ _ 4 (by decide) (by decide)) (mZw_u _ _ 0 (by decide) (by decide))
  unfold mDw
  repeat' (with_reducible refine g14_ite ?_ ?_)
  all_goals first | with_reducible exact hT | with_reducible exact hZ | with_reducible exact mCw_ok h _ | with_reducible exact mLw_ok h _ _ _ | with_reducible exact mMw_ok h _ _ | with_reducible exact mQw_ok h | with_reducible exact mAw_ok h hn _ _ _ _ _ | with_reducible exact mWw_ok h _ _ _
/-- at, sign, numbers behind k orders of the text carried out -/
def mcS (gt : Nat → Int32) (ln : Nat) (σ : MS) : Nat → MS
  | 0 => σ
  | k + 1 => (mRoA gt ln (mcS gt ln σ k).1 (mcS gt ln σ k).2.2 + 1, mRoS gt ln (mcS gt ln σ k).1 (mcS gt ln σ k).2.2, mRoU gt ln (mcS gt ln σ k).1 (mcS gt ln σ k).2.2)
theorem mcS_0 (gt : Nat → Int32) (ln : Nat) (σ : MS) : mcS gt ln σ 0 = σ := rfl
theorem mcS1 (gt : Nat → Int32) (ln : Nat) (σ : MS) (k : Nat) : (mcS gt ln σ (k + 1)).1 = mRoA gt ln (mcS gt ln σ k).1 (mcS gt ln σ k).2.2 + 1 := rfl
theorem mcS2 (gt : Nat → Int32) (ln : Nat) (σ : MS) (k : Nat) : (mcS gt ln σ (k + 1)).2.1 = mRoS gt ln (mcS gt ln σ k).1 (mcS gt ln σ k).2.2 := rfl
theorem mcS3 (gt : Nat → Int32) (ln : Nat) (σ : MS) (k : Nat) : (mcS gt ln σ (k + 1)).2.2 = mRoU gt ln (mcS gt ln σ k).1 (mcS gt ln σ k).2.2 := rfl
abbrev mcR (gt : Nat → Int32) (ln : Nat) (σ : MS) (k : Nat) : Int32 := mRo gt ln (mcS gt ln σ k).1 (mcS gt ln σ k).2.2
def mcG (gt : Nat → Int32) (ln : Nat) (σ : MS) (g : Nat → Int32) : Nat → Nat → Int32
  | 0 => g
  | k + 1 => if mRo gt ln (mcS gt ln σ k).1 (mcS gt ln σ k).2.2 = 0 then mcG gt ln σ g k else mDw (mcG gt ln σ g k) (ix (mcG gt ln σ g k 4)) (mRoS gt ln (mcS gt ln σ k).1 (mcS gt ln σ k).2.2) (mRoU gt ln (mcS gt ln σ k).1 (mcS gt ln σ k).2.2)
def mcA (gt : Nat → Int32) (ln : Nat) (σ : MS) (g : Nat → Int32) (k : Nat) : Int32 := mDv (mcG gt ln σ g k) (ix (mcG gt ln σ g k 4)) (mRoS gt ln (mcS gt ln σ k).1 (mcS gt ln σ k).2.2) (mRoU gt ln (mcS gt ln σ k).1 (mcS gt ln σ k).2.2)
theorem mcG_0 (gt : Nat → Int32) (ln : Nat) (σ : MS) (g : Nat → Int32) : mcG gt ln σ g 0 = g := rfl
theorem mcG_p {gt : Nat → Int32} {ln : Nat} {σ : MS} {g : Nat → Int32} {k : Nat} (h : mRo gt ln (mcS gt ln σ k).1 (mcS gt ln σ k).2.2 = 0) : mcG gt ln σ g (k + 1) = mcG gt ln σ g k := by rw [mcG, if_pos h]
theorem mcG_n {gt : Nat → Int32} {ln : Nat} {σ : MS} {g : Nat → Int32} {k : Nat} (h : ¬ mRo gt ln (mcS gt ln σ k).1 (mcS gt ln σ k).2.2 = 0) : mcG gt ln σ g (k + 1) = mDw (mcG gt ln σ g k) (ix (mcG gt ln σ g k 4)) (mRoS gt ln (mcS gt ln σ k).1 (mcS gt ln σ k).2.2) (mRoU gt ln (mcS gt ln σ k).1 (mcS gt ln σ k).2.2) := by rw [mcG, if_neg h]
def mcB (gt : Nat → Int32) (ln : Nat) (σ : MS) (g : Nat → Int32) : Nat → Int32
  | 0 => nI 1
  | k + 1 => if mRo gt ln (mcS gt ln σ k).1 (mcS gt ln σ k).2.2 = 0 then nI 0 else if mcA gt ln σ g k < 0 then nI 0 else nI 1
theorem mcB_0 (gt : Nat → Int32) (ln : Nat) (σ : MS) (g : Nat → Int32) : mcB gt ln σ g 0 = nI 1 := rfl
theorem mcB_p {gt : Nat → Int32} {ln : Nat} {σ : MS} {g : Nat → Int32} {k : Nat} (h : mRo gt ln (mcS gt ln σ k).1 (mcS gt ln σ k).2.2 = 0) : mcB gt ln σ g (k + 1) = nI 0 := by rw [mcB, if_pos h]
theorem mcB_a {gt : Nat → Int32} {ln : Nat} {σ : MS} {g : Nat → Int32} {k : Nat} (h : ¬ mRo gt ln (mcS gt ln σ k).1 (mcS gt ln σ k).2.2 = 0) (h2 : mcA gt ln σ g k < 0) : mcB gt ln σ g (k + 1) = nI 0 := by rw [mcB, if_neg h, if_pos h2]
theorem mcB_n {gt : Nat → Int32} {ln : Nat} {σ : MS} {g : Nat → Int32} {k : Nat} (h : ¬ mRo gt ln (mcS gt ln σ k).1 (mcS gt ln σ k).2.2 = 0) (h2 : ¬ mcA gt ln σ g k < 0) : mcB gt ln σ g (k + 1) = nI 1 := by rw [mcB, if_neg h, if_neg h2]
def mcM (gt : Nat → Int32) (ln : Nat) (σ : MS) (g : Nat → Int32) : Nat → Int32
  | 0 => nI 0
  | k + 1 => mcM gt ln σ g k + mcB gt ln σ g (k + 1)
theorem mcM_0 (gt : Nat → Int32) (ln : Nat) (σ : MS) (g : Nat → Int32) : mcM gt ln σ g 0 = nI 0 := rfl
theorem mcM_s (gt : Nat → Int32) (ln : Nat) (σ : MS) (g : Nat → Int32) (k : Nat) : mcM gt ln σ g (k + 1) = mcM gt ln σ g k + mcB gt ln σ g (k + 1) := rfl
theorem mcG_ok {gt : Nat → Int32} {ln : Nat} {σ : MS} {g : Nat → Int32} (h : g14 g) : ∀ k, g14 (mcG gt ln σ g k)
  | 0 => h
  | k + 1 => by
    rw [mcG]
    exact g14_ite (mcG_ok h k) (mDw_ok (mcG_ok h k) (mcG_ok h k).2.1 _ _)
def mcE (gt : Nat → Int32) (ln : Nat) (σ : MS) (g : Nat → Int32) (k : Nat) : Int32 := if mcB gt ln σ g k = 0 then 0 else if ln ≤ (mcS gt ln σ k).1 then 0 else 1
theorem mcE_a {gt : Nat → Int32} {ln : Nat} {σ : MS} {g : Nat → Int32} {k : Nat} (h : mcB gt ln σ g k = 0) : mcE gt ln σ g k = 0 := if_pos h
theorem mcE_b {gt : Nat → Int32} {ln : Nat} {σ : MS} {g : Nat → Int32} {k : Nat} (h : ¬ mcB gt ln σ g k = 0) (h2 : ln ≤ (mcS gt ln σ k).1) : mcE gt ln σ g k = 0 := by rw [mcE, if_neg h, if_pos h2]
theorem mcE_n {gt : Nat → Int32} {ln : Nat} {σ : MS} {g : Nat → Int32} {k : Nat} (h : ¬ mcB gt ln σ g k = 0) (h2 : ¬ ln ≤ (mcS gt ln σ k).1) : ¬ mcE gt ln σ g k = 0 := by rw [mcE, if_neg h, if_neg h2]; decide
theorem mcS_up {gt : Nat → Int32} {ln : Nat} {σ : MS} {g : Nat → Int32} {k : Nat} (hk : k ≤ (mcS gt ln σ k).1) (h : ¬ mcB gt ln σ g (k + 1) = 0) : k + 1 ≤ (mcS gt ln σ (k + 1)).1 := by
  by_cases c : mRo gt ln (mcS gt ln σ k).1 (mcS gt ln σ k).2.2 = 0
  · rw [mcB_p c] at h; exact absurd nI_0 h
  · rw [mcS1]
    have := mRo_lt c
    omega
def mcN (gt : Nat → Int32) (ln : Nat) (σ : MS) (g : Nat → Int32) : Nat := ffz (mcE gt ln σ g) 82
theorem mcN_at {gt : Nat → Int32} {ln : Nat} {σ : MS} {g : Nat → Int32} {k : Nat} (hall : ∀ j, j < k → ¬ mcE gt ln σ g j = 0) (h : mcE gt ln σ g k = 0) (hk : k < 82) : mcN gt ln σ g = k := ffz_at hall h hk
/-- where the carrying out begins -/
def mC0 (gt : Nat → Int32) (ln : Nat) (sg : Int32) (gu : Nat → Int32) : MS := (0, (mFS gt ln (0, sg, gu)).2)
theorem mC0_1 (gt : Nat → Int32) (ln : Nat) (sg : Int32) (gu : Nat → Int32) : (mC0 gt ln sg gu).1 = 0 := rfl
theorem mC0_2 (gt : Nat → Int32) (ln : Nat) (sg : Int32) (gu : Nat → Int32) : (mC0 gt ln sg gu).2 = (mFS gt ln (0, sg, gu)).2 := rfl
def crmV (gt : Nat → Int32) (ln : Nat) (sg : Int32) (gu g : Nat → Int32) : Int32 := if mFV gt ln (0, sg, gu) = -6 then mcM gt ln (mC0 gt ln sg gu) g (mcN gt ln (mC0 gt ln sg gu) g) else -3
def crmG (gt : Nat → Int32) (ln : Nat) (sg : Int32) (gu g : Nat → Int32) : Nat → Int32 := if mFV gt ln (0, sg, gu) = -6 then mcG gt ln (mC0 gt ln sg gu) g (mcN gt ln (mC0 gt ln sg gu) g) else g
def crmS (gt : Nat → Int32) (ln : Nat) (sg : Int32) (gu g : Nat → Int32) : MS := if mFV gt ln (0, sg, gu) = -6 then mcS gt ln (mC0 gt ln sg gu) (mcN gt ln (mC0 gt ln sg gu) g) else mFS gt ln (0, sg, gu)
def crmL (gt : Nat → Int32) (ln : Nat) (sg : Int32) (gu : Nat → Int32) : Nat := if mFV gt ln (0, sg, gu) = -6 then 0 else ln
def crmN (gt : Nat → Int32) (ln : Nat) (sg : Int32) (gu : Nat → Int32) (sn : Nat) : Nat := if mFV gt ln (0, sg, gu) = -6 then puN sn else sn
def crmP (gt : Nat → Int32) (ln : Nat) (sg : Int32) (gu g gp : Nat → Int32) : Nat → Int32 := if mFV gt ln (0, sg, gu) = -6 then va_cpy g gp 0 0 293 else gp
def crmH (gt : Nat → Int32) (ln : Nat) (sg : Int32) (gu g gp gh : Nat → Int32) (sn : Nat) : Nat → Int32 := if mFV gt ln (0, sg, gu) = -6 then puH sn (va_cpy g gp 0 0 293) gh else gh
theorem crm_p {gt : Nat → Int32} {ln : Nat} {sg : Int32} {gu g : Nat → Int32} {k : Nat} (gp gh : Nat → Int32) (sn : Nat) (h : mFV gt ln (0, sg, gu) = -6) (hN : mcN gt ln (mC0 gt ln sg gu) g = k) : crmV gt ln sg gu g = mcM gt ln (mC0 gt ln sg gu) g k ∧ crmG gt ln sg gu g = mcG gt ln (mC0 gt ln sg gu) g k ∧ crmS gt ln sg gu g = mcS gt ln (mC0 gt ln sg gu) k ∧ crmL gt ln sg gu = 0 ∧ crmN gt ln sg gu sn = puN sn ∧ crmP gt ln sg gu g gp = va_cpy g gp 0 0 293 ∧ crmH gt ln sg gu g gp gh sn = puH sn (va_cpy g gp 0 0 293) gh := by
  subst hN
  exact ⟨if_pos h, if_pos h, if_pos h, if_pos h, if_pos h, if_pos h, if_pos h⟩
theorem crm_n {gt : Nat → Int32} {ln : Nat} {sg : Int32} {gu g : Nat → Int32} (gp gh : Nat → Int32) (sn : Nat) (h : ¬ mFV gt ln (0, sg, gu) = -6) : crmV gt ln sg gu g = -3 ∧ crmG gt ln sg gu g = g ∧ crmS gt ln sg gu g = mFS gt ln (0, sg, gu) ∧ crmL gt ln sg gu = ln ∧ crmN gt ln sg gu sn = sn ∧ crmP gt ln sg gu g gp = gp ∧ crmH gt ln sg gu g gp gh sn = gh := ⟨if_neg h, if_neg h, if_neg h, if_neg h, if_neg h, if_neg h, if_neg h⟩

theorem cd_X8_carryOut : cdV RX8 yX8_carryOut cX8_carryOut 3 (some .int) 0 := ⟨⟨bw_1082, bw_65, by decide, by decide, by decide +kernel⟩, bw_1080, bw_1081⟩
set_option maxHeartbeats 4000000 in
set_option maxRecDepth 100000 in
theorem c_X8_carryOut (l : Launch) (E : EV) (xo : Nat) (st : Nat) (sp : Nat) (th : Nat) (so : Nat) (sv : Nat) (pd : Nat) (nu : Nat) (sn : Nat) (ln : Nat) (ta : Nat) (sg : Int32) (g : Nat → Int32) (gp : Nat → Int32) (gh : Nat → Int32) (gt : Nat → Int32) (gu : Nat → Int32) (n : Nat) (hf : g 4 = nI n) (hn : n ≤ 20) (hst : ¬ g 0 = 0) (hsn : sn ≤ 6) (hln : ln ≤ 80) : rcI l E yX8_carryOut cX8_carryOut 3 .int 7 [.ref xo] [(xo, .inr (5, [.ref st, .ref sp, .ref th, .int (nI sn), .ref so, .ref sv, .ref pd, .int (nI ln), .int (nI ta), .int sg, .ref nu])), (st, .inl (E.2.1, 293, .inl g)), (sp, .inl (E.2.1, 293, .inl gp)), (th, .inl (E.2.1, 1758, .inl gh)), (pd, .inl (E.2.1, 80, .inl gt)), (nu, .inl (E.2.1, 4, .inl gu))] (crmV gt ln sg gu g) [(xo, .inr (5, [.ref st, .ref sp, .ref th, .int (nI (crmN gt ln sg gu sn)), .ref so, .ref sv, .ref pd, .int (nI (crmL gt ln sg gu)), .int (nI ((crmS gt ln sg gu g).1)), .int ((crmS gt ln sg gu g).2.1), .ref nu])), (st, .inl (E.2.1, 293, .inl (crmG gt ln sg gu g))), (sp, .inl (E.2.1, 293, .inl (crmP gt ln sg gu g gp))), (th, .inl (E.2.1, 1758, .inl (crmH gt ln sg gu g gp gh sn))), (pd, .inl (E.2.1, 80, .inl gt)), (nu, .inl (E.2.1, 4, .inl ((crmS gt ln sg gu g).2.2)))] := by
  refine rcI_of (by decide) (Nat.le_of_ble_eq_true rfl) ?_
  intro pg e s m below meth c Q A ls S hP hD0 hE hA hl hret
  have hx := S.1
  have hb := S.2.1
  have hown := S.2.2.2.1
  have hts := S.2.2.2.2
  have hK := hE.1
  have hS : va_S A s.heap s.heap [] := va_S.rf
  have hDa : va_Da A [xo, st, sp, th, pd, nu] := ⟨_, hD0, rfl⟩
  have hl : lv_has ls 3 [(0, .ref xo)] := hl
  have hg : g14 g := g14_of hf hn hst
  refine lv_aload_n hx hb dX8_carryOut_0 rfl (lv_at hl 0 rfl) ?_
  refine rwV0 (rest := []) S (c_X8_findFault l E xo st sp th so sv pd nu sn ln ta sg gt gu hln) cd_X8_findFault bw_1051 ⟨Nat.le_of_ble_eq_true rfl, Nat.le_of_ble_eq_true rfl⟩ ⟨Nat.zero_le _, Nat.zero_le _⟩ hP (hDa.to rfl) hE hA hS [0, 4, 5] rfl rfl [xo, pd, nu] rfl rfl (ci := 5) rfl (q0 := 0) rfl (Nat.le_of_ble_eq_true rfl) hl.1 dX8_carryOut_1 (fun H locs hP _ hS => ?_)
  have hP : va_P E.1 vwCl [(xo, .inr (5, [.ref st, .ref sp, .ref th, .int (nI sn), .ref so, .ref sv, .ref pd, .int (nI ln), .int (nI ((mFS gt ln (0, sg, gu)).1)), .int ((mFS gt ln (0, sg, gu)).2.1), .ref nu])), (st, .inl (E.2.1, 293, .inl g)), (sp, .inl (E.2.1, 293, .inl gp)), (th, .inl (E.2.1, 1758, .inl gh)), (pd, .inl (E.2.1, 80, .inl gt)), (nu, .inl (E.2.1, 4, .inl ((mFS gt ln (0, sg, gu)).2.2)))] H := hP
  refine lv_bipush (v := (-6)) hx hb dX8_carryOut_4 (by decide) ?_
  refine lv_icmp_eq (tgt := 12) hx hb dX8_carryOut_6 (by decide) (fun c_1 => ?_) (fun c_1 => ?_)
  · refine lv_aload_n hx hb dX8_carryOut_12 rfl (lv_at hl 0 rfl) ?_
    refine rwVv0 (rest := []) S (c_X8_putAside l E xo st sp th so sv pd nu sn ln ((mFS gt ln (0, sg, gu)).1) ((mFS gt ln (0, sg, gu)).2.1) g gp) cd_X8_putAside bw_762 ⟨Nat.le_of_ble_eq_true rfl, Nat.le_of_ble_eq_true rfl⟩ ⟨Nat.zero_le _, Nat.zero_le _⟩ hP (hDa.to rfl) hE hA hS [0, 1, 2] rfl rfl [xo, st, sp] rfl rfl (ci := 5) rfl (q0 := 0) rfl (Nat.le_of_ble_eq_true rfl) hl.1 dX8_carryOut_13 (fun H locs hP _ hS => ?_)
    have hP : va_P E.1 vwCl [(xo, .inr (5, [.ref st, .ref sp, .ref th, .int (nI sn), .ref so, .ref sv, .ref pd, .int (nI ln), .int (nI ((mFS gt ln (0, sg, gu)).1)), .int ((mFS gt ln (0, sg, gu)).2.1), .ref nu])), (st, .inl (E.2.1, 293, .inl g)), (sp, .inl (E.2.1, 293, .inl (va_cpy g gp 0 0 293))), (th, .inl (E.2.1, 1758, .inl gh)), (pd, .inl (E.2.1, 80, .inl gt)), (nu, .inl (E.2.1, 4, .inl ((mFS gt ln (0, sg, gu)).2.2)))] H := hP
    refine lv_aload_n hx hb dX8_carryOut_16 rfl (lv_at hl 0 rfl) ?_
    refine rwVv0 (rest := []) S (c_X8_push l E xo st sp th so sv pd nu sn ln ((mFS gt ln (0, sg, gu)).1) ((mFS gt ln (0, sg, gu)).2.1) (va_cpy g gp 0 0 293) gh hsn) cd_X8_push bw_766 ⟨Nat.le_of_ble_eq_true rfl, Nat.le_of_ble_eq_true rfl⟩ ⟨Nat.zero_le _, Nat.zero_le _⟩ hP (hDa.to rfl) hE hA hS [0, 2, 3] rfl rfl [xo, sp, th] rfl rfl (ci := 5) rfl (q0 := 0) rfl (Nat.le_of_ble_eq_true rfl) hl.1 dX8_carryOut_17 (fun H locs hP _ hS => ?_)
    have hP : va_P E.1 vwCl [(xo, .inr (5, [.ref st, .ref sp, .ref th, .int (nI (puN sn)), .ref so, .ref sv, .ref pd, .int (nI ln), .int (nI ((mFS gt ln (0, sg, gu)).1)), .int ((mFS gt ln (0, sg, gu)).2.1), .ref nu])), (st, .inl (E.2.1, 293, .inl g)), (sp, .inl (E.2.1, 293, .inl (va_cpy g gp 0 0 293))), (th, .inl (E.2.1, 1758, .inl (puH sn (va_cpy g gp 0 0 293) gh))), (pd, .inl (E.2.1, 80, .inl gt)), (nu, .inl (E.2.1, 4, .inl ((mFS gt ln (0, sg, gu)).2.2)))] H := hP
    refine lv_aload_n hx hb dX8_carryOut_20 rfl (lv_at hl 0 rfl) ?_
    refine lv_iconst (v := nI 0) hx hb dX8_carryOut_21 (by decide) ?_
    refine va_put (D := E.1) (ci := 5) (v := .int (nI 0)) (ty := .int) (C := RX8) (T := TX8) (N := 11) hx hb hts inb_X8 tyX8 tyX8_ok nmX8 hown hK hP (hDa.to rfl) hS 0 rfl rfl 8 (by decide) (hts _ bw_718) (fun _ h9 => h9) rfl (by decide +kernel) rfl rfl (Nat.le_of_ble_eq_true rfl) dX8_carryOut_22 (fun H locs hP _ hS => ?_)
    have hP : va_P E.1 vwCl [(xo, .inr (5, [.ref st, .ref sp, .ref th, .int (nI (puN sn)), .ref so, .ref sv, .ref pd, .int (nI ln), .int (nI 0), .int ((mFS gt ln (0, sg, gu)).2.1), .ref nu])), (st, .inl (E.2.1, 293, .inl g)), (sp, .inl (E.2.1, 293, .inl (va_cpy g gp 0 0 293))), (th, .inl (E.2.1, 1758, .inl (puH sn (va_cpy g gp 0 0 293) gh))), (pd, .inl (E.2.1, 80, .inl gt)), (nu, .inl (E.2.1, 4, .inl ((mFS gt ln (0, sg, gu)).2.2)))] H := hP
    refine lv_iconst (v := nI 0) hx hb dX8_carryOut_25 (by decide) ?_
    refine lv_istore_n (lv' := [(1, .int (nI 0)), (0, .ref xo)]) hx hb dX8_carryOut_26 rfl hl (by decide) rfl (fun ls hl => ?_)
    refine lv_iconst (v := nI 1) hx hb dX8_carryOut_27 (by decide) ?_
    refine lv_istore_n (lv' := [(2, .int (nI 1)), (1, .int (nI 0)), (0, .ref xo)]) hx hb dX8_carryOut_28 rfl hl (by decide) rfl (fun ls hl => ?_)
    have loop29 : ∀ (fuel : Nat) (k : Nat), 82 - k < fuel → (¬ mcB gt ln (mC0 gt ln sg gu) g k = 0 → k ≤ (mcS gt ln (mC0 gt ln sg gu) k).1) → (k ≤ 81) → ((mcS gt ln (mC0 gt ln sg gu) k).1 ≤ ln + 1) → (∀ j, j < k → ¬ mcE gt ln (mC0 gt ln sg gu) g j = 0) → ∀ (H : Heap) (locs : List Loc), va_P E.1 vwCl [(xo, .inr (5, [.ref st, .ref sp, .ref th, .int (nI (puN sn)), .ref so, .ref sv, .ref pd, .int (nI ln), .int (nI ((mcS gt ln (mC0 gt ln sg gu) k).1)), .int ((mcS gt ln (mC0 gt ln sg gu) k).2.1), .ref nu])), (st, .inl (E.2.1, 293, .inl (mcG gt ln (mC0 gt ln sg gu) g k))), (sp, .inl (E.2.1, 293, .inl (va_cpy g gp 0 0 293))), (th, .inl (E.2.1, 1758, .inl (puH sn (va_cpy g gp 0 0 293) gh))), (pd, .inl (E.2.1, 80, .inl gt)), (nu, .inl (E.2.1, 4, .inl ((mcS gt ln (mC0 gt ln sg gu) k).2.2)))] H → va_S A s.heap H locs → ∀ ls : Array Slot, lv_has ls 3 [(2, .int (mcB gt ln (mC0 gt ln sg gu) g k)), (1, .int (mcM gt ln (mC0 gt ln sg gu) g k)), (0, .ref xo)] → W pg l e (rq 7) s m ([.ref xo] : List Value).toArray below meth c H locs 0 0 Q (F0 m 29 ls []) := by
      intro fuel
      induction fuel with
      | zero => intro k h9; exact absurd h9 (Nat.not_lt_zero _)
      | succ fuel ih29 =>
        intro k hfu29 hk hk2 hS9 hall H locs hP hS ls hl
        refine lv_iload_n hx hb dX8_carryOut_29 rfl (lv_at hl 0 rfl) ?_
        refine lv_if_eq (tgt := 89) hx hb dX8_carryOut_30 (by decide) (fun c_2 => ?_) (fun c_2 => ?_)
        · have hN9 : mcN gt ln (mC0 gt ln sg gu) g = k := by first | exact mcN_at hall (mcE_a c_2) (by omega) | exact mcN_at hall (mcE_b c_1 c_2) (by omega)
          obtain ⟨e1, e2, e3, e4, e5, e6, e7⟩ := crm_p gp gh sn c_1 hN9
          refine lv_aload_n hx hb dX8_carryOut_89 rfl (lv_at hl 2 rfl) ?_
          refine lv_iconst (v := nI 0) hx hb dX8_carryOut_90 (by decide) ?_
          refine va_put (D := E.1) (ci := 5) (v := .int (nI 0)) (ty := .int) (C := RX8) (T := TX8) (N := 11) hx hb hts inb_X8 tyX8 tyX8_ok nmX8 hown hK hP (hDa.to rfl) hS 0 rfl rfl 7 (by decide) (hts _ bw_717) (fun _ h9 => h9) rfl (by decide +kernel) rfl rfl (Nat.le_of_ble_eq_true rfl) dX8_carryOut_91 (fun H locs hP _ hS => ?_)
          have hP : va_P E.1 vwCl [(xo, .inr (5, [.ref st, .ref sp, .ref th, .int (nI (puN sn)), .ref so, .ref sv, .ref pd, .int (nI 0), .int (nI ((mcS gt ln (mC0 gt ln sg gu) k).1)), .int ((mcS gt ln (mC0 gt ln sg gu) k).2.1), .ref nu])), (st, .inl (E.2.1, 293, .inl (mcG gt ln (mC0 gt ln sg gu) g k))), (sp, .inl (E.2.1, 293, .inl (va_cpy g gp 0 0 293))), (th, .inl (E.2.1, 1758, .inl (puH sn (va_cpy g gp 0 0 293) gh))), (pd, .inl (E.2.1, 80, .inl gt)), (nu, .inl (E.2.1, 4, .inl ((mcS gt ln (mC0 gt ln sg gu) k).2.2)))] H := hP
          refine lv_iload_n hx hb dX8_carryOut_94 rfl (lv_at hl 1 rfl) ?_
          exact hret _ _ _ _ _ _ e1.symm (by rw [e2, e3, e4, e5, e6, e7]) rfl hP hS dX8_carryOut_95
        · have hk9 := hk c_2
          refine lv_aload_n hx hb dX8_carryOut_33 rfl (lv_at hl 2 rfl) ?_
          refine va_get (D := E.1) (ci := 5) (v := .int (nI ((mcS gt ln (mC0 gt ln sg gu) k).1))) (C := RX8) (T := TX8) (N := 11) hx hb hts inb_X8 hown hK hP 0 rfl rfl 8 (by decide) (hts _ bw_718) (fun _ h9 => h9) rfl dX8_carryOut_34 ?_
          refine lv_aload_n hx hb dX8_carryOut_37 rfl (lv_at hl 2 rfl) ?_
          refine va_get (D := E.1) (ci := 5) (v := .int (nI ln)) (C := RX8) (T := TX8) (N := 11) hx hb hts inb_X8 hown hK hP 0 rfl rfl 7 (by decide) (hts _ bw_717) (fun _ h9 => h9) rfl dX8_carryOut_38 ?_
          refine rn_icmp_ge (a := (mcS gt ln (mC0 gt ln sg gu) k).1) (b := ln) (tgt := 89) hx hb (by omega) (by omega) dX8_carryOut_41 (by decide) (fun c_3 => ?_) (fun c_3 => ?_)
          · have hN9 : mcN gt ln (mC0 gt ln sg gu) g = k := by first | exact mcN_at hall (mcE_a c_3) (by omega) | exact mcN_at hall (mcE_b c_2 c_3) (by omega)
            obtain ⟨e1, e2, e3, e4, e5, e6, e7⟩ := crm_p gp gh sn c_1 hN9
            refine lv_aload_n hx hb dX8_carryOut_89 rfl (lv_at hl 2 rfl) ?_
            refine lv_iconst (v := nI 0) hx hb dX8_carryOut_90 (by decide) ?_
            refine va_put (D := E.1) (ci := 5) (v := .int (nI 0)) (ty := .int) (C := RX8) (T := TX8) (N := 11) hx hb hts inb_X8 tyX8 tyX8_ok nmX8 hown hK hP (hDa.to rfl) hS 0 rfl rfl 7 (by decide) (hts _ bw_717) (fun _ h9 => h9) rfl (by decide +kernel) rfl rfl (Nat.le_of_ble_eq_true rfl) dX8_carryOut_91 (fun H locs hP _ hS => ?_)
            have hP : va_P E.1 vwCl [(xo, .inr (5, [.ref st, .ref sp, .ref th, .int (nI (puN sn)), .ref so, .ref sv, .ref pd, .int (nI 0), .int (nI ((mcS gt ln (mC0 gt ln sg gu) k).1)), .int ((mcS gt ln (mC0 gt ln sg gu) k).2.1), .ref nu])), (st, .inl (E.2.1, 293, .inl (mcG gt ln (mC0 gt ln sg gu) g k))), (sp, .inl (E.2.1, 293, .inl (va_cpy g gp 0 0 293))), (th, .inl (E.2.1, 1758, .inl (puH sn (va_cpy g gp 0 0 293) gh))), (pd, .inl (E.2.1, 80, .inl gt)), (nu, .inl (E.2.1, 4, .inl ((mcS gt ln (mC0 gt ln sg gu) k).2.2)))] H := hP
            refine lv_iload_n hx hb dX8_carryOut_94 rfl (lv_at hl 1 rfl) ?_
            exact hret _ _ _ _ _ _ e1.symm (by rw [e2, e3, e4, e5, e6, e7]) rfl hP hS dX8_carryOut_95
          · have he9 := mcE_n c_2 c_3
            refine lv_aload_n hx hb dX8_carryOut_44 rfl (lv_at hl 2 rfl) ?_
            refine rwV0 (rest := []) S (c_X8_readsOrder l E xo st sp th so sv pd nu (puN sn) ln ((mcS gt ln (mC0 gt ln sg gu) k).1) ((mcS gt ln (mC0 gt ln sg gu) k).2.1) gt ((mcS gt ln (mC0 gt ln sg gu) k).2.2) hln (by omega)) cd_X8_readsOrder bw_1055 ⟨Nat.le_of_ble_eq_true rfl, Nat.le_of_ble_eq_true rfl⟩ ⟨Nat.zero_le _, Nat.zero_le _⟩ hP (hDa.to rfl) hE hA hS [0, 4, 5] rfl rfl [xo, pd, nu] rfl rfl (ci := 5) rfl (q0 := 0) rfl (Nat.le_of_ble_eq_true rfl) hl.1 dX8_carryOut_45 (fun H locs hP _ hS => ?_)
            have hP : va_P E.1 vwCl [(xo, .inr (5, [.ref st, .ref sp, .ref th, .int (nI (puN sn)), .ref so, .ref sv, .ref pd, .int (nI ln), .int (nI (mRoA gt ln ((mcS gt ln (mC0 gt ln sg gu) k).1) ((mcS gt ln (mC0 gt ln sg gu) k).2.2))), .int (mRoS gt ln ((mcS gt ln (mC0 gt ln sg gu) k).1) ((mcS gt ln (mC0 gt ln sg gu) k).2.2)), .ref nu])), (st, .inl (E.2.1, 293, .inl (mcG gt ln (mC0 gt ln sg gu) g k))), (sp, .inl (E.2.1, 293, .inl (va_cpy g gp 0 0 293))), (th, .inl (E.2.1, 1758, .inl (puH sn (va_cpy g gp 0 0 293) gh))), (pd, .inl (E.2.1, 80, .inl gt)), (nu, .inl (E.2.1, 4, .inl (mRoU gt ln ((mcS gt ln (mC0 gt ln sg gu) k).1) ((mcS gt ln (mC0 gt ln sg gu) k).2.2))))] H := hP
            refine lv_if_eq (tgt := 62) hx hb dX8_carryOut_48 (by decide) (fun c_4 => ?_) (fun c_4 => ?_)
            · refine lv_iconst (v := nI 0) hx hb dX8_carryOut_62 (by decide) ?_
              refine lv_istore_n (lv' := [(2, .int (nI 0)), (1, .int (mcM gt ln (mC0 gt ln sg gu) g k)), (0, .ref xo)]) hx hb dX8_carryOut_63 rfl hl (by decide) rfl (fun ls hl => ?_)
              refine lv_iload_n hx hb dX8_carryOut_64 rfl (lv_at hl 1 rfl) ?_
              refine lv_iload_n hx hb dX8_carryOut_65 rfl (lv_at hl 0 rfl) ?_
              refine lv_if_eq (tgt := 73) hx hb dX8_carryOut_66 (by decide) (fun _ => ?_) (fun c9 => by first | exact absurd (by decide) c9 | exact absurd c9 (by decide))
              refine lv_iconst (v := nI 0) hx hb dX8_carryOut_73 (by decide) ?_
              refine lv_iadd hx hb dX8_carryOut_74 ?_
              refine lv_istore_n (lv' := [(1, .int (mcM gt ln (mC0 gt ln sg gu) g k + (nI 0))), (2, .int (nI 0)), (0, .ref xo)]) hx hb dX8_carryOut_75 rfl hl (by decide) rfl (fun ls hl => ?_)
              refine lv_aload_n hx hb dX8_carryOut_76 rfl (lv_at hl 2 rfl) ?_
              refine lv_dup hx hb dX8_carryOut_77 rfl ?_
              refine va_get (D := E.1) (ci := 5) (v := .int (nI (mRoA gt ln ((mcS gt ln (mC0 gt ln sg gu) k).1) ((mcS gt ln (mC0 gt ln sg gu) k).2.2)))) (C := RX8) (T := TX8) (N := 11) hx hb hts inb_X8 hown hK hP 0 rfl rfl 8 (by decide) (hts _ bw_718) (fun _ h9 => h9) rfl dX8_carryOut_78 ?_
              refine lv_iconst (v := nI 1) hx hb dX8_carryOut_81 (by decide) ?_
              refine rn_add (a := mRoA gt ln ((mcS gt ln (mC0 gt ln sg gu) k).1) ((mcS gt ln (mC0 gt ln sg gu) k).2.2)) (b := 1) hx hb dX8_carryOut_82 ?_
              refine va_put (D := E.1) (ci := 5) (v := .int (nI (mRoA gt ln ((mcS gt ln (mC0 gt ln sg gu) k).1) ((mcS gt ln (mC0 gt ln sg gu) k).2.2) + 1))) (ty := .int) (C := RX8) (T := TX8) (N := 11) hx hb hts inb_X8 tyX8 tyX8_ok nmX8 hown hK hP (hDa.to rfl) hS 0 rfl rfl 8 (by decide) (hts _ bw_718) (fun _ h9 => h9) rfl (by decide +kernel) rfl rfl (Nat.le_of_ble_eq_true rfl) dX8_carryOut_83 (fun H locs hP _ hS => ?_)
              have hP : va_P E.1 vwCl [(xo, .inr (5, [.ref st, .ref sp, .ref th, .int (nI (puN sn)), .ref so, .ref sv, .ref pd, .int (nI ln), .int (nI (mRoA gt ln ((mcS gt ln (mC0 gt ln sg gu) k).1) ((mcS gt ln (mC0 gt ln sg gu) k).2.2) + 1)), .int (mRoS gt ln ((mcS gt ln (mC0 gt ln sg gu) k).1) ((mcS gt ln (mC0 gt ln sg gu) k).2.2)), .ref nu])), (st, .inl (E.2.1, 293, .inl (mcG gt ln (mC0 gt ln sg gu) g k))), (sp, .inl (E.2.1, 293, .inl (va_cpy g gp 0 0 293))), (th, .inl (E.2.1, 1758, .inl (puH sn (va_cpy g gp 0 0 293) gh))), (pd, .inl (E.2.1, 80, .inl gt)), (nu, .inl (E.2.1, 4, .inl (mRoU gt ln ((mcS gt ln (mC0 gt ln sg gu) k).1) ((mcS gt ln (mC0 gt ln sg gu) k).2.2))))] H := hP
              refine lv_goto (tgt := 29) hx hb dX8_carryOut_86 (by decide) ?_
              have hP : va_P E.1 vwCl [(xo, .inr (5, [.ref st, .ref sp, .ref th, .int (nI (puN sn)), .ref so, .ref sv, .ref pd, .int (nI ln), .int (nI ((mcS gt ln (mC0 gt ln sg gu) (k + 1)).1)), .int ((mcS gt ln (mC0 gt ln sg gu) (k + 1)).2.1), .ref nu])), (st, .inl (E.2.1, 293, .inl (mcG gt ln (mC0 gt ln sg gu) g (k + 1)))), (sp, .inl (E.2.1, 293, .inl (va_cpy g gp 0 0 293))), (th, .inl (E.2.1, 1758, .inl (puH sn (va_cpy g gp 0 0 293) gh))), (pd, .inl (E.2.1, 80, .inl gt)), (nu, .inl (E.2.1, 4, .inl ((mcS gt ln (mC0 gt ln sg gu) (k + 1)).2.2)))] H := by first | (rw [mcG_p c_4, mcS1, mcS2, mcS3]; exact hP) | (rw [mcG_n c_3, mcS1, mcS2, mcS3]; exact hP)
              have hl : lv_has ls 3 [(2, .int (nI 0)), (1, .int (mcM gt ln (mC0 gt ln sg gu) g k + (nI 0))), (0, .ref xo)] := lv_sub hl [1, 0, 2] rfl
              have hl : lv_has ls 3 [(2, .int (mcB gt ln (mC0 gt ln sg gu) g (k + 1))), (1, .int (mcM gt ln (mC0 gt ln sg gu) g (k + 1))), (0, .ref xo)] := by first | (rw [mcM_s, mcB_p c_4]; exact hl) | (rw [mcM_s, mcB_a c_3 c_4]; exact hl) | (rw [mcM_s, mcB_n c_3 c_4]; exact hl)
              exact ih29 (k + 1) (by omega) (fun h9 => mcS_up hk9 h9) (by omega) (by rw [mcS1]; exact Nat.succ_le_succ (mRoA_le (by omega))) (lt_s hall he9) _ _ hP hS _ hl
            · refine lv_aload_n hx hb dX8_carryOut_51 rfl (lv_at hl 2 rfl) ?_
              refine rwV0 (rest := []) S (c_X8_doesOrder l E xo st sp th so sv pd nu (puN sn) ln (mRoA gt ln ((mcS gt ln (mC0 gt ln sg gu) k).1) ((mcS gt ln (mC0 gt ln sg gu) k).2.2)) (mRoS gt ln ((mcS gt ln (mC0 gt ln sg gu) k).1) ((mcS gt ln (mC0 gt ln sg gu) k).2.2)) (mcG gt ln (mC0 gt ln sg gu) g k) (mRoU gt ln ((mcS gt ln (mC0 gt ln sg gu) k).1) ((mcS gt ln (mC0 gt ln sg gu) k).2.2)) (ix (mcG gt ln (mC0 gt ln sg gu) g k 4)) (mcG_ok hg k).1 (mcG_ok hg k).2.1 (mcG_ok hg k).2.2) cd_X8_doesOrder bw_1083 ⟨Nat.le_of_ble_eq_true rfl, Nat.le_of_ble_eq_true rfl⟩ ⟨Nat.zero_le _, Nat.zero_le _⟩ hP (hDa.to rfl) hE hA hS [0, 1, 5] rfl rfl [xo, st, nu] rfl rfl (ci := 5) rfl (q0 := 0) rfl (Nat.le_of_ble_eq_true rfl) hl.1 dX8_carryOut_52 (fun H locs hP _ hS => ?_)
              have hP : va_P E.1 vwCl [(xo, .inr (5, [.ref st, .ref sp, .ref th, .int (nI (puN sn)), .ref so, .ref sv, .ref pd, .int (nI ln), .int (nI (mRoA gt ln ((mcS gt ln (mC0 gt ln sg gu) k).1) ((mcS gt ln (mC0 gt ln sg gu) k).2.2))), .int (mRoS gt ln ((mcS gt ln (mC0 gt ln sg gu) k).1) ((mcS gt ln (mC0 gt ln sg gu) k).2.2)), .ref nu])), (st, .inl (E.2.1, 293, .inl (mDw (mcG gt ln (mC0 gt ln sg gu) g k) (ix (mcG gt ln (mC0 gt ln sg gu) g k 4)) (mRoS gt ln ((mcS gt ln (mC0 gt ln sg gu) k).1) ((mcS gt ln (mC0 gt ln sg gu) k).2.2)) (mRoU gt ln ((mcS gt ln (mC0 gt ln sg gu) k).1) ((mcS gt ln (mC0 gt ln sg gu) k).2.2))))), (sp, .inl (E.2.1, 293, .inl (va_cpy g gp 0 0 293))), (th, .inl (E.2.1, 1758, .inl (puH sn (va_cpy g gp 0 0 293) gh))), (pd, .inl (E.2.1, 80, .inl gt)), (nu, .inl (E.2.1, 4, .inl (mRoU gt ln ((mcS gt ln (mC0 gt ln sg gu) k).1) ((mcS gt ln (mC0 gt ln sg gu) k).2.2))))] H := hP
              refine lv_if_lt (tgt := 62) hx hb dX8_carryOut_55 (by decide) (fun c_5 => ?_) (fun c_5 => ?_)
              · refine lv_iconst (v := nI 0) hx hb dX8_carryOut_62 (by decide) ?_
                refine lv_istore_n (lv' := [(2, .int (nI 0)), (1, .int (mcM gt ln (mC0 gt ln sg gu) g k)), (0, .ref xo)]) hx hb dX8_carryOut_63 rfl hl (by decide) rfl (fun ls hl => ?_)
                refine lv_iload_n hx hb dX8_carryOut_64 rfl (lv_at hl 1 rfl) ?_
                refine lv_iload_n hx hb dX8_carryOut_65 rfl (lv_at hl 0 rfl) ?_
                refine lv_if_eq (tgt := 73) hx hb dX8_carryOut_66 (by decide) (fun _ => ?_) (fun c9 => by first | exact absurd (by decide) c9 | exact absurd c9 (by decide))
                refine lv_iconst (v := nI 0) hx hb dX8_carryOut_73 (by decide) ?_
                refine lv_iadd hx hb dX8_carryOut_74 ?_
                refine lv_istore_n (lv' := [(1, .int (mcM gt ln (mC0 gt ln sg gu) g k + (nI 0))), (2, .int (nI 0)), (0, .ref xo)]) hx hb dX8_carryOut_75 rfl hl (by decide) rfl (fun ls hl => ?_)
                refine lv_aload_n hx hb dX8_carryOut_76 rfl (lv_at hl 2 rfl) ?_
                refine lv_dup hx hb dX8_carryOut_77 rfl ?_
                refine va_get (D := E.1) (ci := 5) (v := .int (nI (mRoA gt ln ((mcS gt ln (mC0 gt ln sg gu) k).1) ((mcS gt ln (mC0 gt ln sg gu) k).2.2)))) (C := RX8) (T := TX8) (N := 11) hx hb hts inb_X8 hown hK hP 0 rfl rfl 8 (by decide) (hts _ bw_718) (fun _ h9 => h9) rfl dX8_carryOut_78 ?_
                refine lv_iconst (v := nI 1) hx hb dX8_carryOut_81 (by decide) ?_
                refine rn_add (a := (mRoA gt ln ((mcS gt ln (mC0 gt ln sg gu) k).1) ((mcS gt ln (mC0 gt ln sg gu) k).2.2))) (b := 1) hx hb dX8_carryOut_82 ?_
                refine va_put (D := E.1) (ci := 5) (v := .int (nI ((mRoA gt ln ((mcS gt ln (mC0 gt ln sg gu) k).1) ((mcS gt ln (mC0 gt ln sg gu) k).2.2)) + 1))) (ty := .int) (C := RX8) (T := TX8) (N := 11) hx hb hts inb_X8 tyX8 tyX8_ok nmX8 hown hK hP (hDa.to rfl) hS 0 rfl rfl 8 (by decide) (hts _ bw_718) (fun _ h9 => h9) rfl (by decide +kernel) rfl rfl (Nat.le_of_ble_eq_true rfl) dX8_carryOut_83 (fun H locs hP _ hS => ?_)
                have hP : va_P E.1 vwCl [(xo, .inr (5, [.ref st, .ref sp, .ref th, .int (nI (puN sn)), .ref so, .ref sv, .ref pd, .int (nI ln), .int (nI ((mRoA gt ln ((mcS gt ln (mC0 gt ln sg gu) k).1) ((mcS gt ln (mC0 gt ln sg gu) k).2.2)) + 1)), .int (mRoS gt ln ((mcS gt ln (mC0 gt ln sg gu) k).1) ((mcS gt ln (mC0 gt ln sg gu) k).2.2)), .ref nu])), (st, .inl (E.2.1, 293, .inl (mDw (mcG gt ln (mC0 gt ln sg gu) g k) (ix (mcG gt ln (mC0 gt ln sg gu) g k 4)) (mRoS gt ln ((mcS gt ln (mC0 gt ln sg gu) k).1) ((mcS gt ln (mC0 gt ln sg gu) k).2.2)) (mRoU gt ln ((mcS gt ln (mC0 gt ln sg gu) k).1) ((mcS gt ln (mC0 gt ln sg gu) k).2.2))))), (sp, .inl (E.2.1, 293, .inl (va_cpy g gp 0 0 293))), (th, .inl (E.2.1, 1758, .inl (puH sn (va_cpy g gp 0 0 293) gh))), (pd, .inl (E.2.1, 80, .inl gt)), (nu, .inl (E.2.1, 4, .inl (mRoU gt ln ((mcS gt ln (mC0 gt ln sg gu) k).1) ((mcS gt ln (mC0 gt ln sg gu) k).2.2))))] H := hP
                refine lv_goto (tgt := 29) hx hb dX8_carryOut_86 (by decide) ?_
                have hP : va_P E.1 vwCl [(xo, .inr (5, [.ref st, .ref sp, .ref th, .int (nI (puN sn)), .ref so, .ref sv, .ref pd, .int (nI ln), .int (nI ((mcS gt ln (mC0 gt ln sg gu) (k + 1)).1)), .int ((mcS gt ln (mC0 gt ln sg gu) (k + 1)).2.1), .ref nu])), (st, .inl (E.2.1, 293, .inl (mcG gt ln (mC0 gt ln sg gu) g (k + 1)))), (sp, .inl (E.2.1, 293, .inl (va_cpy g gp 0 0 293))), (th, .inl (E.2.1, 1758, .inl (puH sn (va_cpy g gp 0 0 293) gh))), (pd, .inl (E.2.1, 80, .inl gt)), (nu, .inl (E.2.1, 4, .inl ((mcS gt ln (mC0 gt ln sg gu) (k + 1)).2.2)))] H := by first | (rw [mcG_p c_5, mcS1, mcS2, mcS3]; exact hP) | (rw [mcG_n c_4, mcS1, mcS2, mcS3]; exact hP)
                have hl : lv_has ls 3 [(2, .int (nI 0)), (1, .int (mcM gt ln (mC0 gt ln sg gu) g k + (nI 0))), (0, .ref xo)] := lv_sub hl [1, 0, 2] rfl
                have hl : lv_has ls 3 [(2, .int (mcB gt ln (mC0 gt ln sg gu) g (k + 1))), (1, .int (mcM gt ln (mC0 gt ln sg gu) g (k + 1))), (0, .ref xo)] := by first | (rw [mcM_s, mcB_p c_5]; exact hl) | (rw [mcM_s, mcB_a c_4 c_5]; exact hl) | (rw [mcM_s, mcB_n c_4 c_5]; exact hl)
                exact ih29 (k + 1) (by omega) (fun h9 => mcS_up hk9 h9) (by omega) (by rw [mcS1]; exact Nat.succ_le_succ (mRoA_le (by omega))) (lt_s hall he9) _ _ hP hS _ hl
              · refine lv_iconst (v := nI 1) hx hb dX8_carryOut_58 (by decide) ?_
                refine lv_goto (tgt := 63) hx hb dX8_carryOut_59 (by decide) ?_
                refine lv_istore_n (lv' := [(2, .int (nI 1)), (1, .int (mcM gt ln (mC0 gt ln sg gu) g k)), (0, .ref xo)]) hx hb dX8_carryOut_63 rfl hl (by decide) rfl (fun ls hl => ?_)
                refine lv_iload_n hx hb dX8_carryOut_64 rfl (lv_at hl 1 rfl) ?_
                refine lv_iload_n hx hb dX8_carryOut_65 rfl (lv_at hl 0 rfl) ?_
                refine lv_if_eq (tgt := 73) hx hb dX8_carryOut_66 (by decide) (fun c9 => by first | exact absurd c9 (by decide) | exact absurd (by decide) c9) (fun _ => ?_)
                refine lv_iconst (v := nI 1) hx hb dX8_carryOut_69 (by decide) ?_
                refine lv_goto (tgt := 74) hx hb dX8_carryOut_70 (by decide) ?_
                refine lv_iadd hx hb dX8_carryOut_74 ?_
                refine lv_istore_n (lv' := [(1, .int (mcM gt ln (mC0 gt ln sg gu) g k + (nI 1))), (2, .int (nI 1)), (0, .ref xo)]) hx hb dX8_carryOut_75 rfl hl (by decide) rfl (fun ls hl => ?_)
                refine lv_aload_n hx hb dX8_carryOut_76 rfl (lv_at hl 2 rfl) ?_
                refine lv_dup hx hb dX8_carryOut_77 rfl ?_
                refine va_get (D := E.1) (ci := 5) (v := .int (nI (mRoA gt ln ((mcS gt ln (mC0 gt ln sg gu) k).1) ((mcS gt ln (mC0 gt ln sg gu) k).2.2)))) (C := RX8) (T := TX8) (N := 11) hx hb hts inb_X8 hown hK hP 0 rfl rfl 8 (by decide) (hts _ bw_718) (fun _ h9 => h9) rfl dX8_carryOut_78 ?_
                refine lv_iconst (v := nI 1) hx hb dX8_carryOut_81 (by decide) ?_
                refine rn_add (a := (mRoA gt ln ((mcS gt ln (mC0 gt ln sg gu) k).1) ((mcS gt ln (mC0 gt ln sg gu) k).2.2))) (b := 1) hx hb dX8_carryOut_82 ?_
                refine va_put (D := E.1) (ci := 5) (v := .int (nI ((mRoA gt ln ((mcS gt ln (mC0 gt ln sg gu) k).1) ((mcS gt ln (mC0 gt ln sg gu) k).2.2)) + 1))) (ty := .int) (C := RX8) (T := TX8) (N := 11) hx hb hts inb_X8 tyX8 tyX8_ok nmX8 hown hK hP (hDa.to rfl) hS 0 rfl rfl 8 (by decide) (hts _ bw_718) (fun _ h9 => h9) rfl (by decide +kernel) rfl rfl (Nat.le_of_ble_eq_true rfl) dX8_carryOut_83 (fun H locs hP _ hS => ?_)
                have hP : va_P E.1 vwCl [(xo, .inr (5, [.ref st, .ref sp, .ref th, .int (nI (puN sn)), .ref so, .ref sv, .ref pd, .int (nI ln), .int (nI ((mRoA gt ln ((mcS gt ln (mC0 gt ln sg gu) k).1) ((mcS gt ln (mC0 gt ln sg gu) k).2.2)) + 1)), .int (mRoS gt ln ((mcS gt ln (mC0 gt ln sg gu) k).1) ((mcS gt ln (mC0 gt ln sg gu) k).2.2)), .ref nu])), (st, .inl (E.2.1, 293, .inl (mDw (mcG gt ln (mC0 gt ln sg gu) g k) (ix (mcG gt ln (mC0 gt ln sg gu) g k 4)) (mRoS gt ln ((mcS gt ln (mC0 gt ln sg gu) k).1) ((mcS gt ln (mC0 gt ln sg gu) k).2.2)) (mRoU gt ln ((mcS gt ln (mC0 gt ln sg gu) k).1) ((mcS gt ln (mC0 gt ln sg gu) k).2.2))))), (sp, .inl (E.2.1, 293, .inl (va_cpy g gp 0 0 293))), (th, .inl (E.2.1, 1758, .inl (puH sn (va_cpy g gp 0 0 293) gh))), (pd, .inl (E.2.1, 80, .inl gt)), (nu, .inl (E.2.1, 4, .inl (mRoU gt ln ((mcS gt ln (mC0 gt ln sg gu) k).1) ((mcS gt ln (mC0 gt ln sg gu) k).2.2))))] H := hP
                refine lv_goto (tgt := 29) hx hb dX8_carryOut_86 (by decide) ?_
                have hP : va_P E.1 vwCl [(xo, .inr (5, [.ref st, .ref sp, .ref th, .int (nI (puN sn)), .ref so, .ref sv, .ref pd, .int (nI ln), .int (nI ((mcS gt ln (mC0 gt ln sg gu) (k + 1)).1)), .int ((mcS gt ln (mC0 gt ln sg gu) (k + 1)).2.1), .ref nu])), (st, .inl (E.2.1, 293, .inl (mcG gt ln (mC0 gt ln sg gu) g (k + 1)))), (sp, .inl (E.2.1, 293, .inl (va_cpy g gp 0 0 293))), (th, .inl (E.2.1, 1758, .inl (puH sn (va_cpy g gp 0 0 293) gh))), (pd, .inl (E.2.1, 80, .inl gt)), (nu, .inl (E.2.1, 4, .inl ((mcS gt ln (mC0 gt ln sg gu) (k + 1)).2.2)))] H := by first | (rw [mcG_p c_5, mcS1, mcS2, mcS3]; exact hP) | (rw [mcG_n c_4, mcS1, mcS2, mcS3]; exact hP)
                have hl : lv_has ls 3 [(2, .int (nI 1)), (1, .int (mcM gt ln (mC0 gt ln sg gu) g k + (nI 1))), (0, .ref xo)] := lv_sub hl [1, 0, 2] rfl
                have hl : lv_has ls 3 [(2, .int (mcB gt ln (mC0 gt ln sg gu) g (k + 1))), (1, .int (mcM gt ln (mC0 gt ln sg gu) g (k + 1))), (0, .ref xo)] := by first | (rw [mcM_s, mcB_p c_5]; exact hl) | (rw [mcM_s, mcB_a c_4 c_5]; exact hl) | (rw [mcM_s, mcB_n c_4 c_5]; exact hl)
                exact ih29 (k + 1) (by omega) (fun h9 => mcS_up hk9 h9) (by omega) (by rw [mcS1]; exact Nat.succ_le_succ (mRoA_le (by omega))) (lt_s hall he9) _ _ hP hS _ hl
    have hP : va_P E.1 vwCl [(xo, .inr (5, [.ref st, .ref sp, .ref th, .int (nI (puN sn)), .ref so, .ref sv, .ref pd, .int (nI ln), .int (nI ((mcS gt ln (mC0 gt ln sg gu) 0).1)), .int ((mcS gt ln (mC0 gt ln sg gu) 0).2.1), .ref nu])), (st, .inl (E.2.1, 293, .inl (mcG gt ln (mC0 gt ln sg gu) g 0))), (sp, .inl (E.2.1, 293, .inl (va_cpy g gp 0 0 293))), (th, .inl (E.2.1, 1758, .inl (puH sn (va_cpy g gp 0 0 293) gh))), (pd, .inl (E.2.1, 80, .inl gt)), (nu, .inl (E.2.1, 4, .inl ((mcS gt ln (mC0 gt ln sg gu) 0).2.2)))] H := by rw [mcS_0, mcG_0, mC0_1, mC0_2]; exact hP
    have hl : lv_has ls 3 [(2, .int (nI 1)), (1, .int (nI 0)), (0, .ref xo)] := lv_sub hl [0, 1, 2] rfl
    have hl : lv_has ls 3 [(2, .int (mcB gt ln (mC0 gt ln sg gu) g 0)), (1, .int (mcM gt ln (mC0 gt ln sg gu) g 0)), (0, .ref xo)] := by rw [mcM_0, mcB_0]; exact hl
    exact loop29 _ 0 (Nat.lt_succ_self _) (fun _ => Nat.zero_le _) (Nat.zero_le _) (by rw [mcS_0, mC0_1]; exact Nat.zero_le _) (fun j h9 => absurd h9 (Nat.not_lt_zero j)) _ _ hP hS _ hl
  · refine lv_bipush (v := (-3)) hx hb dX8_carryOut_9 (by decide) ?_
    exact hret _ _ _ _ _ _ (crm_n gp gh sn c_1).1.symm (by obtain ⟨e1, e2, e3, e4, e5, e6, e7⟩ := crm_n (g := g) gp gh sn c_1; rw [e2, e3, e4, e5, e6, e7]) rfl hP hS dX8_carryOut_11

