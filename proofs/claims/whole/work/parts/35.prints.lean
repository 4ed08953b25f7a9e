/-! a print -/
def bN (B : Nat → Int32) : Nat → Nat
  | 0 => 0
  | k + 1 => bN B k + (if B k = 0 then 0 else 2 ^ k)
def cN (B : Nat → Int32) : Nat → Nat
  | 0 => 0
  | k + 1 => cN B k + (if B k = 0 then 0 else 1)
def dN (N : Nat) : Nat → Nat
  | 0 => 0
  | k + 1 => dN N k + N / 2 ^ k % 2
theorem bN_lt (B : Nat → Int32) : ∀ k, bN B k < 2 ^ k
  | 0 => by rw [bN]; decide
  | k + 1 => by
    have := bN_lt B k
    rw [bN, Nat.pow_succ]
    split <;> omega
theorem or_pow {a k : Nat} (h : a < 2 ^ k) : nI a ||| nI (1 * 2 ^ k) = nI (a + 2 ^ k) := by
  have e : nI a ||| nI (1 * 2 ^ k) = nI (a ||| (1 * 2 ^ k)) := by
    apply Int32.toBitVec_inj.1
    show BitVec.ofNat 32 a ||| BitVec.ofNat 32 (1 * 2 ^ k) = BitVec.ofNat 32 (a ||| (1 * 2 ^ k))
    apply BitVec.eq_of_getLsbD_eq
    intro i hi
    simp [hi]
  rw [e, Nat.or_comm, Nat.mul_comm, ← Nat.two_pow_add_eq_or_of_lt h, Nat.mul_one, Nat.add_comm]
theorem sh_k : ∀ k, k < 20 → ((nI k &&& 31 : Int32).toBitVec.smod 32).toNat = k := by decide +kernel
theorem pow20 {k : Nat} (h : k ≤ 20) : 2 ^ k ≤ 2 ^ 20 := Nat.pow_le_pow_right (by decide) h
theorem mSq_b {B : Nat → Int32} : ∀ k, k ≤ 20 → mSq B k = nI (bN B k)
  | 0, _ => rfl
  | k + 1, hk => by
    have h1 := bN_lt B k
    have h2 := pow20 (k := k) (by omega)
    rw [mSq, mSq_b k (by omega), bN]
    by_cases c : B k = 0
    · rw [if_pos c, if_pos c, nI_0, Int32.or_zero, Nat.add_zero]
    · rw [if_neg c, if_neg c, pk_shlN (n := 1) _ k (sh_k k (by omega)) (by omega), or_pow h1]
theorem mO1_d {N : Nat} (h : N < 2 ^ 31) : ∀ k, k ≤ 20 → mO1 (nI N) k = nI (dN N k)
  | 0, _ => rfl
  | k + 1, hk => by
    rw [mO1, mO1_d h k (by omega), pk_shrN h _ k (sh_k k (by omega)), pk_andN (Nat.lt_of_le_of_lt (Nat.div_le_self _ _) (by omega)) 1 (by decide), nI_add, dN]
theorem bN_bit {B : Nat → Int32} : ∀ n j, (bN B n).testBit j = (decide (j < n) && !decide (B j = 0))
  | 0, j => by rw [bN]; simp
  | n + 1, j => by
    rw [bN]
    have h1 := bN_lt B n
    by_cases c : B n = 0
    · rw [if_pos c, Nat.add_zero, bN_bit n j]
      by_cases e : j = n
      · subst e; simp [c]
      · rw [decide_eq_decide.mpr (show j < n ↔ j < n + 1 by omega)]
    · rw [if_neg c, Nat.add_comm, show 2 ^ n + bN B n = 2 ^ n * 1 + bN B n by rw [Nat.mul_one], Nat.testBit_two_pow_mul_add 1 h1 j]
      by_cases e : j < n
      · rw [if_pos e, bN_bit n j, decide_eq_decide.mpr (show j < n ↔ j < n + 1 by omega)]
      · rw [if_neg e]
        by_cases e2 : j = n
        · subst e2; simp [c]
        · have : Nat.testBit 1 (j - n) = false := Bool.eq_false_iff.mpr (fun z => absurd (Nat.testBit_one_eq_true_iff_self_eq_zero.mp z) (by omega))
          rw [this]
          simp; intro z; omega
theorem dN_c {B : Nat → Int32} {n : Nat} : ∀ m, dN (bN B n) m = cN B (min m n)
  | 0 => by rw [Nat.zero_min]; rfl
  | m + 1 => by
    rw [dN, dN_c m, ← Nat.toNat_testBit, bN_bit]
    rcases Nat.lt_or_ge m n with e | e
    · rw [Nat.min_eq_left (by omega), Nat.min_eq_left (by omega), cN]
      by_cases c : B m = 0
      · rw [if_pos c]; simp [c]
      · rw [if_neg c]; simp [c, e]
    · rw [Nat.min_eq_right (by omega), Nat.min_eq_right (by omega)]
      have : decide (m < n) = false := decide_eq_false (by omega)
      rw [this]; simp
theorem pop {B : Nat → Int32} {n : Nat} (hn : n ≤ 20) : mO1 (mSq B n) 20 = nI (cN B n) := by
  have h1 := bN_lt B n
  have h2 := pow20 hn
  rw [mSq_b n hn, mO1_d (by omega) 20 (Nat.le_refl _), dN_c, Nat.min_eq_right hn]
theorem cN_z {B : Nat → Int32} : ∀ n, cN B n = 0 ↔ bN B n = 0
  | 0 => Iff.rfl
  | n + 1 => by
    have hp : 0 < 2 ^ n := Nat.two_pow_pos n
    rw [cN, bN]
    have := cN_z (B := B) n
    split <;> omega
theorem cN_le (B : Nat → Int32) : ∀ n, cN B n ≤ n
  | 0 => Nat.le_refl 0
  | n + 1 => by
    have := cN_le B n
    rw [cN]
    split <;> omega
theorem cOf_up (F : Nat → Int32) {k i c : Nat} (hc : c < 3) (z tr : Int32) : cOf (upd F (13 + 14 * k + (11 + i)) z) k c tr = cOf F k c tr := by
  unfold cOf cPr
  rw [pk_un (by omega), pk_un (by omega), pk_un (by omega), pk_un (by omega), pk_un (by omega)]
theorem mOn_up (G : Nat → Int32) {k j c : Nat} (hj : 10 ≤ j) (hc : c < 3) (z : Int32) : mOn (upd G (13 + 14 * k + j) z) k c = mOn G k c := by
  unfold mOn mPn mPr mLo
  rw [pk_un (by omega), pk_un (by omega), pk_un (by omega), pk_un (by omega), pk_un (by omega), pk_un (by omega)]
theorem cRs_e (F : Nat → Int32) (k : Nat) : cRs F k = upd (upd (upd (upd F (13 + 14 * k + (11 + 0)) (cOf F k 0 (F (7 + 0)))) (13 + 14 * k + (11 + 1)) (cOf F k 1 (F (7 + 1)))) (13 + 14 * k + (11 + 2)) (cOf F k 2 (F (7 + 2)))) (13 + 14 * k + 1) (nI 1) := by
  unfold cRs cR1
  rw [cOf_up F (by decide), cOf_up _ (by decide), cOf_up F (by decide), pk_un (by omega), pk_un (by omega), pk_un (by omega)]
theorem mRs_e (G : Nat → Int32) (k : Nat) : mRs G k = upd (upd (upd (upd G (13 + 14 * k + 10) (nI 1)) (13 + 14 * k + 11) (mOn G k 0)) (13 + 14 * k + 12) (mOn G k 1)) (13 + 14 * k + 13) (mOn G k 2) := by
  unfold mRs mR1
  rw [mOn_up G (by decide) (by decide), mOn_up _ (by decide) (by decide), mOn_up G (by decide) (by decide), mOn_up _ (by decide) (by decide), mOn_up _ (by decide) (by decide), mOn_up G (by decide) (by decide)]
theorem mRs_o (G : Nat → Int32) {k i : Nat} (h : i < 13 + 14 * k + 10 ∨ 13 + 14 * k + 14 ≤ i) : mRs G k i = G i := by
  rw [mRs_e, pk_un (by omega), pk_un (by omega), pk_un (by omega), pk_un (by omega)]
theorem mRp_lo (g : Nat → Int32) {k i : Nat} (hi : i < 13 + 14 * (k + 1)) : ∀ d : Nat, mRp g (k + 1 + d) i = mRp g (k + 1) i
  | 0 => rfl
  | d + 1 => by
    show mRs (mRp g (k + 1 + d)) (k + 1 + d) i = _
    rw [mRs_o _ (by omega)]
    exact mRp_lo g hi d
section
variable {n : Nat} {f g : Nat → Int32}
theorem Rel_rs (h : Rel n f g) {k : Nat} (hk : k < n) : Rel n (cRs f k) (mRs g k) := by
  have e0 := V_on h hk (c := 0) (by decide)
  have e1 := V_on h hk (c := 1) (by decide)
  have e2 := V_on h hk (c := 2) (by decide)
  rw [cRs_e, mRs_e, e0, e1, e2]
  obtain ⟨b1, b2, b3, b4⟩ := R_iv h hk
  refine Rel_shot h (p := k) (fun i hi => ?_) (fun i hi => ?_) ?_ ?_
  · rw [pk_un (by omega), pk_un (by omega), pk_un (by omega), pk_un (by omega)]
  · rw [pk_un (by omega), pk_un (by omega), pk_un (by omega), pk_un (by omega)]
  · intro j hj hh
    by_cases c : j < 10
    · have hpj : pj j ≠ 1 ∧ pj j < 11 := by unfold pj; (repeat' split) <;> omega
      rw [pk_un (by omega), pk_un (by omega), pk_un (by omega), pk_un (by omega), pk_un (by omega), pk_un (by omega), pk_un (by omega), pk_un (by omega)]
      exact R_sh h hk j hj (fun z => absurd z (by omega))
    · rcases (by omega : j = 10 ∨ j = 11 ∨ j = 12 ∨ j = 13) with e | e | e | e <;> subst e
      · rw [show pj 10 = 1 from rfl, pk_us, pk_un (by omega), pk_un (by omega), pk_un (by omega), pk_us]
      · rw [show pj 11 = 11 from rfl, pk_un (by omega), pk_un (by omega), pk_un (by omega), pk_us, pk_un (by omega), pk_un (by omega), pk_us]
      · rw [show pj 12 = 12 from rfl, pk_un (by omega), pk_un (by omega), pk_us, pk_un (by omega), pk_us]
      · rw [show pj 13 = 13 from rfl, pk_un (by omega), pk_us, pk_us]
  · refine ⟨Or.inr ?_, ?_, fun c hc => ?_, fun _ c hc => ?_⟩
    · rw [pk_un (by omega), pk_un (by omega), pk_un (by omega), pk_us]
    · rw [pk_un (by omega), pk_un (by omega), pk_un (by omega), pk_un (by omega)]; exact b2
    · rw [pk_un (by omega), pk_un (by omega), pk_un (by omega), pk_un (by omega)]; exact b3 c hc
    · rcases (by omega : c = 0 ∨ c = 1 ∨ c = 2) with e | e | e <;> subst e
      · rw [pk_un (by omega), pk_un (by omega), pk_us]; exact off_rng h hk (by decide) _ _
      · rw [pk_un (by omega), pk_us]; exact off_rng h hk (by decide) _ _
      · rw [pk_us]; exact off_rng h hk (by decide) _ _
theorem Rel_rp (h : Rel n f g) : ∀ k, k ≤ n → Rel n (cRp f k) (mRp g k)
  | 0, _ => h
  | k + 1, hk => Rel_rs (Rel_rp h k (by omega)) (by omega)
theorem mKw_o (g : Nat → Int32) (n : Nat) {i : Nat} (h5 : i ≠ 5) (h7 : i ≠ 7) (h8 : i ≠ 8) (h9 : i ≠ 9) : mKw g n i = mRp g n i := by
  unfold mKw
  rw [pk_un h5, pk_un h9, pk_un h8, pk_un h7]
theorem Rel_rw (h : Rel n f g) : Rel n (cRw f n) (mKw g n) := by
  have r := Rel_rp h n (Nat.le_refl n)
  have eH := V_ho r
  unfold cRw mKw
  rw [eH]
  generalize mHo (mRp g n) n = H
  generalize cRp f n = F at r ⊢
  generalize mRp g n = G at r ⊢
  have r1 : Rel n (upd F 4 (F 4 + H)) (upd G 7 (G 7 + H)) := by
    rw [show F 4 = G 7 from R_age r (c := 0) (by decide)]
    exact Rel_hd r (j := 7) (by decide) (by decide) (fun z => absurd z (by decide)) (fun z => absurd z (by decide)) (fun z => absurd z (by decide))
  generalize upd F 4 (F 4 + H) = F1 at r1 ⊢
  generalize upd G 7 (G 7 + H) = G1 at r1 ⊢
  have r2 : Rel n (upd F1 5 (F1 5 + H)) (upd G1 8 (G1 8 + H)) := by
    rw [show F1 5 = G1 8 from R_age r1 (c := 1) (by decide)]
    exact Rel_hd r1 (j := 8) (by decide) (by decide) (fun z => absurd z (by decide)) (fun z => absurd z (by decide)) (fun z => absurd z (by decide))
  generalize upd F1 5 (F1 5 + H) = F2 at r2 ⊢
  generalize upd G1 8 (G1 8 + H) = G2 at r2 ⊢
  have r3 : Rel n (upd F2 6 (F2 6 + H)) (upd G2 9 (G2 9 + H)) := by
    rw [show F2 6 = G2 9 from R_age r2 (c := 2) (by decide)]
    exact Rel_hd r2 (j := 9) (by decide) (by decide) (fun z => absurd z (by decide)) (fun z => absurd z (by decide)) (fun z => absurd z (by decide))
  generalize upd F2 6 (F2 6 + H) = F3 at r3 ⊢
  generalize upd G2 9 (G2 9 + H) = G3 at r3 ⊢
  rw [R_pr r3]
  exact Rel_hd r3 (j := 5) (by decide) (by decide) (fun z => absurd z (by decide)) (fun z => absurd z (by decide)) (fun z => absurd z (by decide))
theorem mBa_ext {g g' : Nat → Int32} {p : Nat} (e1 : g' 1 = g 1) (e : ∀ j : Nat, 10 ≤ j → j < 14 → g' (13 + 14 * p + j) = g (13 + 14 * p + j)) : mBa g' p = mBa g p := by
  unfold mBa
  rw [e1, e 10 (by decide) (by decide), e 11 (by decide) (by decide), e 12 (by decide) (by decide), e 13 (by decide) (by decide)]
theorem V_rb (h : Rel n f g) : ∀ k, k ≤ n → cRb f k = nI (cN (mBa (mKw g n)) k)
  | 0, _ => rfl
  | k + 1, hk => by
    have r := Rel_rs (Rel_rp h k (by omega)) (show k < n by omega)
    have e : cBa (cRs (cRp f k) k) k = mBa (mKw g n) k := by
      rw [V_ba r (by omega)]
      refine (mBa_ext ?_ (fun j h1 h2 => ?_)).symm
      · rw [mKw_o g n (by decide) (by decide) (by decide) (by decide), mRp_u g 1 (by decide) n, mRs_u _ k 1 (by omega), mRp_u g 1 (by decide) k]
      · rw [mKw_o g n (by omega) (by omega) (by omega) (by omega)]
        have := mRp_lo g (k := k) (i := 13 + 14 * k + j) (by omega) (n - (k + 1))
        rw [show k + 1 + (n - (k + 1)) = n by omega] at this
        rw [this]; rfl
    rw [cN]
    by_cases c : mBa (mKw g n) k = 0
    · rw [cRb_p (by rw [e]; exact c), if_pos c, V_rb h k (by omega), nI_add]
    · rw [cRb_n (by rw [e]; exact c), if_neg c, V_rb h k (by omega), nI_add]
theorem V_rv (h : Rel n f g) : cRv f n = mO1 (mSb (mKw g n) n) 20 := by
  rw [mSb_q, pop (R_n h)]; exact V_rb h n (Nat.le_refl n)
theorem V_rz (h : Rel n f g) : cRv f n = 0 ↔ mSb (mKw g n) n = 0 := by
  have hn := R_n h
  have h1 := bN_lt (mBa (mKw g n)) n
  have h2 := pow20 hn
  have h3 := cN_le (mBa (mKw g n)) n
  rw [show cRv f n = nI (cN (mBa (mKw g n)) n) from V_rb h n (Nat.le_refl n), mSb_q, mSq_b n hn, nI_z (by omega), nI_z (by omega)]
  exact cN_z n
theorem rng_nat {k : Nat} {x : Int32} (h : rng 0 k x) : ∃ a : Nat, a ≤ k ∧ x = nI a := by
  obtain ⟨a1, a2⟩ := h
  have hlt := Int32.toInt_lt x
  refine ⟨x.toInt.toNat, by omega, Int32.toInt_inj.mp ?_⟩
  rw [nI_toInt (by omega)]; omega
theorem V_ftn (h : Rel n f g) : ∀ k, k ≤ n → ∃ a : Nat, a ≤ 99 * k ∧ mFt g k = nI a
  | 0, _ => ⟨0, by omega, rfl⟩
  | k + 1, hk => by
    obtain ⟨a, ha, e⟩ := V_ftn h k (by omega)
    obtain ⟨b, hb, e2⟩ := rng_nat (k := 99) (rng_mono (R_iv h (p := k) (by omega)).2.1 (by decide) (by decide))
    exact ⟨a + b, by omega, by rw [mFt, e, e2, nI_add]⟩
theorem V_hon (h : Rel n f g) : ∃ a : Nat, a ≤ 20 ∧ mHo g n = nI a := by
  have hn := R_n h
  obtain ⟨a, ha, e⟩ := V_ftn h n (Nat.le_refl n)
  exact ⟨(a + 99) / 100, by omega, by rw [mHo, e, nI_add, pk_div (by omega) (by decide) (by decide)]⟩
theorem mFt_rp (g : Nat → Int32) (m : Nat) : ∀ k, mFt (mRp g m) k = mFt g k
  | 0 => rfl
  | k + 1 => by
    have e : ∀ m : Nat, mRp g m (13 + 14 * k + 0) = g (13 + 14 * k + 0) := by
      intro m
      induction m with
      | zero => rfl
      | succ m ih =>
        show mRs (mRp g m) m (13 + 14 * k + 0) = _
        rw [mRs_o _ (by omega)]; exact ih
    rw [mFt, mFt, mFt_rp g m k, e]
theorem C_pr (h : Rel n f g) (ha : Ag g) : cKv f n = mKv g n ∧ Ok (cKw f n) (mQw g n) := by
  have hn := R_n h
  obtain ⟨H, hH, eH⟩ := V_hon h
  obtain ⟨a0, k0, e0⟩ := rng_nat (k := 999) (ha 0 (by decide))
  obtain ⟨a1, k1, e1⟩ := rng_nat (k := 999) (ha 1 (by decide))
  obtain ⟨a2, k2, e2⟩ := rng_nat (k := 999) (ha 2 (by decide))
  have e0 : g 7 = nI a0 := e0
  have e1 : g 8 = nI a1 := e1
  have e2 : g 9 = nI a2 := e2
  have f0 : f 4 = nI a0 := (R_age h (c := 0) (by decide)).trans e0
  have f1 : f 5 = nI a1 := (R_age h (c := 1) (by decide)).trans e1
  have f2 : f 6 = nI a2 := (R_age h (c := 2) (by decide)).trans e2
  have key : mOl g + nI H ≤ nI 999 ↔ a0 + H ≤ 999 ∧ a1 + H ≤ 999 ∧ a2 + H ≤ 999 := by
    unfold mOl
    rw [e0, e1, e2]
    repeat' split
    all_goals rename_i q1 q2 q3
    all_goals rw [nI_add, nI_leI (by omega) (by decide)]
    all_goals rw [nI_leI (by omega) (by omega)] at q1 q2 q3
    all_goals omega
  unfold cKv mKv cKw mQw
  rw [V_ho h, eH, f0, f1, f2]
  simp only [nI_add a0, nI_add a1, nI_add a2, nI_leI (show a0 + H < 2 ^ 31 by omega) (show 999 < 2 ^ 31 by decide), nI_leI (show a1 + H < 2 ^ 31 by omega) (show 999 < 2 ^ 31 by decide), nI_leI (show a2 + H < 2 ^ 31 by omega) (show 999 < 2 ^ 31 by decide)]
  by_cases c0 : n = 0
  · simp only [if_pos c0]
    refine ⟨?_, n, ?_, ha⟩
    · split
      · split
        · split <;> rfl
        · rfl
      · rfl
    · split
      · split
        · split <;> exact h
        · exact h
      · exact h
  · simp only [if_neg c0]
    by_cases c1 : a0 + H ≤ 999 ∧ a1 + H ≤ 999 ∧ a2 + H ≤ 999
    · simp only [if_pos (key.mpr c1), if_pos c1.1, if_pos c1.2.1, if_pos c1.2.2]
      refine ⟨V_rv h, n, Rel_rw h, fun c hc => ?_⟩
      have eM : mHo (mRp g n) n = nI H := by rw [← eH]; unfold mHo; rw [mFt_rp]
      have g0 : mRp g n 7 = nI a0 := (mRp_u g 7 (by decide) n).trans e0
      have g1 : mRp g n 8 = nI a1 := (mRp_u g 8 (by decide) n).trans e1
      have g2 : mRp g n 9 = nI a2 := (mRp_u g 9 (by decide) n).trans e2
      rcases (by omega : c = 0 ∨ c = 1 ∨ c = 2) with e | e | e <;> subst e
      · show rng 0 999 (mKw g n 7)
        unfold mKw
        rw [pk_un (by decide), pk_un (by decide), pk_un (by decide), pk_us, eM, g0, nI_add]; exact rng_nI (by omega) (by omega) (by omega)
      · show rng 0 999 (mKw g n 8)
        unfold mKw
        rw [pk_un (by decide), pk_un (by decide), pk_us, eM, pk_un (by decide), g1, nI_add]; exact rng_nI (by omega) (by omega) (by omega)
      · show rng 0 999 (mKw g n 9)
        unfold mKw
        rw [pk_un (by decide), pk_us, eM, pk_un (by decide), pk_un (by decide), g2, nI_add]; exact rng_nI (by omega) (by omega) (by omega)
    · simp only [if_neg (fun z => c1 (key.mp z))]
      refine ⟨?_, n, ?_, ha⟩
      · by_cases d0 : a0 + H ≤ 999
        · rw [if_pos d0]
          by_cases d1 : a1 + H ≤ 999
          · rw [if_pos d1, if_neg (fun d2 => c1 ⟨d0, d1, d2⟩)]
          · rw [if_neg d1]
        · rw [if_neg d0]
      · by_cases d0 : a0 + H ≤ 999
        · rw [if_pos d0]
          by_cases d1 : a1 + H ≤ 999
          · rw [if_pos d1, if_neg (fun d2 => c1 ⟨d0, d1, d2⟩)]; exact h
          · rw [if_neg d1]; exact h
        · rw [if_neg d0]; exact h
end
