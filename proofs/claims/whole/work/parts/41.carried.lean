/-! the fault, the orders carried out -/
section
variable {L p k : Nat} {t gt gu : Nat → Int32} {σ : SX}
theorem foX_0 (T : TX L t gt) (h : σ.1 = nI 0) (gu : Nat → Int32) : OrdOk gt L 0 gu (foX t L σ 0) := by
  unfold foX nx
  rw [foS_0, h, if_pos (show nI 0 ≤ 0 by decide)]
  exact ord_ok T (by decide)
theorem foX_n (T : TX L t gt) (h : OrdOk gt L p gu (foX t L σ k)) (hp : p ≤ L) (h1 : ¬ mRo gt L p gu = 0) (h2 : mCd gt L (mRoA gt L p gu) = nI 59) (gu' : Nat → Int32) : OrdOk gt L (mRoA gt L p gu + 1) gu' (foX t L σ (k + 1)) := by
  have h8 := T.1
  have hA : mRoA gt L p gu ≤ L := mRoA_le hp
  have hg := mRo_lt h1
  have e : (foS t L σ (k + 1)).1 = nI (mRoA gt L p gu) := by rw [foS_s]; exact h.2.1
  unfold foX nx
  rw [e, if_neg (nI_nle (by omega) (by omega)), sg_e T (by omega), mTk, if_pos h2, if_neg one_ne, sgA_e T (by omega), mTkA, if_pos h2]
  exact ord_ok T (by omega)
theorem foX_f (T : TX L t gt) (h : OrdOk gt L p gu (foX t L σ k)) (hp : p ≤ L) (h1 : ¬ mRo gt L p gu = 0) (h2 : ¬ mCd gt L (mRoA gt L p gu) = nI 59) : (foX t L σ (k + 1)).1 = nI 0 ∧ (foX t L σ (k + 1)).2.1 = nI (mRoA gt L p gu) := by
  have h8 := T.1
  have hA : mRoA gt L p gu ≤ L := mRoA_le hp
  have hg := mRo_lt h1
  have e : (foS t L σ (k + 1)).1 = nI (mRoA gt L p gu) := by rw [foS_s]; exact h.2.1
  unfold foX nx
  rw [e, if_neg (nI_nle (by omega) (by omega)), sg_e T (by omega), mTk, if_neg h2, if_pos nI_0]
  exact ⟨rfl, rfl⟩
end
theorem mTk_c {gt : Nat → Int32} {L p : Nat} {x : Int32} : ¬ mTk gt L p x = 0 ↔ mCd gt L p = x := by
  unfold mTk
  by_cases c : mCd gt L p = x
  · rw [if_pos c]; exact ⟨fun _ => c, fun _ => one_ne⟩
  · rw [if_neg c]; exact ⟨fun z => absurd nI_0 z, fun z => absurd z c⟩
theorem mFk_i {gt : Nat → Int32} {L : Nat} {τ : MS} {k : Nat} (h : ¬ mFk gt L τ k = 0) : ¬ mRo gt L (mFs gt L τ k).1 (mFs gt L τ k).2.2 = 0 ∧ ¬ mRoA gt L (mFs gt L τ k).1 (mFs gt L τ k).2.2 = L ∧ mCd gt L (mRoA gt L (mFs gt L τ k).1 (mFs gt L τ k).2.2) = nI 59 := by
  by_cases c1 : mRo gt L (mFs gt L τ k).1 (mFs gt L τ k).2.2 = 0
  · exact absurd (mFk_a c1) h
  · by_cases c2 : mRoA gt L (mFs gt L τ k).1 (mFs gt L τ k).2.2 = L
    · exact absurd (mFk_b c1 c2) h
    · by_cases c3 : mTk gt L (mRoA gt L (mFs gt L τ k).1 (mFs gt L τ k).2.2) (nI 59) = 0
      · exact absurd (mFk_c c1 c2 c3) h
      · exact ⟨c1, c2, mTk_c.mp c3⟩
theorem mFs_p {gt : Nat → Int32} {L : Nat} {τ : MS} {k : Nat} (h : ¬ mFk gt L τ k = 0) : (mFs gt L τ (k + 1)).1 = mRoA gt L (mFs gt L τ k).1 (mFs gt L τ k).2.2 + 1 := by
  rw [mFs1, mTkA, if_pos (mFk_i h).2.2]
theorem mFs_i {gt : Nat → Int32} {L : Nat} {τ : MS} (h0 : τ.1 = 0) : ∀ k, (∀ j, j < k → ¬ mFk gt L τ j = 0) → 2 * k ≤ (mFs gt L τ k).1 ∧ (mFs gt L τ k).1 ≤ L
  | 0, _ => by rw [mFs_0, h0]; exact ⟨Nat.le_refl _, Nat.zero_le _⟩
  | k + 1, hall => by
    obtain ⟨a, b⟩ := mFs_i h0 k (fun j hj => hall j (by omega))
    have hk := hall k (by omega)
    obtain ⟨h1, h2, h3⟩ := mFk_i hk
    have hl : mRoA gt L (mFs gt L τ k).1 (mFs gt L τ k).2.2 < L := mCd_lt (by rw [h3]; decide)
    have hg := mRo_lt h1
    rw [mFs_p hk]
    omega
section
variable {L : Nat} {t gt : Nat → Int32} {σ : SX} {τ : MS}
theorem fo_run (T : TX L t gt) (hσ : σ.1 = nI 0) (h0 : τ.1 = 0) : ∀ k, (∀ j, j < k → ¬ mFk gt L τ j = 0) → OrdOk gt L (mFs gt L τ k).1 (mFs gt L τ k).2.2 (foX t L σ k) ∧ ∀ j, j < k → ¬ foK t L σ j = 0
  | 0, _ => by
    refine ⟨?_, fun j hj => absurd hj (Nat.not_lt_zero j)⟩
    rw [mFs_0, h0]; exact foX_0 T hσ _
  | k + 1, hall => by
    have h8 := T.1
    obtain ⟨a, b⟩ := fo_run T hσ h0 k (fun j hj => hall j (by omega))
    obtain ⟨i1, i2⟩ := mFs_i (gt := gt) (L := L) h0 k (fun j hj => hall j (by omega))
    have hk := hall k (by omega)
    obtain ⟨h1, h2, h3⟩ := mFk_i hk
    have hl : mRoA gt L (mFs gt L τ k).1 (mFs gt L τ k).2.2 < L := mCd_lt (by rw [h3]; decide)
    refine ⟨?_, fun j hj => ?_⟩
    · rw [mFs_p hk]; exact foX_n T a i2 h1 h3 _
    · rcases Nat.lt_or_ge j k with e | e
      · exact b j e
      · rw [show j = k by omega]
        exact foK_n (fun z => h1 (a.1.mp z)) (by rw [a.2.1]; exact nI_lt hl (by omega))
theorem mFN_i (T : TX L t gt) (h0 : τ.1 = 0) : (∀ j, j < mFN gt L τ → ¬ mFk gt L τ j = 0) ∧ mFk gt L τ (mFN gt L τ) = 0 ∧ mFN gt L τ ≤ 40 := by
  have h8 := T.1
  obtain ⟨a, b⟩ := ffz_spec (mFk gt L τ) 81
  have hi := mFs_i (gt := gt) (L := L) h0 (mFN gt L τ) a
  have hle : mFN gt L τ ≤ 40 := by omega
  exact ⟨a, b (show mFN gt L τ < 81 by omega), hle⟩
theorem V_fault (T : TX L t gt) (hσ : σ.1 = nI 0) (h0 : τ.1 = 0) : ftV t L σ = mFV gt L τ := by
  have h8 := T.1
  obtain ⟨hall, hz, hK⟩ := mFN_i (gt := gt) T h0
  obtain ⟨a, b⟩ := fo_run T hσ h0 _ hall
  obtain ⟨i1, i2⟩ := mFs_i (gt := gt) (L := L) h0 _ hall
  have hN : mFN gt L τ = mFN gt L τ := rfl
  generalize hKe : mFN gt L τ = K at hall hz hK a b i1 i2
  have hA : mRoA gt L (mFs gt L τ K).1 (mFs gt L τ K).2.2 ≤ L := mRoA_le i2
  by_cases c1 : mRo gt L (mFs gt L τ K).1 (mFs gt L τ K).2.2 = 0
  · have f1 : (foX t L σ K).1 = 0 := a.1.mpr c1
    have e : foN t L σ = K := ffz_at b (foK_0 f1) (by omega)
    rw [(mF_a hKe c1).1, ftV, e, if_pos (by omega), if_pos f1, a.2.1]
  · have f1 : ¬ (foX t L σ K).1 = 0 := fun z => c1 (a.1.mp z)
    by_cases c2 : mRoA gt L (mFs gt L τ K).1 (mFs gt L τ K).2.2 = L
    · have e : foN t L σ = K := ffz_at b (foK_1 f1 (by rw [a.2.1, c2]; exact nI_nlt (Nat.le_refl _) (by omega))) (by omega)
      rw [(mF_b hKe c1 c2).1, ftV, e, if_pos (by omega), if_neg f1]
    · have hl : mRoA gt L (mFs gt L τ K).1 (mFs gt L τ K).2.2 < L := by omega
      have c3 : ¬ mCd gt L (mRoA gt L (mFs gt L τ K).1 (mFs gt L τ K).2.2) = nI 59 := fun z => absurd hz (mFk_n c1 c2 (mTk_c.mpr z))
      obtain ⟨g1, g2⟩ := foX_f T a i2 c1 c3
      have g1 : (foX t L σ (K + 1)).1 = 0 := g1
      have fk : ¬ foK t L σ K = 0 := foK_n f1 (by rw [a.2.1]; exact nI_lt hl (by omega))
      have e : foN t L σ = K + 1 := ffz_at (lt_s b fk) (foK_0 g1) (by omega)
      rw [(mF_c hKe c1 c2).1, ftV, e, if_pos (by omega), if_pos g1, g2]
end
def mRnB (gt : Nat → Int32) (L p : Nat) : Int32 := mRn gt L p gt 0
def mRnAB (gt : Nat → Int32) (L p : Nat) : Nat := mRnA gt L p gt 0
def mRcB (gt : Nat → Int32) (L p : Nat) : Int32 := mRc gt L p gt
def mRcAB (gt : Nat → Int32) (L p : Nat) : Nat := mRcA gt L p gt
theorem mRn_b (gt : Nat → Int32) (L p : Nat) (gu : Nat → Int32) (q : Nat) : mRn gt L p gu q = mRnB gt L p := rfl
theorem mRnA_b (gt : Nat → Int32) (L p : Nat) (gu : Nat → Int32) (q : Nat) : mRnA gt L p gu q = mRnAB gt L p := rfl
theorem mRc_b (gt : Nat → Int32) (L p : Nat) (gu : Nat → Int32) : mRc gt L p gu = mRcB gt L p := rfl
theorem mRcA_b (gt : Nat → Int32) (L p : Nat) (gu : Nat → Int32) : mRcA gt L p gu = mRcAB gt L p := rfl
theorem mRo_g (gt : Nat → Int32) (L p : Nat) (gu gu' : Nat → Int32) : mRo gt L p gu = mRo gt L p gu' := by
  unfold mRo mRw
  simp only [mRn_b, mRnA_b, mRc_b, mRcA_b]
  rfl
theorem mRoA_g (gt : Nat → Int32) (L p : Nat) (gu gu' : Nat → Int32) : mRoA gt L p gu = mRoA gt L p gu' := by
  unfold mRoA mRwA
  simp only [mRn_b, mRnA_b, mRc_b, mRcA_b]
  rfl
section
variable {n : Nat} {f g : Nat → Int32}
theorem D_ok (h : Rel n f g) (ha : Ag g) {le co mi : Int32} {u gu : Nat → Int32} (hk : okL le) (hN : Num le co mi u gu) : doV f n le co mi u = mDv g n le gu ∧ Ok (doW f n le co mi u) (mDw g n le gu) := by
  obtain ⟨k, hk, rfl⟩ := hk
  obtain ⟨n1, n2, n3, n4, n5⟩ := hN
  simp only [List.mem_cons, List.not_mem_nil, or_false] at hk
  rcases hk with q | q | q | q | q | q | q | q <;> subst q
  · rw [doV, if_pos (rfl : nI 97 = nI 97)]
    rw [mDv, if_pos (rfl : nI 97 = nI 97)]
    rw [doW, if_pos (rfl : nI 97 = nI 97)]
    rw [mDw, if_pos (rfl : nI 97 = nI 97)]
    exact C_ca h ha
  · rw [doV, if_neg (show ¬ nI 99 = nI 97 by decide), if_neg (show ¬ nI 99 = nI 98 by decide), if_pos (rfl : nI 99 = nI 99)]
    rw [mDv, if_neg (show ¬ nI 99 = nI 97 by decide), if_neg (show ¬ nI 99 = nI 98 by decide), if_pos (rfl : nI 99 = nI 99)]
    rw [doW, if_neg (show ¬ nI 99 = nI 97 by decide), if_neg (show ¬ nI 99 = nI 98 by decide), if_pos (rfl : nI 99 = nI 99)]
    rw [mDw, if_neg (show ¬ nI 99 = nI 97 by decide), if_neg (show ¬ nI 99 = nI 98 by decide), if_pos (rfl : nI 99 = nI 99)]
    rw [n5 rfl]; exact C_cr h ha _
  · rw [doV, if_neg (show ¬ nI 107 = nI 97 by decide), if_neg (show ¬ nI 107 = nI 98 by decide), if_neg (show ¬ nI 107 = nI 99 by decide), if_neg (show ¬ nI 107 = nI 100 by decide), if_neg (show ¬ nI 107 = nI 101 by decide), if_neg (show ¬ nI 107 = nI 102 by decide), if_neg (show ¬ nI 107 = nI 103 by decide), if_neg (show ¬ nI 107 = nI 104 by decide), if_neg (show ¬ nI 107 = nI 105 by decide), if_neg (show ¬ nI 107 = nI 106 by decide), if_pos (rfl : nI 107 = nI 107)]
    rw [mDv, if_neg (show ¬ nI 107 = nI 97 by decide), if_neg (show ¬ nI 107 = nI 98 by decide), if_neg (show ¬ nI 107 = nI 99 by decide), if_neg (show ¬ nI 107 = nI 100 by decide), if_neg (show ¬ nI 107 = nI 101 by decide), if_neg (show ¬ nI 107 = nI 102 by decide), if_neg (show ¬ nI 107 = nI 103 by decide), if_neg (show ¬ nI 107 = nI 104 by decide), if_neg (show ¬ nI 107 = nI 105 by decide), if_neg (show ¬ nI 107 = nI 106 by decide), if_pos (rfl : nI 107 = nI 107)]
    rw [doW, if_neg (show ¬ nI 107 = nI 97 by decide), if_neg (show ¬ nI 107 = nI 98 by decide), if_neg (show ¬ nI 107 = nI 99 by decide), if_neg (show ¬ nI 107 = nI 100 by decide), if_neg (show ¬ nI 107 = nI 101 by decide), if_neg (show ¬ nI 107 = nI 102 by decide), if_neg (show ¬ nI 107 = nI 103 by decide), if_neg (show ¬ nI 107 = nI 104 by decide), if_neg (show ¬ nI 107 = nI 105 by decide), if_neg (show ¬ nI 107 = nI 106 by decide), if_pos (rfl : nI 107 = nI 107)]
    rw [mDw, if_neg (show ¬ nI 107 = nI 97 by decide), if_neg (show ¬ nI 107 = nI 98 by decide), if_neg (show ¬ nI 107 = nI 99 by decide), if_neg (show ¬ nI 107 = nI 100 by decide), if_neg (show ¬ nI 107 = nI 101 by decide), if_neg (show ¬ nI 107 = nI 102 by decide), if_neg (show ¬ nI 107 = nI 103 by decide), if_neg (show ¬ nI 107 = nI 104 by decide), if_neg (show ¬ nI 107 = nI 105 by decide), if_neg (show ¬ nI 107 = nI 106 by decide), if_pos (rfl : nI 107 = nI 107)]
    exact C_cd h ha
  · rw [doV, if_neg (show ¬ nI 108 = nI 97 by decide), if_neg (show ¬ nI 108 = nI 98 by decide), if_neg (show ¬ nI 108 = nI 99 by decide), if_neg (show ¬ nI 108 = nI 100 by decide), if_neg (show ¬ nI 108 = nI 101 by decide), if_neg (show ¬ nI 108 = nI 102 by decide), if_neg (show ¬ nI 108 = nI 103 by decide), if_neg (show ¬ nI 108 = nI 104 by decide), if_neg (show ¬ nI 108 = nI 105 by decide), if_neg (show ¬ nI 108 = nI 106 by decide), if_neg (show ¬ nI 108 = nI 107 by decide), if_pos (rfl : nI 108 = nI 108)]
    rw [mDv, if_neg (show ¬ nI 108 = nI 97 by decide), if_neg (show ¬ nI 108 = nI 98 by decide), if_neg (show ¬ nI 108 = nI 99 by decide), if_neg (show ¬ nI 108 = nI 100 by decide), if_neg (show ¬ nI 108 = nI 101 by decide), if_neg (show ¬ nI 108 = nI 102 by decide), if_neg (show ¬ nI 108 = nI 103 by decide), if_neg (show ¬ nI 108 = nI 104 by decide), if_neg (show ¬ nI 108 = nI 105 by decide), if_neg (show ¬ nI 108 = nI 106 by decide), if_neg (show ¬ nI 108 = nI 107 by decide), if_pos (rfl : nI 108 = nI 108)]
    rw [doW, if_neg (show ¬ nI 108 = nI 97 by decide), if_neg (show ¬ nI 108 = nI 98 by decide), if_neg (show ¬ nI 108 = nI 99 by decide), if_neg (show ¬ nI 108 = nI 100 by decide), if_neg (show ¬ nI 108 = nI 101 by decide), if_neg (show ¬ nI 108 = nI 102 by decide), if_neg (show ¬ nI 108 = nI 103 by decide), if_neg (show ¬ nI 108 = nI 104 by decide), if_neg (show ¬ nI 108 = nI 105 by decide), if_neg (show ¬ nI 108 = nI 106 by decide), if_neg (show ¬ nI 108 = nI 107 by decide), if_pos (rfl : nI 108 = nI 108)]
    rw [mDw, if_neg (show ¬ nI 108 = nI 97 by decide), if_neg (show ¬ nI 108 = nI 98 by decide), if_neg (show ¬ nI 108 = nI 99 by decide), if_neg (show ¬ nI 108 = nI 100 by decide), if_neg (show ¬ nI 108 = nI 101 by decide), if_neg (show ¬ nI 108 = nI 102 by decide), if_neg (show ¬ nI 108 = nI 103 by decide), if_neg (show ¬ nI 108 = nI 104 by decide), if_neg (show ¬ nI 108 = nI 105 by decide), if_neg (show ¬ nI 108 = nI 106 by decide), if_neg (show ¬ nI 108 = nI 107 by decide), if_pos (rfl : nI 108 = nI 108)]
    obtain ⟨e1, e2, e3⟩ := n2 rfl
    rw [e1, e2, e3]; exact C_li h ha _ _ _
  · rw [doV, if_neg (show ¬ nI 109 = nI 97 by decide), if_neg (show ¬ nI 109 = nI 98 by decide), if_neg (show ¬ nI 109 = nI 99 by decide), if_neg (show ¬ nI 109 = nI 100 by decide), if_neg (show ¬ nI 109 = nI 101 by decide), if_neg (show ¬ nI 109 = nI 102 by decide), if_neg (show ¬ nI 109 = nI 103 by decide), if_neg (show ¬ nI 109 = nI 104 by decide), if_neg (show ¬ nI 109 = nI 105 by decide), if_neg (show ¬ nI 109 = nI 106 by decide), if_neg (show ¬ nI 109 = nI 107 by decide), if_neg (show ¬ nI 109 = nI 108 by decide), if_pos (rfl : nI 109 = nI 109)]
    rw [mDv, if_neg (show ¬ nI 109 = nI 97 by decide), if_neg (show ¬ nI 109 = nI 98 by decide), if_neg (show ¬ nI 109 = nI 99 by decide), if_neg (show ¬ nI 109 = nI 100 by decide), if_neg (show ¬ nI 109 = nI 101 by decide), if_neg (show ¬ nI 109 = nI 102 by decide), if_neg (show ¬ nI 109 = nI 103 by decide), if_neg (show ¬ nI 109 = nI 104 by decide), if_neg (show ¬ nI 109 = nI 105 by decide), if_neg (show ¬ nI 109 = nI 106 by decide), if_neg (show ¬ nI 109 = nI 107 by decide), if_neg (show ¬ nI 109 = nI 108 by decide), if_pos (rfl : nI 109 = nI 109)]
    rw [doW, if_neg (show ¬ nI 109 = nI 97 by decide), if_neg (show ¬ nI 109 = nI 98 by decide), if_neg (show ¬ nI 109 = nI 99 by decide), if_neg (show ¬ nI 109 = nI 100 by decide), if_neg (show ¬ nI 109 = nI 101 by decide), if_neg (show ¬ nI 109 = nI 102 by decide), if_neg (show ¬ nI 109 = nI 103 by decide), if_neg (show ¬ nI 109 = nI 104 by decide), if_neg (show ¬ nI 109 = nI 105 by decide), if_neg (show ¬ nI 109 = nI 106 by decide), if_neg (show ¬ nI 109 = nI 107 by decide), if_neg (show ¬ nI 109 = nI 108 by decide), if_pos (rfl : nI 109 = nI 109)]
    rw [mDw, if_neg (show ¬ nI 109 = nI 97 by decide), if_neg (show ¬ nI 109 = nI 98 by decide), if_neg (show ¬ nI 109 = nI 99 by decide), if_neg (show ¬ nI 109 = nI 100 by decide), if_neg (show ¬ nI 109 = nI 101 by decide), if_neg (show ¬ nI 109 = nI 102 by decide), if_neg (show ¬ nI 109 = nI 103 by decide), if_neg (show ¬ nI 109 = nI 104 by decide), if_neg (show ¬ nI 109 = nI 105 by decide), if_neg (show ¬ nI 109 = nI 106 by decide), if_neg (show ¬ nI 109 = nI 107 by decide), if_neg (show ¬ nI 109 = nI 108 by decide), if_pos (rfl : nI 109 = nI 109)]
    obtain ⟨e1, e2⟩ := n4 rfl
    rw [e1, e2]; exact C_mo h ha _ _
  · rw [doV, if_neg (show ¬ nI 112 = nI 97 by decide), if_neg (show ¬ nI 112 = nI 98 by decide), if_neg (show ¬ nI 112 = nI 99 by decide), if_neg (show ¬ nI 112 = nI 100 by decide), if_neg (show ¬ nI 112 = nI 101 by decide), if_neg (show ¬ nI 112 = nI 102 by decide), if_neg (show ¬ nI 112 = nI 103 by decide), if_neg (show ¬ nI 112 = nI 104 by decide), if_neg (show ¬ nI 112 = nI 105 by decide), if_neg (show ¬ nI 112 = nI 106 by decide), if_neg (show ¬ nI 112 = nI 107 by decide), if_neg (show ¬ nI 112 = nI 108 by decide), if_neg (show ¬ nI 112 = nI 109 by decide), if_neg (show ¬ nI 112 = nI 110 by decide), if_neg (show ¬ nI 112 = nI 111 by decide), if_pos (rfl : nI 112 = nI 112)]
    rw [mDv, if_neg (show ¬ nI 112 = nI 97 by decide), if_neg (show ¬ nI 112 = nI 98 by decide), if_neg (show ¬ nI 112 = nI 99 by decide), if_neg (show ¬ nI 112 = nI 100 by decide), if_neg (show ¬ nI 112 = nI 101 by decide), if_neg (show ¬ nI 112 = nI 102 by decide), if_neg (show ¬ nI 112 = nI 103 by decide), if_neg (show ¬ nI 112 = nI 104 by decide), if_neg (show ¬ nI 112 = nI 105 by decide), if_neg (show ¬ nI 112 = nI 106 by decide), if_neg (show ¬ nI 112 = nI 107 by decide), if_neg (show ¬ nI 112 = nI 108 by decide), if_neg (show ¬ nI 112 = nI 109 by decide), if_neg (show ¬ nI 112 = nI 110 by decide), if_neg (show ¬ nI 112 = nI 111 by decide), if_pos (rfl : nI 112 = nI 112)]
    rw [doW, if_neg (show ¬ nI 112 = nI 97 by decide), if_neg (show ¬ nI 112 = nI 98 by decide), if_neg (show ¬ nI 112 = nI 99 by decide), if_neg (show ¬ nI 112 = nI 100 by decide), if_neg (show ¬ nI 112 = nI 101 by decide), if_neg (show ¬ nI 112 = nI 102 by decide), if_neg (show ¬ nI 112 = nI 103 by decide), if_neg (show ¬ nI 112 = nI 104 by decide), if_neg (show ¬ nI 112 = nI 105 by decide), if_neg (show ¬ nI 112 = nI 106 by decide), if_neg (show ¬ nI 112 = nI 107 by decide), if_neg (show ¬ nI 112 = nI 108 by decide), if_neg (show ¬ nI 112 = nI 109 by decide), if_neg (show ¬ nI 112 = nI 110 by decide), if_neg (show ¬ nI 112 = nI 111 by decide), if_pos (rfl : nI 112 = nI 112)]
    rw [mDw, if_neg (show ¬ nI 112 = nI 97 by decide), if_neg (show ¬ nI 112 = nI 98 by decide), if_neg (show ¬ nI 112 = nI 99 by decide), if_neg (show ¬ nI 112 = nI 100 by decide), if_neg (show ¬ nI 112 = nI 101 by decide), if_neg (show ¬ nI 112 = nI 102 by decide), if_neg (show ¬ nI 112 = nI 103 by decide), if_neg (show ¬ nI 112 = nI 104 by decide), if_neg (show ¬ nI 112 = nI 105 by decide), if_neg (show ¬ nI 112 = nI 106 by decide), if_neg (show ¬ nI 112 = nI 107 by decide), if_neg (show ¬ nI 112 = nI 108 by decide), if_neg (show ¬ nI 112 = nI 109 by decide), if_neg (show ¬ nI 112 = nI 110 by decide), if_neg (show ¬ nI 112 = nI 111 by decide), if_pos (rfl : nI 112 = nI 112)]
    exact C_pr h ha
  · rw [doV, if_neg (show ¬ nI 115 = nI 97 by decide), if_neg (show ¬ nI 115 = nI 98 by decide), if_neg (show ¬ nI 115 = nI 99 by decide), if_neg (show ¬ nI 115 = nI 100 by decide), if_neg (show ¬ nI 115 = nI 101 by decide), if_neg (show ¬ nI 115 = nI 102 by decide), if_neg (show ¬ nI 115 = nI 103 by decide), if_neg (show ¬ nI 115 = nI 104 by decide), if_neg (show ¬ nI 115 = nI 105 by decide), if_neg (show ¬ nI 115 = nI 106 by decide), if_neg (show ¬ nI 115 = nI 107 by decide), if_neg (show ¬ nI 115 = nI 108 by decide), if_neg (show ¬ nI 115 = nI 109 by decide), if_neg (show ¬ nI 115 = nI 110 by decide), if_neg (show ¬ nI 115 = nI 111 by decide), if_neg (show ¬ nI 115 = nI 112 by decide), if_neg (show ¬ nI 115 = nI 113 by decide), if_neg (show ¬ nI 115 = nI 114 by decide), if_pos (rfl : nI 115 = nI 115)]
    rw [mDv, if_neg (show ¬ nI 115 = nI 97 by decide), if_neg (show ¬ nI 115 = nI 98 by decide), if_neg (show ¬ nI 115 = nI 99 by decide), if_neg (show ¬ nI 115 = nI 100 by decide), if_neg (show ¬ nI 115 = nI 101 by decide), if_neg (show ¬ nI 115 = nI 102 by decide), if_neg (show ¬ nI 115 = nI 103 by decide), if_neg (show ¬ nI 115 = nI 104 by decide), if_neg (show ¬ nI 115 = nI 105 by decide), if_neg (show ¬ nI 115 = nI 106 by decide), if_neg (show ¬ nI 115 = nI 107 by decide), if_neg (show ¬ nI 115 = nI 108 by decide), if_neg (show ¬ nI 115 = nI 109 by decide), if_neg (show ¬ nI 115 = nI 110 by decide), if_neg (show ¬ nI 115 = nI 111 by decide), if_neg (show ¬ nI 115 = nI 112 by decide), if_neg (show ¬ nI 115 = nI 113 by decide), if_neg (show ¬ nI 115 = nI 114 by decide), if_pos (rfl : nI 115 = nI 115)]
    rw [doW, if_neg (show ¬ nI 115 = nI 97 by decide), if_neg (show ¬ nI 115 = nI 98 by decide), if_neg (show ¬ nI 115 = nI 99 by decide), if_neg (show ¬ nI 115 = nI 100 by decide), if_neg (show ¬ nI 115 = nI 101 by decide), if_neg (show ¬ nI 115 = nI 102 by decide), if_neg (show ¬ nI 115 = nI 103 by decide), if_neg (show ¬ nI 115 = nI 104 by decide), if_neg (show ¬ nI 115 = nI 105 by decide), if_neg (show ¬ nI 115 = nI 106 by decide), if_neg (show ¬ nI 115 = nI 107 by decide), if_neg (show ¬ nI 115 = nI 108 by decide), if_neg (show ¬ nI 115 = nI 109 by decide), if_neg (show ¬ nI 115 = nI 110 by decide), if_neg (show ¬ nI 115 = nI 111 by decide), if_neg (show ¬ nI 115 = nI 112 by decide), if_neg (show ¬ nI 115 = nI 113 by decide), if_neg (show ¬ nI 115 = nI 114 by decide), if_pos (rfl : nI 115 = nI 115)]
    rw [mDw, if_neg (show ¬ nI 115 = nI 97 by decide), if_neg (show ¬ nI 115 = nI 98 by decide), if_neg (show ¬ nI 115 = nI 99 by decide), if_neg (show ¬ nI 115 = nI 100 by decide), if_neg (show ¬ nI 115 = nI 101 by decide), if_neg (show ¬ nI 115 = nI 102 by decide), if_neg (show ¬ nI 115 = nI 103 by decide), if_neg (show ¬ nI 115 = nI 104 by decide), if_neg (show ¬ nI 115 = nI 105 by decide), if_neg (show ¬ nI 115 = nI 106 by decide), if_neg (show ¬ nI 115 = nI 107 by decide), if_neg (show ¬ nI 115 = nI 108 by decide), if_neg (show ¬ nI 115 = nI 109 by decide), if_neg (show ¬ nI 115 = nI 110 by decide), if_neg (show ¬ nI 115 = nI 111 by decide), if_neg (show ¬ nI 115 = nI 112 by decide), if_neg (show ¬ nI 115 = nI 113 by decide), if_neg (show ¬ nI 115 = nI 114 by decide), if_pos (rfl : nI 115 = nI 115)]
    obtain ⟨e1, e2, e3, e4⟩ := n1 rfl
    rw [e1, e2, e3, e4]; exact C_sh h ha _ _ _ _ _
  · rw [doV, if_neg (show ¬ nI 119 = nI 97 by decide), if_neg (show ¬ nI 119 = nI 98 by decide), if_neg (show ¬ nI 119 = nI 99 by decide), if_neg (show ¬ nI 119 = nI 100 by decide), if_neg (show ¬ nI 119 = nI 101 by decide), if_neg (show ¬ nI 119 = nI 102 by decide), if_neg (show ¬ nI 119 = nI 103 by decide), if_neg (show ¬ nI 119 = nI 104 by decide), if_neg (show ¬ nI 119 = nI 105 by decide), if_neg (show ¬ nI 119 = nI 106 by decide), if_neg (show ¬ nI 119 = nI 107 by decide), if_neg (show ¬ nI 119 = nI 108 by decide), if_neg (show ¬ nI 119 = nI 109 by decide), if_neg (show ¬ nI 119 = nI 110 by decide), if_neg (show ¬ nI 119 = nI 111 by decide), if_neg (show ¬ nI 119 = nI 112 by decide), if_neg (show ¬ nI 119 = nI 113 by decide), if_neg (show ¬ nI 119 = nI 114 by decide), if_neg (show ¬ nI 119 = nI 115 by decide), if_neg (show ¬ nI 119 = nI 116 by decide), if_neg (show ¬ nI 119 = nI 117 by decide), if_neg (show ¬ nI 119 = nI 118 by decide), if_pos (rfl : nI 119 = nI 119)]
    rw [mDv, if_neg (show ¬ nI 119 = nI 97 by decide), if_neg (show ¬ nI 119 = nI 98 by decide), if_neg (show ¬ nI 119 = nI 99 by decide), if_neg (show ¬ nI 119 = nI 100 by decide), if_neg (show ¬ nI 119 = nI 101 by decide), if_neg (show ¬ nI 119 = nI 102 by decide), if_neg (show ¬ nI 119 = nI 103 by decide), if_neg (show ¬ nI 119 = nI 104 by decide), if_neg (show ¬ nI 119 = nI 105 by decide), if_neg (show ¬ nI 119 = nI 106 by decide), if_neg (show ¬ nI 119 = nI 107 by decide), if_neg (show ¬ nI 119 = nI 108 by decide), if_neg (show ¬ nI 119 = nI 109 by decide), if_neg (show ¬ nI 119 = nI 110 by decide), if_neg (show ¬ nI 119 = nI 111 by decide), if_neg (show ¬ nI 119 = nI 112 by decide), if_neg (show ¬ nI 119 = nI 113 by decide), if_neg (show ¬ nI 119 = nI 114 by decide), if_neg (show ¬ nI 119 = nI 115 by decide), if_neg (show ¬ nI 119 = nI 116 by decide), if_neg (show ¬ nI 119 = nI 117 by decide), if_neg (show ¬ nI 119 = nI 118 by decide), if_pos (rfl : nI 119 = nI 119)]
    rw [doW, if_neg (show ¬ nI 119 = nI 97 by decide), if_neg (show ¬ nI 119 = nI 98 by decide), if_neg (show ¬ nI 119 = nI 99 by decide), if_neg (show ¬ nI 119 = nI 100 by decide), if_neg (show ¬ nI 119 = nI 101 by decide), if_neg (show ¬ nI 119 = nI 102 by decide), if_neg (show ¬ nI 119 = nI 103 by decide), if_neg (show ¬ nI 119 = nI 104 by decide), if_neg (show ¬ nI 119 = nI 105 by decide), if_neg (show ¬ nI 119 = nI 106 by decide), if_neg (show ¬ nI 119 = nI 107 by decide), if_neg (show ¬ nI 119 = nI 108 by decide), if_neg (show ¬ nI 119 = nI 109 by decide), if_neg (show ¬ nI 119 = nI 110 by decide), if_neg (show ¬ nI 119 = nI 111 by decide), if_neg (show ¬ nI 119 = nI 112 by decide), if_neg (show ¬ nI 119 = nI 113 by decide), if_neg (show ¬ nI 119 = nI 114 by decide), if_neg (show ¬ nI 119 = nI 115 by decide), if_neg (show ¬ nI 119 = nI 116 by decide), if_neg (show ¬ nI 119 = nI 117 by decide), if_neg (show ¬ nI 119 = nI 118 by decide), if_pos (rfl : nI 119 = nI 119)]
    rw [mDw, if_neg (show ¬ nI 119 = nI 97 by decide), if_neg (show ¬ nI 119 = nI 98 by decide), if_neg (show ¬ nI 119 = nI 99 by decide), if_neg (show ¬ nI 119 = nI 100 by decide), if_neg (show ¬ nI 119 = nI 101 by decide), if_neg (show ¬ nI 119 = nI 102 by decide), if_neg (show ¬ nI 119 = nI 103 by decide), if_neg (show ¬ nI 119 = nI 104 by decide), if_neg (show ¬ nI 119 = nI 105 by decide), if_neg (show ¬ nI 119 = nI 106 by decide), if_neg (show ¬ nI 119 = nI 107 by decide), if_neg (show ¬ nI 119 = nI 108 by decide), if_neg (show ¬ nI 119 = nI 109 by decide), if_neg (show ¬ nI 119 = nI 110 by decide), if_neg (show ¬ nI 119 = nI 111 by decide), if_neg (show ¬ nI 119 = nI 112 by decide), if_neg (show ¬ nI 119 = nI 113 by decide), if_neg (show ¬ nI 119 = nI 114 by decide), if_neg (show ¬ nI 119 = nI 115 by decide), if_neg (show ¬ nI 119 = nI 116 by decide), if_neg (show ¬ nI 119 = nI 117 by decide), if_neg (show ¬ nI 119 = nI 118 by decide), if_pos (rfl : nI 119 = nI 119)]
    obtain ⟨e1, e2, e3, e4⟩ := n3 rfl
    by_cases c : mi = 0
    · rw [if_pos c, if_pos c, e1, e2, e3 c]; exact C_wi h ha _ _ _
    · rw [if_neg c, if_neg c, e1, e2, e4 c]; exact C_wi h ha _ _ _
/-- the orders of a text without a fault: the place, the numbers, and what both hold -/
def CInv (gt t : Nat → Int32) (L : Nat) (σ : SX) (τ : MS) (K : Nat) (f g : Nat → Int32) (k : Nat) : Prop :=
  (∀ j : Nat, j < k → ¬ coK t L σ f j = 0) ∧ (∀ j : Nat, j < k → ¬ mcE gt L τ g j = 0) ∧ ¬ mcB gt L τ g k = 0 ∧ mcM gt L τ g k = nI k ∧ Ok (coG t L σ f k) (mcG gt L τ g k) ∧ (k ≤ K → OrdOk gt L (mcS gt L τ k).1 (mcS gt L τ k).2.2 (foX t L σ k)) ∧ (k = K + 1 → (foX t L σ k).1 = 0)
/-- a text without a fault: K orders, each with its semicolon, and one that ends it -/
def Well (gt : Nat → Int32) (L K : Nat) (τ : MS) : Prop :=
  K ≤ 40 ∧ (∀ k : Nat, k ≤ K → ¬ mRo gt L (mcS gt L τ k).1 (mcS gt L τ k).2.2 = 0 ∧ (mcS gt L τ k).1 < L) ∧ (∀ k : Nat, k < K → mCd gt L (mRoA gt L (mcS gt L τ k).1 (mcS gt L τ k).2.2) = nI 59) ∧ mRoA gt L (mcS gt L τ K).1 (mcS gt L τ K).2.2 = L
theorem Well_of {t gt : Nat → Int32} {L : Nat} {τ τ' : MS} (T : TX L t gt) (h0 : τ.1 = 0) (h0' : τ'.1 = 0) (hf : mFV gt L τ = -6) : ∃ K, Well gt L K τ' := by
  have h8 := T.1
  obtain ⟨hall, hz, hK⟩ := mFN_i (gt := gt) T h0
  obtain ⟨i1, i2⟩ := mFs_i (gt := gt) (L := L) h0 _ hall
  generalize hKe : mFN gt L τ = K at hall hz hK i1 i2
  have hA : mRoA gt L (mFs gt L τ K).1 (mFs gt L τ K).2.2 ≤ L := mRoA_le i2
  have hne : ∀ a : Nat, a ≤ 80 → ¬ nI a = -6 := fun a ha z => absurd (congrArg Int32.toInt z) (by rw [nI_toInt (by omega)]; show ¬ (a : Int) = -6; omega)
  by_cases c1 : mRo gt L (mFs gt L τ K).1 (mFs gt L τ K).2.2 = 0
  · rw [(mF_a hKe c1).1] at hf; exact absurd hf (hne _ (by omega))
  have c2 : mRoA gt L (mFs gt L τ K).1 (mFs gt L τ K).2.2 = L := by
    rcases Classical.em (mRoA gt L (mFs gt L τ K).1 (mFs gt L τ K).2.2 = L) with c2 | c2
    · exact c2
    · rw [(mF_c hKe c1 c2).1] at hf; exact absurd hf (hne _ (by omega))
  have pos : ∀ k, k ≤ K → (mcS gt L τ' k).1 = (mFs gt L τ k).1 := by
    intro k
    induction k with
    | zero => intro _; rw [mcS_0, mFs_0, h0, h0']
    | succ k ih =>
      intro hk
      rw [mcS1, mFs_p (hall k (by omega)), ih (by omega), mRoA_g gt L _ (mcS gt L τ' k).2.2 (mFs gt L τ k).2.2]
  refine ⟨K, hK, fun k hk => ?_, fun k hk => ?_, ?_⟩
  · obtain ⟨j1, j2⟩ := mFs_i (gt := gt) (L := L) h0 k (fun j hj => hall j (by omega))
    have hr : ¬ mRo gt L (mFs gt L τ k).1 (mFs gt L τ k).2.2 = 0 := by
      rcases Nat.lt_or_ge k K with e | e
      · exact (mFk_i (hall k e)).1
      · rw [show k = K by omega]; exact c1
    have hl := mRo_lt hr
    have hle : mRoA gt L (mFs gt L τ k).1 (mFs gt L τ k).2.2 ≤ L := mRoA_le j2
    rw [pos k hk]
    refine ⟨?_, by omega⟩
    rw [mRo_g gt L _ (mcS gt L τ' k).2.2 (mFs gt L τ k).2.2]; exact hr
  · rw [pos k (by omega), mRoA_g gt L _ (mcS gt L τ' k).2.2 (mFs gt L τ k).2.2]; exact (mFk_i (hall k hk)).2.2
  · rw [pos K (Nat.le_refl K), mRoA_g gt L _ (mcS gt L τ' K).2.2 (mFs gt L τ K).2.2]; exact c2
theorem carry_run {t gt : Nat → Int32} {L K : Nat} {σ : SX} {τ : MS} (T : TX L t gt) (W : Well gt L K τ) : ∀ d k, k + d = K + 1 → CInv gt t L σ τ K f g k → nI (coN t L σ f) = mcM gt L τ g (mcN gt L τ g) ∧ coN t L σ f ≤ 41 ∧ Ok (coW t L σ f) (mcG gt L τ g (mcN gt L τ g))
  | 0, k, hk, I => by
    obtain ⟨a1, a2, a3, a4, a5, a6, a7⟩ := I
    obtain ⟨w1, w2, w3, w4⟩ := W
    have e : k = K + 1 := by omega
    have f1 := a7 e
    have eN : coN t L σ f = k := coN_at a1 (coK_0 f1) (by omega)
    have hpos : L ≤ (mcS gt L τ k).1 := by rw [e, mcS1, w4]; omega
    have mN : mcN gt L τ g = k := mcN_at a2 (mcE_b a3 hpos) (by omega)
    rw [mN, eN, a4, coW, eN, if_pos (by omega), if_pos f1]
    exact ⟨rfl, by omega, a5⟩
  | d + 1, k, hk, I => by
    obtain ⟨a1, a2, a3, a4, a5, a6, a7⟩ := I
    have W0 := W
    obtain ⟨w1, w2, w3, w4⟩ := W
    obtain ⟨r1, r2⟩ := w2 k (by omega)
    have O := a6 (by omega)
    have f1 : ¬ (foX t L σ k).1 = 0 := fun z => r1 (O.1.mp z)
    obtain ⟨n, rel, ag⟩ := a5
    have hn := R_n rel
    obtain ⟨okl, num⟩ := O.2.2.2 r1
    have D := D_ok rel ag okl num
    have en : ix (coG t L σ f k 12) = n := by rw [R_12 rel, ix_nI (by omega)]
    have em : ix (mcG gt L τ g k 4) = n := by rw [R_4 rel, ix_nI (by omega)]
    have le_e : (foX t L σ k).2.2.2.1 = mCd gt L (mcS gt L τ k).1 := O.2.2.1
    have eV : coA t L σ f k = mcA gt L τ g k := by
      rw [coA, mcA, en, em, le_e, mRoS_e]; exact D.1
    have eW : Ok (coG t L σ f (k + 1)) (mcG gt L τ g (k + 1)) := by
      rw [coG_s, mcG_n r1, en, em, le_e, mRoS_e]; exact D.2
    have nE : ¬ mcE gt L τ g k = 0 := mcE_n a3 (by omega)
    by_cases c : coA t L σ f k < 0
    · have eN : coN t L σ f = k := coN_at a1 (coK_1 f1 c) (by omega)
      have mB : mcB gt L τ g (k + 1) = nI 0 := mcB_a r1 (by rw [← eV]; exact c)
      have mN : mcN gt L τ g = k + 1 := mcN_at (lt_s a2 nE) (mcE_a (mB.trans nI_0)) (by omega)
      rw [mN, eN, mcM_s, mB, a4, coW, eN, if_pos (by omega), if_neg f1, nI_add]
      exact ⟨rfl, by omega, eW⟩
    · have mB : mcB gt L τ g (k + 1) = nI 1 := mcB_n r1 (by rw [← eV]; exact c)
      refine carry_run T W0 d (k + 1) (by omega) ⟨lt_s a1 (coK_n f1 c), lt_s a2 nE, by rw [mB]; exact one_ne, by rw [mcM_s, a4, mB, nI_add], eW, fun h => ?_, fun h => ?_⟩
      · rw [mcS1]; exact foX_n T O (by omega) r1 (w3 k (by omega)) _
      · have ek : k = K := by omega
        subst ek
        exact (foX_f T O (by omega) r1 (by rw [w4, mCd_0 (Nat.le_refl L)]; decide)).1
theorem C_ro {o z sn : Nat} {h9 th : Nat → Int32} {L : Nat} {t gt gu : Nat → Int32} {b le co mi sg : Int32} {u : Nat → Int32} (fb gp : Nat → Int32) (H : Hist o z h9 sn th) (T : TX L t gt) (h : Rel n f g) (ha : Ag g) :
    crV t L (nI 0, b, le, co, mi, u) f = crmV gt L sg gu g ∧ Ok (crF t L (nI 0, b, le, co, mi, u) f) (crmG gt L sg gu g) ∧ crL t L (nI 0, b, le, co, mi, u) = crmL gt L sg gu ∧ TX (crL t L (nI 0, b, le, co, mi, u)) t gt ∧
    Hist (recO (crV t L (nI 0, b, le, co, mi, u) f) o z) (recZ (crV t L (nI 0, b, le, co, mi, u) f) z) (recH (crV t L (nI 0, b, le, co, mi, u) f) (cp293 f fb) h9 o z) (crmN gt L sg gu sn) (crmH gt L sg gu g gp th sn) := by
  have hO : Ok f g := ⟨n, h, ha⟩
  have hF : ftV t L (nI 0, b, le, co, mi, u) = mFV gt L (0, sg, gu) := V_fault T rfl rfl
  by_cases c : mFV gt L (0, sg, gu) = -6
  · obtain ⟨K, W⟩ := Well_of (τ' := mC0 gt L sg gu) T rfl rfl c
    have I : CInv gt t L (crS t L (nI 0, b, le, co, mi, u)) (mC0 gt L sg gu) K f g 0 := by
      refine ⟨fun j hj => absurd hj (Nat.not_lt_zero j), fun j hj => absurd hj (Nat.not_lt_zero j), by rw [mcB_0]; exact one_ne, mcM_0 _ _ _ _, by rw [coG_0, mcG_0]; exact hO, fun _ => ?_, fun hz => absurd hz (by omega)⟩
      rw [mcS_0, mC0_1]; exact foX_0 T rfl _
    obtain ⟨r1, r2, r3⟩ := carry_run T W (K + 1) 0 (by omega) I
    have v1 : crV t L (nI 0, b, le, co, mi, u) f = nI (coN t L (crS t L (nI 0, b, le, co, mi, u)) f) := by rw [crV, hF, if_pos c]
    have q : ¬ nI (coN t L (crS t L (nI 0, b, le, co, mi, u)) f) < 0 := nI_pos (by omega)
    refine ⟨?_, ?_, ?_, ?_, ?_⟩
    · rw [v1, r1, crmV, if_pos c]
    · rw [crF, hF, if_pos c, crmG, if_pos c]; exact r3
    · rw [crL, hF, if_pos c, crmL, if_pos c]
    · rw [crL, hF, if_pos c]; exact ⟨by decide, fun k hk => absurd hk (Nat.not_lt_zero k)⟩
    · rw [v1, recO, if_neg q, recZ, if_neg q, recH, if_neg q, crmN, if_pos c, crmH, if_pos c]
      exact Hist_push H hO (fun k hk => cpy_in f fb hk) (fun k hk => cpy_in g gp hk)
  · have v1 : crV t L (nI 0, b, le, co, mi, u) f = -3 := by rw [crV, hF, if_neg c]
    have q : (-3 : Int32) < 0 := by decide
    refine ⟨?_, ?_, ?_, ?_, ?_⟩
    · rw [v1, crmV, if_neg c]
    · rw [crF, hF, if_neg c, crmG, if_neg c]; exact hO
    · rw [crL, hF, if_neg c, crmL, if_neg c]
    · rw [crL, hF, if_neg c]; exact T
    · rw [v1, recO, if_pos q, recZ, if_pos q, recH, if_pos q, crmN, if_neg c, crmH, if_neg c]; exact H
end
