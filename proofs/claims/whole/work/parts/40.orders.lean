/-! one order read, letter by letter -/
def Num (le co mi : Int32) (u gu : Nat → Int32) : Prop :=
  (le = nI 115 → u 0 = gu 0 ∧ u 1 = gu 1 ∧ u 2 = gu 2 ∧ u 3 = gu 3) ∧ (le = nI 108 → u 0 = gu 0 ∧ co = gu 1 ∧ u 1 = gu 2) ∧ (le = nI 119 → u 0 = gu 0 ∧ co = gu 1 ∧ (mi = 0 → u 1 = gu 2) ∧ (¬ mi = 0 → -(u 1) = gu 2)) ∧ (le = nI 109 → u 0 = gu 0 ∧ u 1 = gu 1) ∧ (le = nI 99 → u 0 = gu 0)
def okL (le : Int32) : Prop := ∃ k : Nat, k ∈ [97, 99, 107, 108, 109, 112, 115, 119] ∧ le = nI k
def OrdOk (gt : Nat → Int32) (L p : Nat) (gu : Nat → Int32) (r : NX) : Prop :=
  (r.1 = 0 ↔ mRo gt L p gu = 0) ∧ r.2.1 = nI (mRoA gt L p gu) ∧ r.2.2.2.1 = mCd gt L p ∧ (¬ mRo gt L p gu = 0 → okL (mCd gt L p) ∧ Num (mCd gt L p) r.2.2.2.2.1 r.2.2.2.2.2.1 r.2.2.2.2.2.2 (mRoU gt L p gu))
theorem nx1_e {L p : Nat} {t gt u : Nat → Int32} {co mi : Int32} (T : TX L t gt) (hp : p < 2 ^ 31) {c i : Nat} (h : mCd gt L p = nI c) (hi : fIx (nI c) = i) : nx1 t L (nI p) co mi u = nx2 t L i (nI c) (nI p, nI 0, co, mi, u) := by
  unfold nx1
  rw [he_e T hp, h, hi]
theorem oo_fail {gt gu w : Nat → Int32} {L p A : Nat} {r : NX} {x co mi le : Int32} (hr : r = (nI 0, nI A, x, le, co, mi, w)) (hl : mCd gt L p = le) (hv : mRo gt L p gu = 0) (hA : mRoA gt L p gu = A) : OrdOk gt L p gu r := by
  subst hr
  subst hl
  subst hA
  exact ⟨⟨fun _ => hv, fun _ => nI_0⟩, rfl, rfl, fun z => absurd hv z⟩
theorem one_ne : ¬ nI 1 = 0 := by decide
theorem oo_ok {gt gu w : Nat → Int32} {L p A : Nat} {r : NX} {x co mi le : Int32} (hr : r = (nI 1, nI A, x, le, co, mi, w)) (hl : mCd gt L p = le) (hk : okL le) (hv : ¬ mRo gt L p gu = 0) (hA : mRoA gt L p gu = A) (hN : Num le co mi w (mRoU gt L p gu)) : OrdOk gt L p gu r := by
  subst hr
  subst hl
  subst hA
  exact ⟨⟨fun z => absurd z one_ne, fun z => absurd z hv⟩, rfl, rfl, fun _ => ⟨hk, hN⟩⟩
theorem ord_115 {L p : Nat} {t gt gu u : Nat → Int32} {co mi : Int32} (T : TX L t gt) (h : mCd gt L p = nI 115) : OrdOk gt L p gu (nx1 t L (nI p) co mi u) := by
  have h8 := T.1
  have hl : p < L := mCd_lt (by rw [h]; decide)
  have hA0 : p + 1 ≤ L := hl
  have a0 : ¬ mTk gt L p (nI 115) = 0 := by rw [mTk, if_pos h]; decide
  have b0 : mTkA gt L p (nI 115) = p + 1 := by rw [mTkA, if_pos h]
  have hx : cl 0 0 8 = [nI 115, nI 78, nI 58, nI 78, nI 44, nI 78, nI 44, nI 78] := by decide
  have hlen : lenS.getD 0 0 = 8 := rfl
  have e9 := nx1_e (i := 0) (u := u) (co := co) (mi := mi) T (show p < 2 ^ 31 by omega) h (by decide)
  have e0 := rl_lit (xs := [nI 78, nI 58, nI 78, nI 44, nI 78, nI 44, nI 78]) (b := nI 0) (co := co) (mi := mi) (u := u) T (show p < 2 ^ 30 by omega) (show ¬ nI 115 = nI 67 by decide) (show ¬ nI 115 = nI 78 by decide) (show ¬ nI 115 = nI 83 by decide)
  rw [if_neg a0, b0] at e0
  obtain ⟨b9_1, u9_1, e1⟩ := rl_N (gu := gu) (xs := [nI 58, nI 78, nI 44, nI 78, nI 44, nI 78]) (co := co) (mi := mi) (u := u) T (show (p + 1) < 2 ^ 30 by have := hA0; omega) (show 0 < 4 by decide) 0
  have hA1 : (mRnA gt L (p + 1) gu 0) ≤ L := mRnA_le hA0
  by_cases c1 : mRn gt L (p + 1) gu 0 = 0
  · exact oo_fail (A := (mRnA gt L (p + 1) gu 0)) (e9.trans (nx2_cl hlen (by decide) hx (r := (nI 0, (nI (mRnA gt L (p + 1) gu 0), b9_1, co, mi, u9_1))) (by rw [e0, e1, if_pos c1]))) h (by rw [mRo_115 h, if_pos c1]; exact nI_0) (by rw [mRoA_115 h, if_pos c1])
  have e2 := rl_lit (x := nI 58) (xs := [nI 78, nI 44, nI 78, nI 44, nI 78]) (b := nI 1) (co := co) (mi := mi) (u := (upd u 0 (mNv gt L (p + 1)))) T (show (mRnA gt L (p + 1) gu 0) < 2 ^ 30 by have := hA1; omega) (by decide) (by decide) (by decide)
  have hA2 : (mTkA gt L (mRnA gt L (p + 1) gu 0) (nI 58)) ≤ L := mTkA_le hA1 (by decide)
  by_cases c2 : mTk gt L (mRnA gt L (p + 1) gu 0) (nI 58) = 0
  · exact oo_fail (A := (mTkA gt L (mRnA gt L (p + 1) gu 0) (nI 58))) (e9.trans (nx2_cl hlen (by decide) hx (r := (nI 0, (nI (mTkA gt L (mRnA gt L (p + 1) gu 0) (nI 58)), nI 1, co, mi, (upd u 0 (mNv gt L (p + 1)))))) (by rw [e0, e1, if_neg c1, e2, if_pos c2]))) h (by rw [mRo_115 h, if_neg c1, if_pos c2]; exact nI_0) (by rw [mRoA_115 h, if_neg c1, if_pos c2])
  obtain ⟨b9_3, u9_3, e3⟩ := rl_N (gu := (mRnU gt L (p + 1) gu 0)) (xs := [nI 44, nI 78, nI 44, nI 78]) (co := co) (mi := mi) (u := (upd u 0 (mNv gt L (p + 1)))) T (show (mTkA gt L (mRnA gt L (p + 1) gu 0) (nI 58)) < 2 ^ 30 by have := hA2; omega) (show 1 < 4 by decide) 1
  have hA3 : (mRnA gt L (mTkA gt L (mRnA gt L (p + 1) gu 0) (nI 58)) (mRnU gt L (p + 1) gu 0) 1) ≤ L := mRnA_le hA2
  by_cases c3 : mRn gt L (mTkA gt L (mRnA gt L (p + 1) gu 0) (nI 58)) (mRnU gt L (p + 1) gu 0) 1 = 0
  · exact oo_fail (A := (mRnA gt L (mTkA gt L (mRnA gt L (p + 1) gu 0) (nI 58)) (mRnU gt L (p + 1) gu 0) 1)) (e9.trans (nx2_cl hlen (by decide) hx (r := (nI 0, (nI (mRnA gt L (mTkA gt L (mRnA gt L (p + 1) gu 0) (nI 58)) (mRnU gt L (p + 1) gu 0) 1), b9_3, co, mi, u9_3))) (by rw [e0, e1, if_neg c1, e2, if_neg c2, e3, if_pos c3]))) h (by rw [mRo_115 h, if_neg c1, if_neg c2, if_pos c3]; exact nI_0) (by rw [mRoA_115 h, if_neg c1, if_neg c2, if_pos c3])
  have e4 := rl_lit (x := nI 44) (xs := [nI 78, nI 44, nI 78]) (b := nI 2) (co := co) (mi := mi) (u := (upd (upd u 0 (mNv gt L (p + 1))) 1 (mNv gt L (mTkA gt L (mRnA gt L (p + 1) gu 0) (nI 58))))) T (show (mRnA gt L (mTkA gt L (mRnA gt L (p + 1) gu 0) (nI 58)) (mRnU gt L (p + 1) gu 0) 1) < 2 ^ 30 by have := hA3; omega) (by decide) (by decide) (by decide)
  have hA4 : (mTkA gt L (mRnA gt L (mTkA gt L (mRnA gt L (p + 1) gu 0) (nI 58)) (mRnU gt L (p + 1) gu 0) 1) (nI 44)) ≤ L := mTkA_le hA3 (by decide)
  by_cases c4 : mTk gt L (mRnA gt L (mTkA gt L (mRnA gt L (p + 1) gu 0) (nI 58)) (mRnU gt L (p + 1) gu 0) 1) (nI 44) = 0
  · exact oo_fail (A := (mTkA gt L (mRnA gt L (mTkA gt L (mRnA gt L (p + 1) gu 0) (nI 58)) (mRnU gt L (p + 1) gu 0) 1) (nI 44))) (e9.trans (nx2_cl hlen (by decide) hx (r := (nI 0, (nI (mTkA gt L (mRnA gt L (mTkA gt L (mRnA gt L (p + 1) gu 0) (nI 58)) (mRnU gt L (p + 1) gu 0) 1) (nI 44)), nI 2, co, mi, (upd (upd u 0 (mNv gt L (p + 1))) 1 (mNv gt L (mTkA gt L (mRnA gt L (p + 1) gu 0) (nI 58))))))) (by rw [e0, e1, if_neg c1, e2, if_neg c2, e3, if_neg c3, e4, if_pos c4]))) h (by rw [mRo_115 h, if_neg c1, if_neg c2, if_neg c3, if_pos c4]; exact nI_0) (by rw [mRoA_115 h, if_neg c1, if_neg c2, if_neg c3, if_pos c4])
  obtain ⟨b9_5, u9_5, e5⟩ := rl_N (gu := (mRnU gt L (mTkA gt L (mRnA gt L (p + 1) gu 0) (nI 58)) (mRnU gt L (p + 1) gu 0) 1)) (xs := [nI 44, nI 78]) (co := co) (mi := mi) (u := (upd (upd u 0 (mNv gt L (p + 1))) 1 (mNv gt L (mTkA gt L (mRnA gt L (p + 1) gu 0) (nI 58))))) T (show (mTkA gt L (mRnA gt L (mTkA gt L (mRnA gt L (p + 1) gu 0) (nI 58)) (mRnU gt L (p + 1) gu 0) 1) (nI 44)) < 2 ^ 30 by have := hA4; omega) (show 2 < 4 by decide) 2
  have hA5 : (mRnA gt L (mTkA gt L (mRnA gt L (mTkA gt L (mRnA gt L (p + 1) gu 0) (nI 58)) (mRnU gt L (p + 1) gu 0) 1) (nI 44)) (mRnU gt L (mTkA gt L (mRnA gt L (p + 1) gu 0) (nI 58)) (mRnU gt L (p + 1) gu 0) 1) 2) ≤ L := mRnA_le hA4
  by_cases c5 : mRn gt L (mTkA gt L (mRnA gt L (mTkA gt L (mRnA gt L (p + 1) gu 0) (nI 58)) (mRnU gt L (p + 1) gu 0) 1) (nI 44)) (mRnU gt L (mTkA gt L (mRnA gt L (p + 1) gu 0) (nI 58)) (mRnU gt L (p + 1) gu 0) 1) 2 = 0
  · exact oo_fail (A := (mRnA gt L (mTkA gt L (mRnA gt L (mTkA gt L (mRnA gt L (p + 1) gu 0) (nI 58)) (mRnU gt L (p + 1) gu 0) 1) (nI 44)) (mRnU gt L (mTkA gt L (mRnA gt L (p + 1) gu 0) (nI 58)) (mRnU gt L (p + 1) gu 0) 1) 2)) (e9.trans (nx2_cl hlen (by decide) hx (r := (nI 0, (nI (mRnA gt L (mTkA gt L (mRnA gt L (mTkA gt L (mRnA gt L (p + 1) gu 0) (nI 58)) (mRnU gt L (p + 1) gu 0) 1) (nI 44)) (mRnU gt L (mTkA gt L (mRnA gt L (p + 1) gu 0) (nI 58)) (mRnU gt L (p + 1) gu 0) 1) 2), b9_5, co, mi, u9_5))) (by rw [e0, e1, if_neg c1, e2, if_neg c2, e3, if_neg c3, e4, if_neg c4, e5, if_pos c5]))) h (by rw [mRo_115 h, if_neg c1, if_neg c2, if_neg c3, if_neg c4, if_pos c5]; exact nI_0) (by rw [mRoA_115 h, if_neg c1, if_neg c2, if_neg c3, if_neg c4, if_pos c5])
  have e6 := rl_lit (x := nI 44) (xs := [nI 78]) (b := nI 3) (co := co) (mi := mi) (u := (upd (upd (upd u 0 (mNv gt L (p + 1))) 1 (mNv gt L (mTkA gt L (mRnA gt L (p + 1) gu 0) (nI 58)))) 2 (mNv gt L (mTkA gt L (mRnA gt L (mTkA gt L (mRnA gt L (p + 1) gu 0) (nI 58)) (mRnU gt L (p + 1) gu 0) 1) (nI 44))))) T (show (mRnA gt L (mTkA gt L (mRnA gt L (mTkA gt L (mRnA gt L (p + 1) gu 0) (nI 58)) (mRnU gt L (p + 1) gu 0) 1) (nI 44)) (mRnU gt L (mTkA gt L (mRnA gt L (p + 1) gu 0) (nI 58)) (mRnU gt L (p + 1) gu 0) 1) 2) < 2 ^ 30 by have := hA5; omega) (by decide) (by decide) (by decide)
  have hA6 : (mTkA gt L (mRnA gt L (mTkA gt L (mRnA gt L (mTkA gt L (mRnA gt L (p + 1) gu 0) (nI 58)) (mRnU gt L (p + 1) gu 0) 1) (nI 44)) (mRnU gt L (mTkA gt L (mRnA gt L (p + 1) gu 0) (nI 58)) (mRnU gt L (p + 1) gu 0) 1) 2) (nI 44)) ≤ L := mTkA_le hA5 (by decide)
  by_cases c6 : mTk gt L (mRnA gt L (mTkA gt L (mRnA gt L (mTkA gt L (mRnA gt L (p + 1) gu 0) (nI 58)) (mRnU gt L (p + 1) gu 0) 1) (nI 44)) (mRnU gt L (mTkA gt L (mRnA gt L (p + 1) gu 0) (nI 58)) (mRnU gt L (p + 1) gu 0) 1) 2) (nI 44) = 0
  · exact oo_fail (A := (mTkA gt L (mRnA gt L (mTkA gt L (mRnA gt L (mTkA gt L (mRnA gt L (p + 1) gu 0) (nI 58)) (mRnU gt L (p + 1) gu 0) 1) (nI 44)) (mRnU gt L (mTkA gt L (mRnA gt L (p + 1) gu 0) (nI 58)) (mRnU gt L (p + 1) gu 0) 1) 2) (nI 44))) (e9.trans (nx2_cl hlen (by decide) hx (r := (nI 0, (nI (mTkA gt L (mRnA gt L (mTkA gt L (mRnA gt L (mTkA gt L (mRnA gt L (p + 1) gu 0) (nI 58)) (mRnU gt L (p + 1) gu 0) 1) (nI 44)) (mRnU gt L (mTkA gt L (mRnA gt L (p + 1) gu 0) (nI 58)) (mRnU gt L (p + 1) gu 0) 1) 2) (nI 44)), nI 3, co, mi, (upd (upd (upd u 0 (mNv gt L (p + 1))) 1 (mNv gt L (mTkA gt L (mRnA gt L (p + 1) gu 0) (nI 58)))) 2 (mNv gt L (mTkA gt L (mRnA gt L (mTkA gt L (mRnA gt L (p + 1) gu 0) (nI 58)) (mRnU gt L (p + 1) gu 0) 1) (nI 44))))))) (by rw [e0, e1, if_neg c1, e2, if_neg c2, e3, if_neg c3, e4, if_neg c4, e5, if_neg c5, e6, if_pos c6]))) h (by rw [mRo_115 h, if_neg c1, if_neg c2, if_neg c3, if_neg c4, if_neg c5, if_pos c6]; exact nI_0) (by rw [mRoA_115 h, if_neg c1, if_neg c2, if_neg c3, if_neg c4, if_neg c5, if_pos c6])
  obtain ⟨b9_7, u9_7, e7⟩ := rl_N (gu := (mRnU gt L (mTkA gt L (mRnA gt L (mTkA gt L (mRnA gt L (p + 1) gu 0) (nI 58)) (mRnU gt L (p + 1) gu 0) 1) (nI 44)) (mRnU gt L (mTkA gt L (mRnA gt L (p + 1) gu 0) (nI 58)) (mRnU gt L (p + 1) gu 0) 1) 2)) (xs := []) (co := co) (mi := mi) (u := (upd (upd (upd u 0 (mNv gt L (p + 1))) 1 (mNv gt L (mTkA gt L (mRnA gt L (p + 1) gu 0) (nI 58)))) 2 (mNv gt L (mTkA gt L (mRnA gt L (mTkA gt L (mRnA gt L (p + 1) gu 0) (nI 58)) (mRnU gt L (p + 1) gu 0) 1) (nI 44))))) T (show (mTkA gt L (mRnA gt L (mTkA gt L (mRnA gt L (mTkA gt L (mRnA gt L (p + 1) gu 0) (nI 58)) (mRnU gt L (p + 1) gu 0) 1) (nI 44)) (mRnU gt L (mTkA gt L (mRnA gt L (p + 1) gu 0) (nI 58)) (mRnU gt L (p + 1) gu 0) 1) 2) (nI 44)) < 2 ^ 30 by have := hA6; omega) (show 3 < 4 by decide) 3
  have hA7 : (mRnA gt L (mTkA gt L (mRnA gt L (mTkA gt L (mRnA gt L (mTkA gt L (mRnA gt L (p + 1) gu 0) (nI 58)) (mRnU gt L (p + 1) gu 0) 1) (nI 44)) (mRnU gt L (mTkA gt L (mRnA gt L (p + 1) gu 0) (nI 58)) (mRnU gt L (p + 1) gu 0) 1) 2) (nI 44)) (mRnU gt L (mTkA gt L (mRnA gt L (mTkA gt L (mRnA gt L (p + 1) gu 0) (nI 58)) (mRnU gt L (p + 1) gu 0) 1) (nI 44)) (mRnU gt L (mTkA gt L (mRnA gt L (p + 1) gu 0) (nI 58)) (mRnU gt L (p + 1) gu 0) 1) 2) 3) ≤ L := mRnA_le hA6
  by_cases c7 : mRn gt L (mTkA gt L (mRnA gt L (mTkA gt L (mRnA gt L (mTkA gt L (mRnA gt L (p + 1) gu 0) (nI 58)) (mRnU gt L (p + 1) gu 0) 1) (nI 44)) (mRnU gt L (mTkA gt L (mRnA gt L (p + 1) gu 0) (nI 58)) (mRnU gt L (p + 1) gu 0) 1) 2) (nI 44)) (mRnU gt L (mTkA gt L (mRnA gt L (mTkA gt L (mRnA gt L (p + 1) gu 0) (nI 58)) (mRnU gt L (p + 1) gu 0) 1) (nI 44)) (mRnU gt L (mTkA gt L (mRnA gt L (p + 1) gu 0) (nI 58)) (mRnU gt L (p + 1) gu 0) 1) 2) 3 = 0
  · exact oo_fail (A := (mRnA gt L (mTkA gt L (mRnA gt L (mTkA gt L (mRnA gt L (mTkA gt L (mRnA gt L (p + 1) gu 0) (nI 58)) (mRnU gt L (p + 1) gu 0) 1) (nI 44)) (mRnU gt L (mTkA gt L (mRnA gt L (p + 1) gu 0) (nI 58)) (mRnU gt L (p + 1) gu 0) 1) 2) (nI 44)) (mRnU gt L (mTkA gt L (mRnA gt L (mTkA gt L (mRnA gt L (p + 1) gu 0) (nI 58)) (mRnU gt L (p + 1) gu 0) 1) (nI 44)) (mRnU gt L (mTkA gt L (mRnA gt L (p + 1) gu 0) (nI 58)) (mRnU gt L (p + 1) gu 0) 1) 2) 3)) (e9.trans (nx2_cl hlen (by decide) hx (r := (nI 0, (nI (mRnA gt L (mTkA gt L (mRnA gt L (mTkA gt L (mRnA gt L (mTkA gt L (mRnA gt L (p + 1) gu 0) (nI 58)) (mRnU gt L (p + 1) gu 0) 1) (nI 44)) (mRnU gt L (mTkA gt L (mRnA gt L (p + 1) gu 0) (nI 58)) (mRnU gt L (p + 1) gu 0) 1) 2) (nI 44)) (mRnU gt L (mTkA gt L (mRnA gt L (mTkA gt L (mRnA gt L (p + 1) gu 0) (nI 58)) (mRnU gt L (p + 1) gu 0) 1) (nI 44)) (mRnU gt L (mTkA gt L (mRnA gt L (p + 1) gu 0) (nI 58)) (mRnU gt L (p + 1) gu 0) 1) 2) 3), b9_7, co, mi, u9_7))) (by rw [e0, e1, if_neg c1, e2, if_neg c2, e3, if_neg c3, e4, if_neg c4, e5, if_neg c5, e6, if_neg c6, e7, if_pos c7]))) h (by rw [mRo_115 h, if_neg c1, if_neg c2, if_neg c3, if_neg c4, if_neg c5, if_neg c6, if_pos c7]; exact nI_0) (by rw [mRoA_115 h, if_neg c1, if_neg c2, if_neg c3, if_neg c4, if_neg c5, if_neg c6])
  exact oo_ok (A := (mRnA gt L (mTkA gt L (mRnA gt L (mTkA gt L (mRnA gt L (mTkA gt L (mRnA gt L (p + 1) gu 0) (nI 58)) (mRnU gt L (p + 1) gu 0) 1) (nI 44)) (mRnU gt L (mTkA gt L (mRnA gt L (p + 1) gu 0) (nI 58)) (mRnU gt L (p + 1) gu 0) 1) 2) (nI 44)) (mRnU gt L (mTkA gt L (mRnA gt L (mTkA gt L (mRnA gt L (p + 1) gu 0) (nI 58)) (mRnU gt L (p + 1) gu 0) 1) (nI 44)) (mRnU gt L (mTkA gt L (mRnA gt L (p + 1) gu 0) (nI 58)) (mRnU gt L (p + 1) gu 0) 1) 2) 3)) (e9.trans (nx2_cl hlen (by decide) hx (r := (nI 1, (nI (mRnA gt L (mTkA gt L (mRnA gt L (mTkA gt L (mRnA gt L (mTkA gt L (mRnA gt L (p + 1) gu 0) (nI 58)) (mRnU gt L (p + 1) gu 0) 1) (nI 44)) (mRnU gt L (mTkA gt L (mRnA gt L (p + 1) gu 0) (nI 58)) (mRnU gt L (p + 1) gu 0) 1) 2) (nI 44)) (mRnU gt L (mTkA gt L (mRnA gt L (mTkA gt L (mRnA gt L (p + 1) gu 0) (nI 58)) (mRnU gt L (p + 1) gu 0) 1) (nI 44)) (mRnU gt L (mTkA gt L (mRnA gt L (p + 1) gu 0) (nI 58)) (mRnU gt L (p + 1) gu 0) 1) 2) 3), nI 4, co, mi, (upd (upd (upd (upd u 0 (mNv gt L (p + 1))) 1 (mNv gt L (mTkA gt L (mRnA gt L (p + 1) gu 0) (nI 58)))) 2 (mNv gt L (mTkA gt L (mRnA gt L (mTkA gt L (mRnA gt L (p + 1) gu 0) (nI 58)) (mRnU gt L (p + 1) gu 0) 1) (nI 44)))) 3 (mNv gt L (mTkA gt L (mRnA gt L (mTkA gt L (mRnA gt L (mTkA gt L (mRnA gt L (p + 1) gu 0) (nI 58)) (mRnU gt L (p + 1) gu 0) 1) (nI 44)) (mRnU gt L (mTkA gt L (mRnA gt L (p + 1) gu 0) (nI 58)) (mRnU gt L (p + 1) gu 0) 1) 2) (nI 44))))))) (by rw [e0, e1, if_neg c1, e2, if_neg c2, e3, if_neg c3, e4, if_neg c4, e5, if_neg c5, e6, if_neg c6, e7, if_neg c7]; rfl))) h ⟨115, by decide, rfl⟩ (by rw [mRo_115 h, if_neg c1, if_neg c2, if_neg c3, if_neg c4, if_neg c5, if_neg c6, if_neg c7]; exact one_ne) (by rw [mRoA_115 h, if_neg c1, if_neg c2, if_neg c3, if_neg c4, if_neg c5, if_neg c6]) (by rw [mRoU_115 h, if_neg c1, if_neg c2, if_neg c3, if_neg c4, if_neg c5, if_neg c6, mRnU_n c7, mRnU_n c5, mRnU_n c3, mRnU_n c1]; exact ⟨fun _ => ⟨by simp [upd], by simp [upd], by simp [upd], by simp [upd]⟩, fun e8 => absurd e8 (by decide), fun e8 => absurd e8 (by decide), fun e8 => absurd e8 (by decide), fun e8 => absurd e8 (by decide)⟩)
theorem ord_108 {L p : Nat} {t gt gu u : Nat → Int32} {co mi : Int32} (T : TX L t gt) (h : mCd gt L p = nI 108) : OrdOk gt L p gu (nx1 t L (nI p) co mi u) := by
  have h8 := T.1
  have hl : p < L := mCd_lt (by rw [h]; decide)
  have hA0 : p + 1 ≤ L := hl
  have a0 : ¬ mTk gt L p (nI 108) = 0 := by rw [mTk, if_pos h]; decide
  have b0 : mTkA gt L p (nI 108) = p + 1 := by rw [mTkA, if_pos h]
  have hx : cl 1 0 5 = [nI 108, nI 78, nI 67, nI 61, nI 78] := by decide
  have hlen : lenS.getD 1 0 = 5 := rfl
  have e9 := nx1_e (i := 1) (u := u) (co := co) (mi := mi) T (show p < 2 ^ 31 by omega) h (by decide)
  have e0 := rl_lit (xs := [nI 78, nI 67, nI 61, nI 78]) (b := nI 0) (co := co) (mi := mi) (u := u) T (show p < 2 ^ 30 by omega) (show ¬ nI 108 = nI 67 by decide) (show ¬ nI 108 = nI 78 by decide) (show ¬ nI 108 = nI 83 by decide)
  rw [if_neg a0, b0] at e0
  obtain ⟨b9_1, u9_1, e1⟩ := rl_N (gu := gu) (xs := [nI 67, nI 61, nI 78]) (co := co) (mi := mi) (u := u) T (show (p + 1) < 2 ^ 30 by have := hA0; omega) (show 0 < 4 by decide) 0
  have hA1 : (mRnA gt L (p + 1) gu 0) ≤ L := mRnA_le hA0
  by_cases c1 : mRn gt L (p + 1) gu 0 = 0
  · exact oo_fail (A := (mRnA gt L (p + 1) gu 0)) (e9.trans (nx2_cl hlen (by decide) hx (r := (nI 0, (nI (mRnA gt L (p + 1) gu 0), b9_1, co, mi, u9_1))) (by rw [e0, e1, if_pos c1]))) h (by rw [mRo_108 h, if_pos c1]; exact nI_0) (by rw [mRoA_108 h, if_pos c1])
  have e2 := rl_C (xs := [nI 61, nI 78]) (b := nI 1) (mi := mi) (u := (upd u 0 (mNv gt L (p + 1)))) (co := co) T (show (mRnA gt L (p + 1) gu 0) < 2 ^ 30 by have := hA1; omega) (mRnU gt L (p + 1) gu 0)
  have hA2 : (mRcA gt L (mRnA gt L (p + 1) gu 0) (mRnU gt L (p + 1) gu 0)) ≤ L := mRcA_le hA1
  by_cases c2 : mRc gt L (mRnA gt L (p + 1) gu 0) (mRnU gt L (p + 1) gu 0) = 0
  · exact oo_fail (A := (mRcA gt L (mRnA gt L (p + 1) gu 0) (mRnU gt L (p + 1) gu 0))) (e9.trans (nx2_cl hlen (by decide) hx (r := (nI 0, (nI (mRcA gt L (mRnA gt L (p + 1) gu 0) (mRnU gt L (p + 1) gu 0)), nI 1, cCoC t L (nI (mRnA gt L (p + 1) gu 0)), mi, (upd u 0 (mNv gt L (p + 1)))))) (by rw [e0, e1, if_neg c1, e2, if_pos c2]))) h (by rw [mRo_108 h, if_neg c1, if_pos c2]; exact nI_0) (by rw [mRoA_108 h, if_neg c1, if_pos c2])
  have e3 := rl_lit (x := nI 61) (xs := [nI 78]) (b := nI 1) (co := (cCoC t L (nI (mRnA gt L (p + 1) gu 0)))) (mi := mi) (u := (upd u 0 (mNv gt L (p + 1)))) T (show (mRcA gt L (mRnA gt L (p + 1) gu 0) (mRnU gt L (p + 1) gu 0)) < 2 ^ 30 by have := hA2; omega) (by decide) (by decide) (by decide)
  have hA3 : (mTkA gt L (mRcA gt L (mRnA gt L (p + 1) gu 0) (mRnU gt L (p + 1) gu 0)) (nI 61)) ≤ L := mTkA_le hA2 (by decide)
  by_cases c3 : mTk gt L (mRcA gt L (mRnA gt L (p + 1) gu 0) (mRnU gt L (p + 1) gu 0)) (nI 61) = 0
  · exact oo_fail (A := (mTkA gt L (mRcA gt L (mRnA gt L (p + 1) gu 0) (mRnU gt L (p + 1) gu 0)) (nI 61))) (e9.trans (nx2_cl hlen (by decide) hx (r := (nI 0, (nI (mTkA gt L (mRcA gt L (mRnA gt L (p + 1) gu 0) (mRnU gt L (p + 1) gu 0)) (nI 61)), nI 1, (cCoC t L (nI (mRnA gt L (p + 1) gu 0))), mi, (upd u 0 (mNv gt L (p + 1)))))) (by rw [e0, e1, if_neg c1, e2, if_neg c2, e3, if_pos c3]))) h (by rw [mRo_108 h, if_neg c1, if_neg c2, if_pos c3]; exact nI_0) (by rw [mRoA_108 h, if_neg c1, if_neg c2, if_pos c3])
  obtain ⟨b9_4, u9_4, e4⟩ := rl_N (gu := (mRcU gt L (mRnA gt L (p + 1) gu 0) (mRnU gt L (p + 1) gu 0))) (xs := []) (co := (cCoC t L (nI (mRnA gt L (p + 1) gu 0)))) (mi := mi) (u := (upd u 0 (mNv gt L (p + 1)))) T (show (mTkA gt L (mRcA gt L (mRnA gt L (p + 1) gu 0) (mRnU gt L (p + 1) gu 0)) (nI 61)) < 2 ^ 30 by have := hA3; omega) (show 1 < 4 by decide) 2
  have hA4 : (mRnA gt L (mTkA gt L (mRcA gt L (mRnA gt L (p + 1) gu 0) (mRnU gt L (p + 1) gu 0)) (nI 61)) (mRcU gt L (mRnA gt L (p + 1) gu 0) (mRnU gt L (p + 1) gu 0)) 2) ≤ L := mRnA_le hA3
  by_cases c4 : mRn gt L (mTkA gt L (mRcA gt L (mRnA gt L (p + 1) gu 0) (mRnU gt L (p + 1) gu 0)) (nI 61)) (mRcU gt L (mRnA gt L (p + 1) gu 0) (mRnU gt L (p + 1) gu 0)) 2 = 0
  · exact oo_fail (A := (mRnA gt L (mTkA gt L (mRcA gt L (mRnA gt L (p + 1) gu 0) (mRnU gt L (p + 1) gu 0)) (nI 61)) (mRcU gt L (mRnA gt L (p + 1) gu 0) (mRnU gt L (p + 1) gu 0)) 2)) (e9.trans (nx2_cl hlen (by decide) hx (r := (nI 0, (nI (mRnA gt L (mTkA gt L (mRcA gt L (mRnA gt L (p + 1) gu 0) (mRnU gt L (p + 1) gu 0)) (nI 61)) (mRcU gt L (mRnA gt L (p + 1) gu 0) (mRnU gt L (p + 1) gu 0)) 2), b9_4, (cCoC t L (nI (mRnA gt L (p + 1) gu 0))), mi, u9_4))) (by rw [e0, e1, if_neg c1, e2, if_neg c2, e3, if_neg c3, e4, if_pos c4]))) h (by rw [mRo_108 h, if_neg c1, if_neg c2, if_neg c3, if_pos c4]; exact nI_0) (by rw [mRoA_108 h, if_neg c1, if_neg c2, if_neg c3])
  exact oo_ok (A := (mRnA gt L (mTkA gt L (mRcA gt L (mRnA gt L (p + 1) gu 0) (mRnU gt L (p + 1) gu 0)) (nI 61)) (mRcU gt L (mRnA gt L (p + 1) gu 0) (mRnU gt L (p + 1) gu 0)) 2)) (e9.trans (nx2_cl hlen (by decide) hx (r := (nI 1, (nI (mRnA gt L (mTkA gt L (mRcA gt L (mRnA gt L (p + 1) gu 0) (mRnU gt L (p + 1) gu 0)) (nI 61)) (mRcU gt L (mRnA gt L (p + 1) gu 0) (mRnU gt L (p + 1) gu 0)) 2), nI 2, (cCoC t L (nI (mRnA gt L (p + 1) gu 0))), mi, (upd (upd u 0 (mNv gt L (p + 1))) 1 (mNv gt L (mTkA gt L (mRcA gt L (mRnA gt L (p + 1) gu 0) (mRnU gt L (p + 1) gu 0)) (nI 61))))))) (by rw [e0, e1, if_neg c1, e2, if_neg c2, e3, if_neg c3, e4, if_neg c4]; rfl))) h ⟨108, by decide, rfl⟩ (by rw [mRo_108 h, if_neg c1, if_neg c2, if_neg c3, if_neg c4]; exact one_ne) (by rw [mRoA_108 h, if_neg c1, if_neg c2, if_neg c3]) (by rw [mRoU_108 h, if_neg c1, if_neg c2, if_neg c3, mRnU_n c4, (co_e T (show (mRnA gt L (p + 1) gu 0) < 2 ^ 30 by have := hA1; omega)).2.2 c2, mRnU_n c1]; exact ⟨fun e8 => absurd e8 (by decide), fun _ => ⟨by simp [upd], by simp [upd], by simp [upd]⟩, fun e8 => absurd e8 (by decide), fun e8 => absurd e8 (by decide), fun e8 => absurd e8 (by decide)⟩)
theorem ord_109 {L p : Nat} {t gt gu u : Nat → Int32} {co mi : Int32} (T : TX L t gt) (h : mCd gt L p = nI 109) : OrdOk gt L p gu (nx1 t L (nI p) co mi u) := by
  have h8 := T.1
  have hl : p < L := mCd_lt (by rw [h]; decide)
  have hA0 : p + 1 ≤ L := hl
  have a0 : ¬ mTk gt L p (nI 109) = 0 := by rw [mTk, if_pos h]; decide
  have b0 : mTkA gt L p (nI 109) = p + 1 := by rw [mTkA, if_pos h]
  have hx : cl 3 0 4 = [nI 109, nI 78, nI 62, nI 78] := by decide
  have hlen : lenS.getD 3 0 = 4 := rfl
  have e9 := nx1_e (i := 3) (u := u) (co := co) (mi := mi) T (show p < 2 ^ 31 by omega) h (by decide)
  have e0 := rl_lit (xs := [nI 78, nI 62, nI 78]) (b := nI 0) (co := co) (mi := mi) (u := u) T (show p < 2 ^ 30 by omega) (show ¬ nI 109 = nI 67 by decide) (show ¬ nI 109 = nI 78 by decide) (show ¬ nI 109 = nI 83 by decide)
  rw [if_neg a0, b0] at e0
  obtain ⟨b9_1, u9_1, e1⟩ := rl_N (gu := gu) (xs := [nI 62, nI 78]) (co := co) (mi := mi) (u := u) T (show (p + 1) < 2 ^ 30 by have := hA0; omega) (show 0 < 4 by decide) 0
  have hA1 : (mRnA gt L (p + 1) gu 0) ≤ L := mRnA_le hA0
  by_cases c1 : mRn gt L (p + 1) gu 0 = 0
  · exact oo_fail (A := (mRnA gt L (p + 1) gu 0)) (e9.trans (nx2_cl hlen (by decide) hx (r := (nI 0, (nI (mRnA gt L (p + 1) gu 0), b9_1, co, mi, u9_1))) (by rw [e0, e1, if_pos c1]))) h (by rw [mRo_109 h, if_pos c1]; exact nI_0) (by rw [mRoA_109 h, if_pos c1])
  have e2 := rl_lit (x := nI 62) (xs := [nI 78]) (b := nI 1) (co := co) (mi := mi) (u := (upd u 0 (mNv gt L (p + 1)))) T (show (mRnA gt L (p + 1) gu 0) < 2 ^ 30 by have := hA1; omega) (by decide) (by decide) (by decide)
  have hA2 : (mTkA gt L (mRnA gt L (p + 1) gu 0) (nI 62)) ≤ L := mTkA_le hA1 (by decide)
  by_cases c2 : mTk gt L (mRnA gt L (p + 1) gu 0) (nI 62) = 0
  · exact oo_fail (A := (mTkA gt L (mRnA gt L (p + 1) gu 0) (nI 62))) (e9.trans (nx2_cl hlen (by decide) hx (r := (nI 0, (nI (mTkA gt L (mRnA gt L (p + 1) gu 0) (nI 62)), nI 1, co, mi, (upd u 0 (mNv gt L (p + 1)))))) (by rw [e0, e1, if_neg c1, e2, if_pos c2]))) h (by rw [mRo_109 h, if_neg c1, if_pos c2]; exact nI_0) (by rw [mRoA_109 h, if_neg c1, if_pos c2])
  obtain ⟨b9_3, u9_3, e3⟩ := rl_N (gu := (mRnU gt L (p + 1) gu 0)) (xs := []) (co := co) (mi := mi) (u := (upd u 0 (mNv gt L (p + 1)))) T (show (mTkA gt L (mRnA gt L (p + 1) gu 0) (nI 62)) < 2 ^ 30 by have := hA2; omega) (show 1 < 4 by decide) 1
  have hA3 : (mRnA gt L (mTkA gt L (mRnA gt L (p + 1) gu 0) (nI 62)) (mRnU gt L (p + 1) gu 0) 1) ≤ L := mRnA_le hA2
  by_cases c3 : mRn gt L (mTkA gt L (mRnA gt L (p + 1) gu 0) (nI 62)) (mRnU gt L (p + 1) gu 0) 1 = 0
  · exact oo_fail (A := (mRnA gt L (mTkA gt L (mRnA gt L (p + 1) gu 0) (nI 62)) (mRnU gt L (p + 1) gu 0) 1)) (e9.trans (nx2_cl hlen (by decide) hx (r := (nI 0, (nI (mRnA gt L (mTkA gt L (mRnA gt L (p + 1) gu 0) (nI 62)) (mRnU gt L (p + 1) gu 0) 1), b9_3, co, mi, u9_3))) (by rw [e0, e1, if_neg c1, e2, if_neg c2, e3, if_pos c3]))) h (by rw [mRo_109 h, if_neg c1, if_neg c2, if_pos c3]; exact nI_0) (by rw [mRoA_109 h, if_neg c1, if_neg c2])
  exact oo_ok (A := (mRnA gt L (mTkA gt L (mRnA gt L (p + 1) gu 0) (nI 62)) (mRnU gt L (p + 1) gu 0) 1)) (e9.trans (nx2_cl hlen (by decide) hx (r := (nI 1, (nI (mRnA gt L (mTkA gt L (mRnA gt L (p + 1) gu 0) (nI 62)) (mRnU gt L (p + 1) gu 0) 1), nI 2, co, mi, (upd (upd u 0 (mNv gt L (p + 1))) 1 (mNv gt L (mTkA gt L (mRnA gt L (p + 1) gu 0) (nI 62))))))) (by rw [e0, e1, if_neg c1, e2, if_neg c2, e3, if_neg c3]; rfl))) h ⟨109, by decide, rfl⟩ (by rw [mRo_109 h, if_neg c1, if_neg c2, if_neg c3]; exact one_ne) (by rw [mRoA_109 h, if_neg c1, if_neg c2]) (by rw [mRoU_109 h, if_neg c1, if_neg c2, mRnU_n c3, mRnU_n c1]; exact ⟨fun e8 => absurd e8 (by decide), fun e8 => absurd e8 (by decide), fun e8 => absurd e8 (by decide), fun _ => ⟨by simp [upd], by simp [upd]⟩, fun e8 => absurd e8 (by decide)⟩)
theorem ord_112 {L p : Nat} {t gt gu u : Nat → Int32} {co mi : Int32} (T : TX L t gt) (h : mCd gt L p = nI 112) : OrdOk gt L p gu (nx1 t L (nI p) co mi u) := by
  have h8 := T.1
  have hl : p < L := mCd_lt (by rw [h]; decide)
  have hA0 : p + 1 ≤ L := hl
  have a0 : ¬ mTk gt L p (nI 112) = 0 := by rw [mTk, if_pos h]; decide
  have b0 : mTkA gt L p (nI 112) = p + 1 := by rw [mTkA, if_pos h]
  have hx : cl 4 0 1 = [nI 112] := by decide
  have hlen : lenS.getD 4 0 = 1 := rfl
  have e9 := nx1_e (i := 4) (u := u) (co := co) (mi := mi) T (show p < 2 ^ 31 by omega) h (by decide)
  have e0 := rl_lit (xs := []) (b := nI 0) (co := co) (mi := mi) (u := u) T (show p < 2 ^ 30 by omega) (show ¬ nI 112 = nI 67 by decide) (show ¬ nI 112 = nI 78 by decide) (show ¬ nI 112 = nI 83 by decide)
  rw [if_neg a0, b0] at e0
  exact oo_ok (A := (p + 1)) (e9.trans (nx2_cl hlen (by decide) hx (r := (nI 1, (nI (p + 1), nI 0, co, mi, u))) (by rw [e0]; rfl))) h ⟨112, by decide, rfl⟩ (by rw [mRo_112 h]; exact one_ne) (by rw [mRoA_112 h]) (by rw [mRoU_112 h]; exact ⟨fun e8 => absurd e8 (by decide), fun e8 => absurd e8 (by decide), fun e8 => absurd e8 (by decide), fun e8 => absurd e8 (by decide), fun e8 => absurd e8 (by decide)⟩)
theorem ord_99 {L p : Nat} {t gt gu u : Nat → Int32} {co mi : Int32} (T : TX L t gt) (h : mCd gt L p = nI 99) : OrdOk gt L p gu (nx1 t L (nI p) co mi u) := by
  have h8 := T.1
  have hl : p < L := mCd_lt (by rw [h]; decide)
  have hA0 : p + 1 ≤ L := hl
  have a0 : ¬ mTk gt L p (nI 99) = 0 := by rw [mTk, if_pos h]; decide
  have b0 : mTkA gt L p (nI 99) = p + 1 := by rw [mTkA, if_pos h]
  have hx : cl 5 0 2 = [nI 99, nI 78] := by decide
  have hlen : lenS.getD 5 0 = 2 := rfl
  have e9 := nx1_e (i := 5) (u := u) (co := co) (mi := mi) T (show p < 2 ^ 31 by omega) h (by decide)
  have e0 := rl_lit (xs := [nI 78]) (b := nI 0) (co := co) (mi := mi) (u := u) T (show p < 2 ^ 30 by omega) (show ¬ nI 99 = nI 67 by decide) (show ¬ nI 99 = nI 78 by decide) (show ¬ nI 99 = nI 83 by decide)
  rw [if_neg a0, b0] at e0
  obtain ⟨b9_1, u9_1, e1⟩ := rl_N (gu := gu) (xs := []) (co := co) (mi := mi) (u := u) T (show (p + 1) < 2 ^ 30 by have := hA0; omega) (show 0 < 4 by decide) 0
  have hA1 : (mRnA gt L (p + 1) gu 0) ≤ L := mRnA_le hA0
  by_cases c1 : mRn gt L (p + 1) gu 0 = 0
  · exact oo_fail (A := (mRnA gt L (p + 1) gu 0)) (e9.trans (nx2_cl hlen (by decide) hx (r := (nI 0, (nI (mRnA gt L (p + 1) gu 0), b9_1, co, mi, u9_1))) (by rw [e0, e1, if_pos c1]))) h (by rw [mRo_99 h]; exact c1) (by rw [mRoA_99 h])
  exact oo_ok (A := (mRnA gt L (p + 1) gu 0)) (e9.trans (nx2_cl hlen (by decide) hx (r := (nI 1, (nI (mRnA gt L (p + 1) gu 0), nI 1, co, mi, (upd u 0 (mNv gt L (p + 1)))))) (by rw [e0, e1, if_neg c1]; rfl))) h ⟨99, by decide, rfl⟩ (by rw [mRo_99 h]; exact c1) (by rw [mRoA_99 h]) (by rw [mRoU_99 h, mRnU_n c1]; exact ⟨fun e8 => absurd e8 (by decide), fun e8 => absurd e8 (by decide), fun e8 => absurd e8 (by decide), fun e8 => absurd e8 (by decide), fun _ => by simp [upd]⟩)
theorem ord_97 {L p : Nat} {t gt gu u : Nat → Int32} {co mi : Int32} (T : TX L t gt) (h : mCd gt L p = nI 97) : OrdOk gt L p gu (nx1 t L (nI p) co mi u) := by
  have h8 := T.1
  have hl : p < L := mCd_lt (by rw [h]; decide)
  have hA0 : p + 1 ≤ L := hl
  have a0 : ¬ mTk gt L p (nI 97) = 0 := by rw [mTk, if_pos h]; decide
  have b0 : mTkA gt L p (nI 97) = p + 1 := by rw [mTkA, if_pos h]
  have hx : cl 6 0 1 = [nI 97] := by decide
  have hlen : lenS.getD 6 0 = 1 := rfl
  have e9 := nx1_e (i := 6) (u := u) (co := co) (mi := mi) T (show p < 2 ^ 31 by omega) h (by decide)
  have e0 := rl_lit (xs := []) (b := nI 0) (co := co) (mi := mi) (u := u) T (show p < 2 ^ 30 by omega) (show ¬ nI 97 = nI 67 by decide) (show ¬ nI 97 = nI 78 by decide) (show ¬ nI 97 = nI 83 by decide)
  rw [if_neg a0, b0] at e0
  exact oo_ok (A := (p + 1)) (e9.trans (nx2_cl hlen (by decide) hx (r := (nI 1, (nI (p + 1), nI 0, co, mi, u))) (by rw [e0]; rfl))) h ⟨97, by decide, rfl⟩ (by rw [mRo_97 h]; exact one_ne) (by rw [mRoA_97 h]) (by rw [mRoU_97 h]; exact ⟨fun e8 => absurd e8 (by decide), fun e8 => absurd e8 (by decide), fun e8 => absurd e8 (by decide), fun e8 => absurd e8 (by decide), fun e8 => absurd e8 (by decide)⟩)
theorem ord_107 {L p : Nat} {t gt gu u : Nat → Int32} {co mi : Int32} (T : TX L t gt) (h : mCd gt L p = nI 107) : OrdOk gt L p gu (nx1 t L (nI p) co mi u) := by
  have h8 := T.1
  have hl : p < L := mCd_lt (by rw [h]; decide)
  have hA0 : p + 1 ≤ L := hl
  have a0 : ¬ mTk gt L p (nI 107) = 0 := by rw [mTk, if_pos h]; decide
  have b0 : mTkA gt L p (nI 107) = p + 1 := by rw [mTkA, if_pos h]
  have hx : cl 7 0 1 = [nI 107] := by decide
  have hlen : lenS.getD 7 0 = 1 := rfl
  have e9 := nx1_e (i := 7) (u := u) (co := co) (mi := mi) T (show p < 2 ^ 31 by omega) h (by decide)
  have e0 := rl_lit (xs := []) (b := nI 0) (co := co) (mi := mi) (u := u) T (show p < 2 ^ 30 by omega) (show ¬ nI 107 = nI 67 by decide) (show ¬ nI 107 = nI 78 by decide) (show ¬ nI 107 = nI 83 by decide)
  rw [if_neg a0, b0] at e0
  exact oo_ok (A := (p + 1)) (e9.trans (nx2_cl hlen (by decide) hx (r := (nI 1, (nI (p + 1), nI 0, co, mi, u))) (by rw [e0]; rfl))) h ⟨107, by decide, rfl⟩ (by rw [mRo_107 h]; exact one_ne) (by rw [mRoA_107 h]) (by rw [mRoU_107 h]; exact ⟨fun e8 => absurd e8 (by decide), fun e8 => absurd e8 (by decide), fun e8 => absurd e8 (by decide), fun e8 => absurd e8 (by decide), fun e8 => absurd e8 (by decide)⟩)
theorem ord_119 {L p : Nat} {t gt gu u : Nat → Int32} {co mi : Int32} (T : TX L t gt) (h : mCd gt L p = nI 119) : OrdOk gt L p gu (nx1 t L (nI p) co mi u) := by
  have h8 := T.1
  have hl : p < L := mCd_lt (by rw [h]; decide)
  have hA0 : p + 1 ≤ L := hl
  have a0 : ¬ mTk gt L p (nI 119) = 0 := by rw [mTk, if_pos h]; decide
  have b0 : mTkA gt L p (nI 119) = p + 1 := by rw [mTkA, if_pos h]
  have hx : cl 2 0 5 = [nI 119, nI 78, nI 67, nI 83, nI 78] := by decide
  have hlen : lenS.getD 2 0 = 5 := rfl
  have e9 := nx1_e (i := 2) (u := u) (co := co) (mi := mi) T (show p < 2 ^ 31 by omega) h (by decide)
  have e0 := rl_lit (xs := [nI 78, nI 67, nI 83, nI 78]) (b := nI 0) (co := co) (mi := mi) (u := u) T (show p < 2 ^ 30 by omega) (show ¬ nI 119 = nI 67 by decide) (show ¬ nI 119 = nI 78 by decide) (show ¬ nI 119 = nI 83 by decide)
  rw [if_neg a0, b0] at e0
  obtain ⟨b9_1, u9_1, e1⟩ := rl_N (gu := gu) (xs := [nI 67, nI 83, nI 78]) (co := co) (mi := mi) (u := u) T (show (p + 1) < 2 ^ 30 by have := hA0; omega) (show 0 < 4 by decide) 0
  have hA1 : mRnA gt L (p + 1) gu 0 ≤ L := mRnA_le hA0
  by_cases c1 : mRn gt L (p + 1) gu 0 = 0
  · exact oo_fail (A := mRnA gt L (p + 1) gu 0) (e9.trans (nx2_cl hlen (by decide) hx (r := (nI 0, (nI (mRnA gt L (p + 1) gu 0), b9_1, co, mi, u9_1))) (by rw [e0, e1, if_pos c1]))) h (by rw [mRo_119 h, mRw, if_pos c1]; exact nI_0) (by rw [mRoA_119 h, mRwA, if_pos c1])
  have e2 := rl_C (xs := [nI 83, nI 78]) (b := nI 1) (mi := mi) (u := upd u 0 (mNv gt L (p + 1))) (co := co) T (show mRnA gt L (p + 1) gu 0 < 2 ^ 30 by have := hA1; omega) (mRnU gt L (p + 1) gu 0)
  have k2 := (co_e (gu := mRnU gt L (p + 1) gu 0) T (show mRnA gt L (p + 1) gu 0 < 2 ^ 30 by have := hA1; omega)).2.2
  have k1 := mRnU_n c1
  have hA2 : mRcA gt L (mRnA gt L (p + 1) gu 0) (mRnU gt L (p + 1) gu 0) ≤ L := mRcA_le hA1
  by_cases c2 : mRc gt L (mRnA gt L (p + 1) gu 0) (mRnU gt L (p + 1) gu 0) = 0
  · exact oo_fail (A := mRcA gt L (mRnA gt L (p + 1) gu 0) (mRnU gt L (p + 1) gu 0)) (e9.trans (nx2_cl hlen (by decide) hx (r := (nI 0, (nI (mRcA gt L (mRnA gt L (p + 1) gu 0) (mRnU gt L (p + 1) gu 0)), nI 1, cCoC t L (nI (mRnA gt L (p + 1) gu 0)), mi, upd u 0 (mNv gt L (p + 1))))) (by rw [e0, e1, if_neg c1, e2, if_pos c2]))) h (by rw [mRo_119 h, mRw, if_neg c1, if_pos c2]; exact nI_0) (by rw [mRoA_119 h, mRwA, if_neg c1, if_pos c2])
  have k2 : mRcU gt L (mRnA gt L (p + 1) gu 0) (mRnU gt L (p + 1) gu 0) = upd (upd gu 0 (mNv gt L (p + 1))) 1 (cCoC t L (nI (mRnA gt L (p + 1) gu 0))) := (k2 c2).trans (congrArg (fun z => upd z 1 (cCoC t L (nI (mRnA gt L (p + 1) gu 0)))) k1)
  rw [if_neg c2] at e2
  rw [if_neg c1] at e1
  have e3 : rl t L [nI 119, nI 78, nI 67, nI 83, nI 78] (nI p, nI 0, co, mi, u) = rl t L [nI 83, nI 78] (nI (mRcA gt L (mRnA gt L (p + 1) gu 0) (mRnU gt L (p + 1) gu 0)), nI 1, cCoC t L (nI (mRnA gt L (p + 1) gu 0)), mi, upd u 0 (mNv gt L (p + 1))) := by rw [e0, e1, e2]
  have vo := mRo_119 (gu := gu) h
  have vA := mRoA_119 (gu := gu) h
  have vU := mRoU_119 (gu := gu) h
  rw [mRw, if_neg c1, if_neg c2] at vo
  rw [mRwA, if_neg c1, if_neg c2] at vA
  rw [mRwU, if_neg c1, if_neg c2] at vU
  generalize mRcU gt L (mRnA gt L (p + 1) gu 0) (mRnU gt L (p + 1) gu 0) = U2 at k2 vo vA vU
  generalize mRcA gt L (mRnA gt L (p + 1) gu 0) (mRnU gt L (p + 1) gu 0) = A2 at hA2 e3 vo vA vU
  generalize cCoC t L (nI (mRnA gt L (p + 1) gu 0)) = CO at k2 e3
  generalize mNv gt L (p + 1) = V0 at k2 e3
  clear e0 e1 e2 k1 c1 c2 hA1
  obtain ⟨m9, e4⟩ := rl_S (xs := [nI 78]) (b := nI 1) (co := CO) (mi := mi) (u := upd u 0 V0) T (show A2 < 2 ^ 30 by omega)
  by_cases c3 : mCd gt L A2 = nI 45
  · have hl2 : A2 < L := mCd_lt (by rw [c3]; decide)
    have s1 : mTk gt L A2 (nI 43) = 0 := by rw [mTk, if_neg (by rw [c3]; decide)]; exact nI_0
    have s2 : mTkA gt L A2 (nI 43) = A2 := by rw [mTkA, if_neg (by rw [c3]; decide)]; rfl
    have s3 : ¬ mTk gt L A2 (nI 45) = 0 := by rw [mTk, if_pos c3]; exact one_ne
    have s4 : mTkA gt L A2 (nI 45) = A2 + 1 := by rw [mTkA, if_pos c3]
    rw [if_pos c3, if_pos s1, s2, if_neg s3, s4] at vo vA vU
    obtain ⟨b9, u9, e5⟩ := rl_N (gu := U2) (xs := []) (co := CO) (mi := nI 1) (u := upd u 0 V0) T (show A2 + 1 < 2 ^ 30 by omega) (show 1 < 4 by decide) 2
    by_cases c4 : mRn gt L (A2 + 1) U2 2 = 0
    · exact oo_fail (A := mRnA gt L (A2 + 1) U2 2) (e9.trans (nx2_cl hlen (by decide) hx (r := (nI 0, (nI (mRnA gt L (A2 + 1) U2 2), b9, CO, nI 1, u9))) (by rw [e3, e4, if_pos c3, e5, if_pos c4]))) h (vo.trans c4) vA
    refine oo_ok (A := mRnA gt L (A2 + 1) U2 2) (e9.trans (nx2_cl hlen (by decide) hx (r := (nI 1, (nI (mRnA gt L (A2 + 1) U2 2), nI 2, CO, nI 1, upd (upd u 0 V0) 1 (mNv gt L (A2 + 1))))) (by rw [e3, e4, if_pos c3, e5, if_neg c4]; rfl))) h ⟨119, by decide, rfl⟩ (by rw [vo]; exact c4) vA ?_
    rw [vU, mRnU_n c4, k2]
    exact ⟨fun e8 => absurd e8 (by decide), fun e8 => absurd e8 (by decide), fun _ => ⟨by simp [upd], by simp [upd], fun e8 => absurd e8 one_ne, fun _ => by simp [upd]⟩, fun e8 => absurd e8 (by decide), fun e8 => absurd e8 (by decide)⟩
  rw [if_neg c3] at vo vA vU
  by_cases c5 : mCd gt L A2 = nI 43
  · have hl2 : A2 < L := mCd_lt (by rw [c5]; decide)
    have s1 : ¬ mTk gt L A2 (nI 43) = 0 := by rw [mTk, if_pos c5]; exact one_ne
    have s2 : mTkA gt L A2 (nI 43) = A2 + 1 := by rw [mTkA, if_pos c5]
    rw [if_neg s1, s2] at vo vA vU
    obtain ⟨b9, u9, e5⟩ := rl_N (gu := U2) (xs := []) (co := CO) (mi := nI 0) (u := upd u 0 V0) T (show A2 + 1 < 2 ^ 30 by omega) (show 1 < 4 by decide) 2
    by_cases c4 : mRn gt L (A2 + 1) U2 2 = 0
    · exact oo_fail (A := mRnA gt L (A2 + 1) U2 2) (e9.trans (nx2_cl hlen (by decide) hx (r := (nI 0, (nI (mRnA gt L (A2 + 1) U2 2), b9, CO, nI 0, u9))) (by rw [e3, e4, if_neg c3, if_pos c5, e5, if_pos c4]))) h (vo.trans c4) vA
    refine oo_ok (A := mRnA gt L (A2 + 1) U2 2) (e9.trans (nx2_cl hlen (by decide) hx (r := (nI 1, (nI (mRnA gt L (A2 + 1) U2 2), nI 2, CO, nI 0, upd (upd u 0 V0) 1 (mNv gt L (A2 + 1))))) (by rw [e3, e4, if_neg c3, if_pos c5, e5, if_neg c4]; rfl))) h ⟨119, by decide, rfl⟩ (by rw [vo]; exact c4) vA ?_
    rw [vU, mRnU_n c4, k2]
    exact ⟨fun e8 => absurd e8 (by decide), fun e8 => absurd e8 (by decide), fun _ => ⟨by simp [upd], by simp [upd], fun _ => by simp [upd], fun e8 => absurd nI_0 e8⟩, fun e8 => absurd e8 (by decide), fun e8 => absurd e8 (by decide)⟩
  have s1 : mTk gt L A2 (nI 43) = 0 := by rw [mTk, if_neg c5]; exact nI_0
  have s2 : mTkA gt L A2 (nI 43) = A2 := by rw [mTkA, if_neg c5]; rfl
  have s3 : mTk gt L A2 (nI 45) = 0 := by rw [mTk, if_neg c3]; exact nI_0
  have s4 : mTkA gt L A2 (nI 45) = A2 := by rw [mTkA, if_neg c3]; rfl
  rw [if_pos s1, s2, if_pos s3] at vo vA
  rw [s4] at vA
  exact oo_fail (A := A2) (e9.trans (nx2_cl hlen (by decide) hx (r := (nI 0, (nI A2, nI 1, CO, m9, upd u 0 V0))) (by rw [e3, e4, if_neg c3, if_neg c5]))) h (vo.trans nI_0) vA
theorem fIx_d {x : Int32} (h : ∀ k : Nat, k ∈ [97, 99, 107, 108, 109, 112, 115, 119] → ¬ x = nI k) : fIx x = 8 := by
  unfold fIx
  rw [if_neg (h 97 (by decide)), if_neg (h 99 (by decide)), if_neg (h 107 (by decide)), if_neg (h 108 (by decide)), if_neg (h 109 (by decide)), if_neg (h 112 (by decide)), if_neg (h 115 (by decide)), if_neg (h 119 (by decide))]
theorem ord_ok {L p : Nat} {t gt gu u : Nat → Int32} {co mi : Int32} (T : TX L t gt) (hp : p < 2 ^ 31) : OrdOk gt L p gu (nx1 t L (nI p) co mi u) := by
  by_cases c : okL (mCd gt L p)
  · obtain ⟨k, hk, e⟩ := c
    simp only [List.mem_cons, List.not_mem_nil, or_false] at hk
    rcases hk with q | q | q | q | q | q | q | q <;> subst q
    · exact ord_97 T e
    · exact ord_99 T e
    · exact ord_107 T e
    · exact ord_108 T e
    · exact ord_109 T e
    · exact ord_112 T e
    · exact ord_115 T e
    · exact ord_119 T e
  · have hd : ∀ k : Nat, k ∈ [97, 99, 107, 108, 109, 112, 115, 119] → ¬ mCd gt L p = nI k := fun k hk e => c ⟨k, hk, e⟩
    unfold OrdOk nx1
    rw [he_e T hp, fIx_d hd, mRo_d hd, mRoA_d hd]
    exact ⟨⟨fun _ => nI_0, fun _ => nI_0⟩, rfl, rfl, fun z => absurd nI_0 z⟩
