/-! one order read: the class's against the reference's -/
theorem mCd_rng {L : Nat} {t gt : Nat → Int32} (T : TX L t gt) (p : Nat) : rng 0 126 (mCd gt L p) := by
  unfold mCd
  by_cases c : L ≤ p
  · rw [if_pos c]; exact rng_nI (by decide) (by decide) (by decide)
  · rw [if_neg c]; exact rng_mono (T.2 p (by omega)).2 (by decide) (by decide)
theorem he_e {L : Nat} {t gt : Nat → Int32} (T : TX L t gt) {p : Nat} (hp : p < 2 ^ 31) : cHe t L (nI p) = mCd gt L p := by
  have h8 := T.1
  unfold cHe mCd
  rw [if_neg (nI_pos hp)]
  by_cases c : L ≤ p
  · rw [if_pos c, if_pos (nI_le c hp)]
  · rw [if_neg c, if_neg (nI_ge (by omega) (by omega)), ix_nI hp, (T.2 p (by omega)).1]
theorem dig_d : ∀ a, a < 127 → mIw (nI a - nI 48) (nI 0) (nI 9) = isW (nI a) (nI 48) (nI 57) := by decide +kernel
theorem dig_e {x : Int32} (h : rng 0 126 x) : mIw (x - nI 48) (nI 0) (nI 9) = isW x (nI 48) (nI 57) := by
  obtain ⟨a, ha, rfl⟩ := rng_nat (k := 126) h
  exact dig_d a (by omega)
def mNv (gt : Nat → Int32) (ln ta : Nat) : Int32 := if mCd gt ln ta - nI 48 ≤ 0 then mCd gt ln ta - nI 48 else if mIw (mCd gt ln (ta + 1)) (nI 48) (nI 57) = 0 then mCd gt ln ta - nI 48 else nI 10 * (mCd gt ln ta - nI 48) + mCd gt ln (ta + 1) - nI 48
theorem mRnU_n {gt gu : Nat → Int32} {ln ta q : Nat} (h : ¬ mRn gt ln ta gu q = 0) : mRnU gt ln ta gu q = upd gu q (mNv gt ln ta) := by
  unfold mRn at h
  unfold mRnU mNv
  by_cases c : mIw (mCd gt ln ta - nI 48) (nI 0) (nI 9) = 0
  · rw [if_pos c] at h; exact absurd nI_0 h
  rw [if_neg c]
  by_cases c2 : mCd gt ln ta - nI 48 ≤ 0
  · rw [if_pos c2, if_pos c2]
  rw [if_neg c2, if_neg c2]
  by_cases c3 : mIw (mCd gt ln (ta + 1)) (nI 48) (nI 57) = 0
  · rw [if_pos c3, if_pos c3]
  · rw [if_neg c3, if_neg c3]
section
variable {L p j : Nat} {t gt gu u : Nat → Int32} {b co mi x : Int32}
theorem sg_e (T : TX L t gt) (hp : p < 2 ^ 31) : cSg t L (nI p) x = mTk gt L p x := by
  unfold cSg mTk
  rw [he_e T hp]
theorem sgA_e (T : TX L t gt) (hp : p < 2 ^ 31) : cSgA t L (nI p) x = nI (mTkA gt L p x) := by
  unfold cSgA mTkA
  rw [he_e T hp]
  by_cases c : mCd gt L p = x
  · rw [if_pos c, if_pos c, nI_add]
  · rw [if_neg c, if_neg c]; rfl
theorem di_e (T : TX L t gt) (hp : p < 2 ^ 31) : cDi t L (nI p) = mIw (mCd gt L p) (nI 48) (nI 57) := by
  unfold cDi
  rw [he_e T hp]; rfl
theorem nmV_e (T : TX L t gt) (hp : p < 2 ^ 30) (q : Nat) : cNm t L (nI p) b u = mRn gt L p gu q := by
  unfold cNm mRn
  rw [di_e T (by omega), dig_e (mCd_rng T p)]; rfl
theorem nmA_e (T : TX L t gt) (hp : p < 2 ^ 30) (q : Nat) : cNmA t L (nI p) b u = nI (mRnA gt L p gu q) := by
  unfold cNmA mRnA
  rw [nI_add, di_e T (by omega), di_e T (by omega), he_e T (by omega), dig_e (mCd_rng T p)]
  by_cases c : isW (mCd gt L p) (nI 48) (nI 57) = 0
  · rw [if_pos (show mIw (mCd gt L p) (nI 48) (nI 57) = 0 from c), if_pos c]
  rw [if_neg (show ¬ mIw (mCd gt L p) (nI 48) (nI 57) = 0 from c), if_neg c]
  by_cases c2 : mCd gt L p - nI 48 ≤ 0
  · rw [if_pos c2, if_pos c2]
  rw [if_neg c2, if_neg c2]
  by_cases c3 : mIw (mCd gt L (p + 1)) (nI 48) (nI 57) = 0
  · rw [if_pos c3, if_pos c3]
  · rw [if_neg c3, if_neg c3, nI_add]
theorem nmB_e (T : TX L t gt) (hp : p < 2 ^ 30) (hj : j < 4) {q : Nat} (h : ¬ mRn gt L p gu q = 0) : cNmB t L (nI p) (nI j) u = nI (j + 1) := by
  rw [← nmV_e T hp (b := nI j) (u := u)] at h
  unfold cNm at h
  unfold cNmB
  by_cases c : cDi t L (nI p) = 0
  · rw [if_pos c] at h; exact absurd nI_0 h
  rw [if_neg c, if_neg (nI_pos (by omega)), if_neg (nI_ge hj (by omega)), ix_nI (by omega)]
  repeat' split
  all_goals rfl
theorem nmU_e (T : TX L t gt) (hp : p < 2 ^ 30) (hj : j < 4) {q : Nat} (h : ¬ mRn gt L p gu q = 0) : cNmU t L (nI p) (nI j) u = upd u j (mNv gt L p) := by
  rw [← nmV_e T hp (b := nI j) (u := u)] at h
  unfold cNm at h
  unfold cNmU mNv
  by_cases c : cDi t L (nI p) = 0
  · rw [if_pos c] at h; exact absurd nI_0 h
  rw [if_neg c, if_neg (nI_pos (by omega)), if_neg (nI_ge hj (by omega)), ix_nI (by omega), nI_add, he_e T (by omega), he_e T (by omega), di_e T (by omega)]
  by_cases c2 : mCd gt L p - nI 48 ≤ 0
  · rw [if_pos c2, if_pos c2]
  rw [if_neg c2, if_neg c2]
  by_cases c3 : mIw (mCd gt L (p + 1)) (nI 48) (nI 57) = 0
  · rw [if_pos c3, if_pos c3]
  · rw [if_neg c3, if_neg c3, if_neg (nI_pos (by omega)), if_neg (nI_ge hj (by omega)), Int32.mul_comm]
theorem co_e (T : TX L t gt) (hp : p < 2 ^ 30) : cCo t L (nI p) = mRc gt L p gu ∧ cCoA t L (nI p) = nI (mRcA gt L p gu) ∧ (¬ mRc gt L p gu = 0 → mRcU gt L p gu = upd gu 1 (cCoC t L (nI p))) := by
  have e0 := he_e T (p := p) (by omega)
  unfold cCo cCoA cCoC mRc mRcA mRcU
  by_cases c1 : mCd gt L p = nI 114
  · have s1 : cSg t L (nI p) (nI 114) = nI 1 := by rw [cSg, e0, if_pos c1]
    have s2 : cSgA t L (nI p) (nI 114) = nI (p + 1) := by rw [cSgA, e0, if_pos c1, nI_add]
    simp only [e0, if_pos c1, s1, s2, if_neg (show ¬ nI 1 = 0 by decide)]
    exact ⟨trivial, trivial, fun _ => trivial⟩
  have s1 : cSg t L (nI p) (nI 114) = nI 0 := by rw [cSg, e0, if_neg c1]
  have s2 : cSgA t L (nI p) (nI 114) = nI p := by rw [cSgA, e0, if_neg c1]
  simp only [e0, if_neg c1, s1, s2, if_pos nI_0]
  by_cases c2 : mCd gt L p = nI 103
  · have s3 : cSg t L (nI p) (nI 103) = nI 1 := by rw [cSg, e0, if_pos c2]
    have s4 : cSgA t L (nI p) (nI 103) = nI (p + 1) := by rw [cSgA, e0, if_pos c2, nI_add]
    simp only [if_pos c2, s3, s4, if_neg (show ¬ nI 1 = 0 by decide)]
    exact ⟨trivial, trivial, fun _ => trivial⟩
  have s3 : cSg t L (nI p) (nI 103) = nI 0 := by rw [cSg, e0, if_neg c2]
  have s4 : cSgA t L (nI p) (nI 103) = nI p := by rw [cSgA, e0, if_neg c2]
  simp only [if_neg c2, s3, s4, if_pos nI_0]
  by_cases c3 : mCd gt L p = nI 98
  · have s5 : cSg t L (nI p) (nI 98) = nI 1 := by rw [cSg, e0, if_pos c3]
    have s6 : cSgA t L (nI p) (nI 98) = nI (p + 1) := by rw [cSgA, e0, if_pos c3, nI_add]
    simp only [if_pos c3, s5, s6, if_neg (show ¬ nI 1 = 0 by decide)]
    exact ⟨trivial, trivial, fun _ => trivial⟩
  have s5 : cSg t L (nI p) (nI 98) = nI 0 := by rw [cSg, e0, if_neg c3]
  have s6 : cSgA t L (nI p) (nI 98) = nI p := by rw [cSgA, e0, if_neg c3]
  simp only [if_neg c3, s5, s6, if_pos nI_0]
  exact ⟨trivial, rfl, fun z => absurd nI_0 z⟩
end
/-- the parts of a form, one behind the other: whether all were there, and what stands then -/
def rl (t : Nat → Int32) (L : Nat) : List Int32 → PS → Int32 × PS
  | [], σ => (nI 1, σ)
  | x :: xs, σ => if rpV t L σ.1 σ.2.1 σ.2.2.1 σ.2.2.2.1 σ.2.2.2.2 x = 0 then (nI 0, rpS t L σ x) else rl t L xs (rpS t L σ x)
def cl (i : Nat) : Nat → Nat → List Int32
  | _, 0 => []
  | m, d + 1 => sCh i m :: cl i (m + 1) d
theorem nx2_rl {t : Nat → Int32} {L i : Nat} {le : Int32} {σ : PS} {len : Nat} (hlen : lenS.getD i 0 = len) (h0 : 0 < len) : ∀ d m, m + d = len → (∀ k, k < m → ¬ noK t L i σ k = 0) → nx2 t L i le σ = ((rl t L (cl i m d) (noS t L i σ m)).1, (rl t L (cl i m d) (noS t L i σ m)).2.1, (rl t L (cl i m d) (noS t L i σ m)).2.2.1, le, (rl t L (cl i m d) (noS t L i σ m)).2.2.2.1, (rl t L (cl i m d) (noS t L i σ m)).2.2.2.2.1, (rl t L (cl i m d) (noS t L i σ m)).2.2.2.2.2)
  | 0, m, hm, hall => by
    have e : noN t L i σ = m := by rw [noN, hlen]; exact ffz_nk hall (by omega)
    rw [nx2, e, hlen, if_neg (by omega), show m = len by omega, nxT, jEm, hlen, if_neg (show ¬ len = 0 by omega), if_pos nI_0]; rfl
  | d + 1, m, hm, hall => by
    have step : rl t L (cl i m (d + 1)) (noS t L i σ m) = if noK t L i σ m = 0 then (nI 0, noS t L i σ (m + 1)) else rl t L (cl i (m + 1) d) (noS t L i σ (m + 1)) := rfl
    by_cases c : noK t L i σ m = 0
    · have e : noN t L i σ = m := by rw [noN, hlen]; exact ffz_at hall c (by omega)
      rw [step, if_pos c, nx2, e, hlen, if_pos (by omega), nxT]
    · rw [step, if_neg c]
      exact nx2_rl hlen h0 d (m + 1) (by omega) (lt_s hall c)
theorem nx2_cl {t : Nat → Int32} {L i : Nat} {le : Int32} {σ : PS} {len : Nat} {r : Int32 × PS} (hlen : lenS.getD i 0 = len) (h0 : 0 < len) {xs : List Int32} (hx : cl i 0 len = xs) (hr : rl t L xs σ = r) : nx2 t L i le σ = (r.1, r.2.1, r.2.2.1, le, r.2.2.2.1, r.2.2.2.2.1, r.2.2.2.2.2) := by
  subst hr
  subst hx
  exact nx2_rl hlen h0 len 0 (by omega) (fun k hk => absurd hk (Nat.not_lt_zero k))
section
variable {L p j : Nat} {t gt gu u : Nat → Int32} {b co mi x : Int32} {xs : List Int32}
theorem rl_lit (T : TX L t gt) (hp : p < 2 ^ 30) (h1 : ¬ x = nI 67) (h2 : ¬ x = nI 78) (h3 : ¬ x = nI 83) : rl t L (x :: xs) (nI p, b, co, mi, u) = if mTk gt L p x = 0 then (nI 0, (nI (mTkA gt L p x), b, co, mi, u)) else rl t L xs (nI (mTkA gt L p x), b, co, mi, u) := by
  have e1 : rpV t L (nI p) b co mi u x = mTk gt L p x := by rw [rpV, if_neg h1, if_neg h2, if_neg h3, sg_e T (by omega)]
  have e2 : rpS t L (nI p, b, co, mi, u) x = (nI (mTkA gt L p x), b, co, mi, u) := by
    show (rpA t L (nI p) b co mi u x, rpB t L (nI p) b co mi u x, rpC t L (nI p) b co mi u x, rpM t L (nI p) b co mi u x, rpU t L (nI p) b co mi u x) = _
    rw [rpA, if_neg h1, if_neg h2, if_neg h3, sgA_e T (by omega), rpB, if_neg h1, if_neg h2, rpC, if_neg h1, rpM, if_neg h1, if_neg h2, if_neg h3, rpU, if_neg h1, if_neg h2]
  rw [rl, e2]
  show (if rpV t L (nI p) b co mi u x = 0 then _ else _) = _
  rw [e1]
theorem rl_N (T : TX L t gt) (hp : p < 2 ^ 30) (hj : j < 4) (q : Nat) : ∃ b9 u9, rl t L (nI 78 :: xs) (nI p, nI j, co, mi, u) = if mRn gt L p gu q = 0 then (nI 0, (nI (mRnA gt L p gu q), b9, co, mi, u9)) else rl t L xs (nI (mRnA gt L p gu q), nI (j + 1), co, mi, upd u j (mNv gt L p)) := by
  have d1 : ¬ nI 78 = nI 67 := by decide
  have e1 : rpV t L (nI p) (nI j) co mi u (nI 78) = mRn gt L p gu q := by rw [rpV, if_neg d1, if_pos rfl, nmV_e T hp]
  have e2 : rpS t L (nI p, nI j, co, mi, u) (nI 78) = (nI (mRnA gt L p gu q), cNmB t L (nI p) (nI j) u, co, mi, cNmU t L (nI p) (nI j) u) := by
    show (rpA t L (nI p) (nI j) co mi u (nI 78), rpB t L (nI p) (nI j) co mi u (nI 78), rpC t L (nI p) (nI j) co mi u (nI 78), rpM t L (nI p) (nI j) co mi u (nI 78), rpU t L (nI p) (nI j) co mi u (nI 78)) = _
    rw [rpA, if_neg d1, if_pos rfl, nmA_e T hp, rpB, if_neg d1, if_pos rfl, rpC, if_neg d1, rpM, if_neg d1, if_pos rfl, rpU, if_neg d1, if_pos rfl]
  refine ⟨cNmB t L (nI p) (nI j) u, cNmU t L (nI p) (nI j) u, ?_⟩
  rw [rl, e2]
  show (if rpV t L (nI p) (nI j) co mi u (nI 78) = 0 then _ else _) = _
  rw [e1]
  by_cases c : mRn gt L p gu q = 0
  · rw [if_pos c, if_pos c]
  · rw [if_neg c, if_neg c, nmB_e T hp hj c, nmU_e T hp hj c]
theorem rl_C (T : TX L t gt) (hp : p < 2 ^ 30) (gu : Nat → Int32) : rl t L (nI 67 :: xs) (nI p, b, co, mi, u) = if mRc gt L p gu = 0 then (nI 0, (nI (mRcA gt L p gu), b, cCoC t L (nI p), mi, u)) else rl t L xs (nI (mRcA gt L p gu), b, cCoC t L (nI p), mi, u) := by
  obtain ⟨k1, k2, k3⟩ := co_e (gu := gu) T hp
  have e1 : rpV t L (nI p) b co mi u (nI 67) = mRc gt L p gu := by rw [rpV, if_pos rfl, k1]
  have e2 : rpS t L (nI p, b, co, mi, u) (nI 67) = (nI (mRcA gt L p gu), b, cCoC t L (nI p), mi, u) := by
    show (rpA t L (nI p) b co mi u (nI 67), rpB t L (nI p) b co mi u (nI 67), rpC t L (nI p) b co mi u (nI 67), rpM t L (nI p) b co mi u (nI 67), rpU t L (nI p) b co mi u (nI 67)) = _
    rw [rpA, if_pos rfl, k2, rpB, if_pos rfl, rpC, if_pos rfl, rpM, if_pos rfl, rpU, if_pos rfl]
  rw [rl, e2]
  show (if rpV t L (nI p) b co mi u (nI 67) = 0 then _ else _) = _
  rw [e1]
/-- the sign of a wish: minus, plus, or none -/
theorem rl_S (T : TX L t gt) (hp : p < 2 ^ 30) : ∃ m9, rl t L (nI 83 :: xs) (nI p, b, co, mi, u) = if mCd gt L p = nI 45 then rl t L xs (nI (p + 1), b, co, nI 1, u) else if mCd gt L p = nI 43 then rl t L xs (nI (p + 1), b, co, nI 0, u) else (nI 0, (nI p, b, co, m9, u)) := by
  have e0 := he_e T (p := p) (by omega)
  have d1 : ¬ nI 83 = nI 67 := by decide
  have d2 : ¬ nI 83 = nI 78 := by decide
  refine ⟨nI 0, ?_⟩
  have e2 : rpS t L (nI p, b, co, mi, u) (nI 83) = (rpA t L (nI p) b co mi u (nI 83), b, co, rpM t L (nI p) b co mi u (nI 83), u) := by
    show (rpA t L (nI p) b co mi u (nI 83), rpB t L (nI p) b co mi u (nI 83), rpC t L (nI p) b co mi u (nI 83), rpM t L (nI p) b co mi u (nI 83), rpU t L (nI p) b co mi u (nI 83)) = _
    rw [rpB, if_neg d1, if_neg d2, rpC, if_neg d1, rpU, if_neg d1, if_neg d2]
  rw [rl, e2]
  show (if rpV t L (nI p) b co mi u (nI 83) = 0 then _ else _) = _
  rw [rpV, if_neg d1, if_neg d2, if_pos rfl, rpA, if_neg d1, if_neg d2, if_pos rfl, rpM, if_neg d1, if_neg d2, if_pos rfl]
  by_cases c1 : mCd gt L p = nI 45
  · have s1 : cSg t L (nI p) (nI 45) = nI 1 := by rw [cSg, e0, if_pos c1]
    have s2 : cSgA t L (nI p) (nI 45) = nI (p + 1) := by rw [cSgA, e0, if_pos c1, nI_add]
    simp only [e0, if_pos c1, s1, s2, if_neg (show ¬ nI 1 = 0 by decide)]
  have s1 : cSg t L (nI p) (nI 45) = nI 0 := by rw [cSg, e0, if_neg c1]
  have s2 : cSgA t L (nI p) (nI 45) = nI p := by rw [cSgA, e0, if_neg c1]
  simp only [e0, if_neg c1, s1, s2, if_pos nI_0]
  by_cases c2 : mCd gt L p = nI 43
  · have s3 : cSg t L (nI p) (nI 43) = nI 1 := by rw [cSg, e0, if_pos c2]
    have s4 : cSgA t L (nI p) (nI 43) = nI (p + 1) := by rw [cSgA, e0, if_pos c2, nI_add]
    simp only [if_pos c2, s3, s4, if_neg (show ¬ nI 1 = 0 by decide)]
  have s3 : cSg t L (nI p) (nI 43) = nI 0 := by rw [cSg, e0, if_neg c2]
  have s4 : cSgA t L (nI p) (nI 43) = nI p := by rw [cSgA, e0, if_neg c2]
  simp only [if_neg c2, s3, s4, if_pos nI_0]
end
theorem itd {α : Type} {c : Prop} [Decidable c] {a b x : α} (ha : c → a = x) (hb : ¬ c → b = x) : (if c then a else b) = x := by
  by_cases q : c
  · rw [if_pos q]; exact ha q
  · rw [if_neg q]; exact hb q
theorem mRo_115 {gt : Nat → Int32} {ln ta : Nat} {gu : Nat → Int32} (h : mCd gt ln ta = nI 115) : mRo gt ln ta gu = if mRn gt ln (ta + 1) gu 0 = 0 then nI 0 else if mTk gt ln (mRnA gt ln (ta + 1) gu 0) (nI 58) = 0 then nI 0 else if mRn gt ln (mTkA gt ln (mRnA gt ln (ta + 1) gu 0) (nI 58)) (mRnU gt ln (ta + 1) gu 0) 1 = 0 then nI 0 else if mTk gt ln (mRnA gt ln (mTkA gt ln (mRnA gt ln (ta + 1) gu 0) (nI 58)) (mRnU gt ln (ta + 1) gu 0) 1) (nI 44) = 0 then nI 0 else if mRn gt ln (mTkA gt ln (mRnA gt ln (mTkA gt ln (mRnA gt ln (ta + 1) gu 0) (nI 58)) (mRnU gt ln (ta + 1) gu 0) 1) (nI 44)) (mRnU gt ln (mTkA gt ln (mRnA gt ln (ta + 1) gu 0) (nI 58)) (mRnU gt ln (ta + 1) gu 0) 1) 2 = 0 then nI 0 else if mTk gt ln (mRnA gt ln (mTkA gt ln (mRnA gt ln (mTkA gt ln (mRnA gt ln (ta + 1) gu 0) (nI 58)) (mRnU gt ln (ta + 1) gu 0) 1) (nI 44)) (mRnU gt ln (mTkA gt ln (mRnA gt ln (ta + 1) gu 0) (nI 58)) (mRnU gt ln (ta + 1) gu 0) 1) 2) (nI 44) = 0 then nI 0 else if mRn gt ln (mTkA gt ln (mRnA gt ln (mTkA gt ln (mRnA gt ln (mTkA gt ln (mRnA gt ln (ta + 1) gu 0) (nI 58)) (mRnU gt ln (ta + 1) gu 0) 1) (nI 44)) (mRnU gt ln (mTkA gt ln (mRnA gt ln (ta + 1) gu 0) (nI 58)) (mRnU gt ln (ta + 1) gu 0) 1) 2) (nI 44)) (mRnU gt ln (mTkA gt ln (mRnA gt ln (mTkA gt ln (mRnA gt ln (ta + 1) gu 0) (nI 58)) (mRnU gt ln (ta + 1) gu 0) 1) (nI 44)) (mRnU gt ln (mTkA gt ln (mRnA gt ln (ta + 1) gu 0) (nI 58)) (mRnU gt ln (ta + 1) gu 0) 1) 2) 3 = 0 then nI 0 else nI 1 := by
  unfold mRo
  rw [if_neg (show ¬ mCd gt ln ta = 0 by rw [h]; decide), if_neg (show ¬ mCd gt ln ta = nI 97 by rw [h]; decide), if_neg (show ¬ mCd gt ln ta = nI 98 by rw [h]; decide), if_neg (show ¬ mCd gt ln ta = nI 99 by rw [h]; decide), if_neg (show ¬ mCd gt ln ta = nI 100 by rw [h]; decide), if_neg (show ¬ mCd gt ln ta = nI 101 by rw [h]; decide), if_neg (show ¬ mCd gt ln ta = nI 102 by rw [h]; decide), if_neg (show ¬ mCd gt ln ta = nI 103 by rw [h]; decide), if_neg (show ¬ mCd gt ln ta = nI 104 by rw [h]; decide), if_neg (show ¬ mCd gt ln ta = nI 105 by rw [h]; decide), if_neg (show ¬ mCd gt ln ta = nI 106 by rw [h]; decide), if_neg (show ¬ mCd gt ln ta = nI 107 by rw [h]; decide), if_neg (show ¬ mCd gt ln ta = nI 108 by rw [h]; decide), if_neg (show ¬ mCd gt ln ta = nI 109 by rw [h]; decide), if_neg (show ¬ mCd gt ln ta = nI 110 by rw [h]; decide), if_neg (show ¬ mCd gt ln ta = nI 111 by rw [h]; decide), if_neg (show ¬ mCd gt ln ta = nI 112 by rw [h]; decide), if_neg (show ¬ mCd gt ln ta = nI 113 by rw [h]; decide), if_neg (show ¬ mCd gt ln ta = nI 114 by rw [h]; decide), if_pos h]
theorem mRo_108 {gt : Nat → Int32} {ln ta : Nat} {gu : Nat → Int32} (h : mCd gt ln ta = nI 108) : mRo gt ln ta gu = if mRn gt ln (ta + 1) gu 0 = 0 then nI 0 else if mRc gt ln (mRnA gt ln (ta + 1) gu 0) (mRnU gt ln (ta + 1) gu 0) = 0 then nI 0 else if mTk gt ln (mRcA gt ln (mRnA gt ln (ta + 1) gu 0) (mRnU gt ln (ta + 1) gu 0)) (nI 61) = 0 then nI 0 else if mRn gt ln (mTkA gt ln (mRcA gt ln (mRnA gt ln (ta + 1) gu 0) (mRnU gt ln (ta + 1) gu 0)) (nI 61)) (mRcU gt ln (mRnA gt ln (ta + 1) gu 0) (mRnU gt ln (ta + 1) gu 0)) 2 = 0 then nI 0 else nI 1 := by
  unfold mRo
  rw [if_neg (show ¬ mCd gt ln ta = 0 by rw [h]; decide), if_neg (show ¬ mCd gt ln ta = nI 97 by rw [h]; decide), if_neg (show ¬ mCd gt ln ta = nI 98 by rw [h]; decide), if_neg (show ¬ mCd gt ln ta = nI 99 by rw [h]; decide), if_neg (show ¬ mCd gt ln ta = nI 100 by rw [h]; decide), if_neg (show ¬ mCd gt ln ta = nI 101 by rw [h]; decide), if_neg (show ¬ mCd gt ln ta = nI 102 by rw [h]; decide), if_neg (show ¬ mCd gt ln ta = nI 103 by rw [h]; decide), if_neg (show ¬ mCd gt ln ta = nI 104 by rw [h]; decide), if_neg (show ¬ mCd gt ln ta = nI 105 by rw [h]; decide), if_neg (show ¬ mCd gt ln ta = nI 106 by rw [h]; decide), if_neg (show ¬ mCd gt ln ta = nI 107 by rw [h]; decide), if_pos h]
theorem mRo_119 {gt : Nat → Int32} {ln ta : Nat} {gu : Nat → Int32} (h : mCd gt ln ta = nI 119) : mRo gt ln ta gu = mRw gt ln (ta + 1) gu := by
  unfold mRo
  rw [if_neg (show ¬ mCd gt ln ta = 0 by rw [h]; decide), if_neg (show ¬ mCd gt ln ta = nI 97 by rw [h]; decide), if_neg (show ¬ mCd gt ln ta = nI 98 by rw [h]; decide), if_neg (show ¬ mCd gt ln ta = nI 99 by rw [h]; decide), if_neg (show ¬ mCd gt ln ta = nI 100 by rw [h]; decide), if_neg (show ¬ mCd gt ln ta = nI 101 by rw [h]; decide), if_neg (show ¬ mCd gt ln ta = nI 102 by rw [h]; decide), if_neg (show ¬ mCd gt ln ta = nI 103 by rw [h]; decide), if_neg (show ¬ mCd gt ln ta = nI 104 by rw [h]; decide), if_neg (show ¬ mCd gt ln ta = nI 105 by rw [h]; decide), if_neg (show ¬ mCd gt ln ta = nI 106 by rw [h]; decide), if_neg (show ¬ mCd gt ln ta = nI 107 by rw [h]; decide), if_neg (show ¬ mCd gt ln ta = nI 108 by rw [h]; decide), if_neg (show ¬ mCd gt ln ta = nI 109 by rw [h]; decide), if_neg (show ¬ mCd gt ln ta = nI 110 by rw [h]; decide), if_neg (show ¬ mCd gt ln ta = nI 111 by rw [h]; decide), if_neg (show ¬ mCd gt ln ta = nI 112 by rw [h]; decide), if_neg (show ¬ mCd gt ln ta = nI 113 by rw [h]; decide), if_neg (show ¬ mCd gt ln ta = nI 114 by rw [h]; decide), if_neg (show ¬ mCd gt ln ta = nI 115 by rw [h]; decide), if_neg (show ¬ mCd gt ln ta = nI 116 by rw [h]; decide), if_neg (show ¬ mCd gt ln ta = nI 117 by rw [h]; decide), if_neg (show ¬ mCd gt ln ta = nI 118 by rw [h]; decide), if_pos h]
theorem mRo_109 {gt : Nat → Int32} {ln ta : Nat} {gu : Nat → Int32} (h : mCd gt ln ta = nI 109) : mRo gt ln ta gu = if mRn gt ln (ta + 1) gu 0 = 0 then nI 0 else if mTk gt ln (mRnA gt ln (ta + 1) gu 0) (nI 62) = 0 then nI 0 else if mRn gt ln (mTkA gt ln (mRnA gt ln (ta + 1) gu 0) (nI 62)) (mRnU gt ln (ta + 1) gu 0) 1 = 0 then nI 0 else nI 1 := by
  unfold mRo
  rw [if_neg (show ¬ mCd gt ln ta = 0 by rw [h]; decide), if_neg (show ¬ mCd gt ln ta = nI 97 by rw [h]; decide), if_neg (show ¬ mCd gt ln ta = nI 98 by rw [h]; decide), if_neg (show ¬ mCd gt ln ta = nI 99 by rw [h]; decide), if_neg (show ¬ mCd gt ln ta = nI 100 by rw [h]; decide), if_neg (show ¬ mCd gt ln ta = nI 101 by rw [h]; decide), if_neg (show ¬ mCd gt ln ta = nI 102 by rw [h]; decide), if_neg (show ¬ mCd gt ln ta = nI 103 by rw [h]; decide), if_neg (show ¬ mCd gt ln ta = nI 104 by rw [h]; decide), if_neg (show ¬ mCd gt ln ta = nI 105 by rw [h]; decide), if_neg (show ¬ mCd gt ln ta = nI 106 by rw [h]; decide), if_neg (show ¬ mCd gt ln ta = nI 107 by rw [h]; decide), if_neg (show ¬ mCd gt ln ta = nI 108 by rw [h]; decide), if_pos h]
theorem mRo_112 {gt : Nat → Int32} {ln ta : Nat} {gu : Nat → Int32} (h : mCd gt ln ta = nI 112) : mRo gt ln ta gu = nI 1 := by
  unfold mRo
  rw [if_neg (show ¬ mCd gt ln ta = 0 by rw [h]; decide), if_neg (show ¬ mCd gt ln ta = nI 97 by rw [h]; decide), if_neg (show ¬ mCd gt ln ta = nI 98 by rw [h]; decide), if_neg (show ¬ mCd gt ln ta = nI 99 by rw [h]; decide), if_neg (show ¬ mCd gt ln ta = nI 100 by rw [h]; decide), if_neg (show ¬ mCd gt ln ta = nI 101 by rw [h]; decide), if_neg (show ¬ mCd gt ln ta = nI 102 by rw [h]; decide), if_neg (show ¬ mCd gt ln ta = nI 103 by rw [h]; decide), if_neg (show ¬ mCd gt ln ta = nI 104 by rw [h]; decide), if_neg (show ¬ mCd gt ln ta = nI 105 by rw [h]; decide), if_neg (show ¬ mCd gt ln ta = nI 106 by rw [h]; decide), if_neg (show ¬ mCd gt ln ta = nI 107 by rw [h]; decide), if_neg (show ¬ mCd gt ln ta = nI 108 by rw [h]; decide), if_neg (show ¬ mCd gt ln ta = nI 109 by rw [h]; decide), if_neg (show ¬ mCd gt ln ta = nI 110 by rw [h]; decide), if_neg (show ¬ mCd gt ln ta = nI 111 by rw [h]; decide), if_pos h]
theorem mRo_99 {gt : Nat → Int32} {ln ta : Nat} {gu : Nat → Int32} (h : mCd gt ln ta = nI 99) : mRo gt ln ta gu = mRn gt ln (ta + 1) gu 0 := by
  unfold mRo
  rw [if_neg (show ¬ mCd gt ln ta = 0 by rw [h]; decide), if_neg (show ¬ mCd gt ln ta = nI 97 by rw [h]; decide), if_neg (show ¬ mCd gt ln ta = nI 98 by rw [h]; decide), if_pos h]
theorem mRo_97 {gt : Nat → Int32} {ln ta : Nat} {gu : Nat → Int32} (h : mCd gt ln ta = nI 97) : mRo gt ln ta gu = nI 1 := by
  unfold mRo
  rw [if_neg (show ¬ mCd gt ln ta = 0 by rw [h]; decide), if_pos h]
theorem mRo_107 {gt : Nat → Int32} {ln ta : Nat} {gu : Nat → Int32} (h : mCd gt ln ta = nI 107) : mRo gt ln ta gu = nI 1 := by
  unfold mRo
  rw [if_neg (show ¬ mCd gt ln ta = 0 by rw [h]; decide), if_neg (show ¬ mCd gt ln ta = nI 97 by rw [h]; decide), if_neg (show ¬ mCd gt ln ta = nI 98 by rw [h]; decide), if_neg (show ¬ mCd gt ln ta = nI 99 by rw [h]; decide), if_neg (show ¬ mCd gt ln ta = nI 100 by rw [h]; decide), if_neg (show ¬ mCd gt ln ta = nI 101 by rw [h]; decide), if_neg (show ¬ mCd gt ln ta = nI 102 by rw [h]; decide), if_neg (show ¬ mCd gt ln ta = nI 103 by rw [h]; decide), if_neg (show ¬ mCd gt ln ta = nI 104 by rw [h]; decide), if_neg (show ¬ mCd gt ln ta = nI 105 by rw [h]; decide), if_neg (show ¬ mCd gt ln ta = nI 106 by rw [h]; decide), if_pos h]
theorem mRo_d {gt : Nat → Int32} {ln ta : Nat} {gu : Nat → Int32} (h : ∀ k, k ∈ [97, 99, 107, 108, 109, 112, 115, 119] → ¬ mCd gt ln ta = nI k) : mRo gt ln ta gu = nI 0 := by
  unfold mRo
  exact itd (fun _ => rfl) (fun _ => itd (fun c => absurd c (h 97 (by decide))) (fun _ => itd (fun c => rfl) (fun _ => itd (fun c => absurd c (h 99 (by decide))) (fun _ => itd (fun c => rfl) (fun _ => itd (fun c => rfl) (fun _ => itd (fun c => rfl) (fun _ => itd (fun c => rfl) (fun _ => itd (fun c => rfl) (fun _ => itd (fun c => rfl) (fun _ => itd (fun c => rfl) (fun _ => itd (fun c => absurd c (h 107 (by decide))) (fun _ => itd (fun c => absurd c (h 108 (by decide))) (fun _ => itd (fun c => absurd c (h 109 (by decide))) (fun _ => itd (fun c => rfl) (fun _ => itd (fun c => rfl) (fun _ => itd (fun c => absurd c (h 112 (by decide))) (fun _ => itd (fun c => rfl) (fun _ => itd (fun c => rfl) (fun _ => itd (fun c => absurd c (h 115 (by decide))) (fun _ => itd (fun c => rfl) (fun _ => itd (fun c => rfl) (fun _ => itd (fun c => rfl) (fun _ => itd (fun c => absurd c (h 119 (by decide))) (fun _ => rfl))))))))))))))))))))))))
theorem mRoA_115 {gt : Nat → Int32} {ln ta : Nat} {gu : Nat → Int32} (h : mCd gt ln ta = nI 115) : mRoA gt ln ta gu = if mRn gt ln (ta + 1) gu 0 = 0 then mRnA gt ln (ta + 1) gu 0 else if mTk gt ln (mRnA gt ln (ta + 1) gu 0) (nI 58) = 0 then mTkA gt ln (mRnA gt ln (ta + 1) gu 0) (nI 58) else if mRn gt ln (mTkA gt ln (mRnA gt ln (ta + 1) gu 0) (nI 58)) (mRnU gt ln (ta + 1) gu 0) 1 = 0 then mRnA gt ln (mTkA gt ln (mRnA gt ln (ta + 1) gu 0) (nI 58)) (mRnU gt ln (ta + 1) gu 0) 1 else if mTk gt ln (mRnA gt ln (mTkA gt ln (mRnA gt ln (ta + 1) gu 0) (nI 58)) (mRnU gt ln (ta + 1) gu 0) 1) (nI 44) = 0 then mTkA gt ln (mRnA gt ln (mTkA gt ln (mRnA gt ln (ta + 1) gu 0) (nI 58)) (mRnU gt ln (ta + 1) gu 0) 1) (nI 44) else if mRn gt ln (mTkA gt ln (mRnA gt ln (mTkA gt ln (mRnA gt ln (ta + 1) gu 0) (nI 58)) (mRnU gt ln (ta + 1) gu 0) 1) (nI 44)) (mRnU gt ln (mTkA gt ln (mRnA gt ln (ta + 1) gu 0) (nI 58)) (mRnU gt ln (ta + 1) gu 0) 1) 2 = 0 then mRnA gt ln (mTkA gt ln (mRnA gt ln (mTkA gt ln (mRnA gt ln (ta + 1) gu 0) (nI 58)) (mRnU gt ln (ta + 1) gu 0) 1) (nI 44)) (mRnU gt ln (mTkA gt ln (mRnA gt ln (ta + 1) gu 0) (nI 58)) (mRnU gt ln (ta + 1) gu 0) 1) 2 else if mTk gt ln (mRnA gt ln (mTkA gt ln (mRnA gt ln (mTkA gt ln (mRnA gt ln (ta + 1) gu 0) (nI 58)) (mRnU gt ln (ta + 1) gu 0) 1) (nI 44)) (mRnU gt ln (mTkA gt ln (mRnA gt ln (ta + 1) gu 0) (nI 58)) (mRnU gt ln (ta + 1) gu 0) 1) 2) (nI 44) = 0 then mTkA gt ln (mRnA gt ln (mTkA gt ln (mRnA gt ln (mTkA gt ln (mRnA gt ln (ta + 1) gu 0) (nI 58)) (mRnU gt ln (ta + 1) gu 0) 1) (nI 44)) (mRnU gt ln (mTkA gt ln (mRnA gt ln (ta + 1) gu 0) (nI 58)) (mRnU gt ln (ta + 1) gu 0) 1) 2) (nI 44) else mRnA gt ln (mTkA gt ln (mRnA gt ln (mTkA gt ln (mRnA gt ln (mTkA gt ln (mRnA gt ln (ta + 1) gu 0) (nI 58)) (mRnU gt ln (ta + 1) gu 0) 1) (nI 44)) (mRnU gt ln (mTkA gt ln (mRnA gt ln (ta + 1) gu 0) (nI 58)) (mRnU gt ln (ta + 1) gu 0) 1) 2) (nI 44)) (mRnU gt ln (mTkA gt ln (mRnA gt ln (mTkA gt ln (mRnA gt ln (ta + 1) gu 0) (nI 58)) (mRnU gt ln (ta + 1) gu 0) 1) (nI 44)) (mRnU gt ln (mTkA gt ln (mRnA gt ln (ta + 1) gu 0) (nI 58)) (mRnU gt ln (ta + 1) gu 0) 1) 2) 3 := by
  unfold mRoA
  rw [if_neg (show ¬ mCd gt ln ta = 0 by rw [h]; decide), if_neg (show ¬ mCd gt ln ta = nI 97 by rw [h]; decide), if_neg (show ¬ mCd gt ln ta = nI 98 by rw [h]; decide), if_neg (show ¬ mCd gt ln ta = nI 99 by rw [h]; decide), if_neg (show ¬ mCd gt ln ta = nI 100 by rw [h]; decide), if_neg (show ¬ mCd gt ln ta = nI 101 by rw [h]; decide), if_neg (show ¬ mCd gt ln ta = nI 102 by rw [h]; decide), if_neg (show ¬ mCd gt ln ta = nI 103 by rw [h]; decide), if_neg (show ¬ mCd gt ln ta = nI 104 by rw [h]; decide), if_neg (show ¬ mCd gt ln ta = nI 105 by rw [h]; decide), if_neg (show ¬ mCd gt ln ta = nI 106 by rw [h]; decide), if_neg (show ¬ mCd gt ln ta = nI 107 by rw [h]; decide), if_neg (show ¬ mCd gt ln ta = nI 108 by rw [h]; decide), if_neg (show ¬ mCd gt ln ta = nI 109 by rw [h]; decide), if_neg (show ¬ mCd gt ln ta = nI 110 by rw [h]; decide), if_neg (show ¬ mCd gt ln ta = nI 111 by rw [h]; decide), if_neg (show ¬ mCd gt ln ta = nI 112 by rw [h]; decide), if_neg (show ¬ mCd gt ln ta = nI 113 by rw [h]; decide), if_neg (show ¬ mCd gt ln ta = nI 114 by rw [h]; decide), if_pos h]
theorem mRoA_108 {gt : Nat → Int32} {ln ta : Nat} {gu : Nat → Int32} (h : mCd gt ln ta = nI 108) : mRoA gt ln ta gu = if mRn gt ln (ta + 1) gu 0 = 0 then mRnA gt ln (ta + 1) gu 0 else if mRc gt ln (mRnA gt ln (ta + 1) gu 0) (mRnU gt ln (ta + 1) gu 0) = 0 then mRcA gt ln (mRnA gt ln (ta + 1) gu 0) (mRnU gt ln (ta + 1) gu 0) else if mTk gt ln (mRcA gt ln (mRnA gt ln (ta + 1) gu 0) (mRnU gt ln (ta + 1) gu 0)) (nI 61) = 0 then mTkA gt ln (mRcA gt ln (mRnA gt ln (ta + 1) gu 0) (mRnU gt ln (ta + 1) gu 0)) (nI 61) else mRnA gt ln (mTkA gt ln (mRcA gt ln (mRnA gt ln (ta + 1) gu 0) (mRnU gt ln (ta + 1) gu 0)) (nI 61)) (mRcU gt ln (mRnA gt ln (ta + 1) gu 0) (mRnU gt ln (ta + 1) gu 0)) 2 := by
  unfold mRoA
  rw [if_neg (show ¬ mCd gt ln ta = 0 by rw [h]; decide), if_neg (show ¬ mCd gt ln ta = nI 97 by rw [h]; decide), if_neg (show ¬ mCd gt ln ta = nI 98 by rw [h]; decide), if_neg (show ¬ mCd gt ln ta = nI 99 by rw [h]; decide), if_neg (show ¬ mCd gt ln ta = nI 100 by rw [h]; decide), if_neg (show ¬ mCd gt ln ta = nI 101 by rw [h]; decide), if_neg (show ¬ mCd gt ln ta = nI 102 by rw [h]; decide), if_neg (show ¬ mCd gt ln ta = nI 103 by rw [h]; decide), if_neg (show ¬ mCd gt ln ta = nI 104 by rw [h]; decide), if_neg (show ¬ mCd gt ln ta = nI 105 by rw [h]; decide), if_neg (show ¬ mCd gt ln ta = nI 106 by rw [h]; decide), if_neg (show ¬ mCd gt ln ta = nI 107 by rw [h]; decide), if_pos h]
theorem mRoA_119 {gt : Nat → Int32} {ln ta : Nat} {gu : Nat → Int32} (h : mCd gt ln ta = nI 119) : mRoA gt ln ta gu = mRwA gt ln (ta + 1) gu := by
  unfold mRoA
  rw [if_neg (show ¬ mCd gt ln ta = 0 by rw [h]; decide), if_neg (show ¬ mCd gt ln ta = nI 97 by rw [h]; decide), if_neg (show ¬ mCd gt ln ta = nI 98 by rw [h]; decide), if_neg (show ¬ mCd gt ln ta = nI 99 by rw [h]; decide), if_neg (show ¬ mCd gt ln ta = nI 100 by rw [h]; decide), if_neg (show ¬ mCd gt ln ta = nI 101 by rw [h]; decide), if_neg (show ¬ mCd gt ln ta = nI 102 by rw [h]; decide), if_neg (show ¬ mCd gt ln ta = nI 103 by rw [h]; decide), if_neg (show ¬ mCd gt ln ta = nI 104 by rw [h]; decide), if_neg (show ¬ mCd gt ln ta = nI 105 by rw [h]; decide), if_neg (show ¬ mCd gt ln ta = nI 106 by rw [h]; decide), if_neg (show ¬ mCd gt ln ta = nI 107 by rw [h]; decide), if_neg (show ¬ mCd gt ln ta = nI 108 by rw [h]; decide), if_neg (show ¬ mCd gt ln ta = nI 109 by rw [h]; decide), if_neg (show ¬ mCd gt ln ta = nI 110 by rw [h]; decide), if_neg (show ¬ mCd gt ln ta = nI 111 by rw [h]; decide), if_neg (show ¬ mCd gt ln ta = nI 112 by rw [h]; decide), if_neg (show ¬ mCd gt ln ta = nI 113 by rw [h]; decide), if_neg (show ¬ mCd gt ln ta = nI 114 by rw [h]; decide), if_neg (show ¬ mCd gt ln ta = nI 115 by rw [h]; decide), if_neg (show ¬ mCd gt ln ta = nI 116 by rw [h]; decide), if_neg (show ¬ mCd gt ln ta = nI 117 by rw [h]; decide), if_neg (show ¬ mCd gt ln ta = nI 118 by rw [h]; decide), if_pos h]
theorem mRoA_109 {gt : Nat → Int32} {ln ta : Nat} {gu : Nat → Int32} (h : mCd gt ln ta = nI 109) : mRoA gt ln ta gu = if mRn gt ln (ta + 1) gu 0 = 0 then mRnA gt ln (ta + 1) gu 0 else if mTk gt ln (mRnA gt ln (ta + 1) gu 0) (nI 62) = 0 then mTkA gt ln (mRnA gt ln (ta + 1) gu 0) (nI 62) else mRnA gt ln (mTkA gt ln (mRnA gt ln (ta + 1) gu 0) (nI 62)) (mRnU gt ln (ta + 1) gu 0) 1 := by
  unfold mRoA
  rw [if_neg (show ¬ mCd gt ln ta = 0 by rw [h]; decide), if_neg (show ¬ mCd gt ln ta = nI 97 by rw [h]; decide), if_neg (show ¬ mCd gt ln ta = nI 98 by rw [h]; decide), if_neg (show ¬ mCd gt ln ta = nI 99 by rw [h]; decide), if_neg (show ¬ mCd gt ln ta = nI 100 by rw [h]; decide), if_neg (show ¬ mCd gt ln ta = nI 101 by rw [h]; decide), if_neg (show ¬ mCd gt ln ta = nI 102 by rw [h]; decide), if_neg (show ¬ mCd gt ln ta = nI 103 by rw [h]; decide), if_neg (show ¬ mCd gt ln ta = nI 104 by rw [h]; decide), if_neg (show ¬ mCd gt ln ta = nI 105 by rw [h]; decide), if_neg (show ¬ mCd gt ln ta = nI 106 by rw [h]; decide), if_neg (show ¬ mCd gt ln ta = nI 107 by rw [h]; decide), if_neg (show ¬ mCd gt ln ta = nI 108 by rw [h]; decide), if_pos h]
theorem mRoA_112 {gt : Nat → Int32} {ln ta : Nat} {gu : Nat → Int32} (h : mCd gt ln ta = nI 112) : mRoA gt ln ta gu = ta + 1 := by
  unfold mRoA
  rw [if_neg (show ¬ mCd gt ln ta = 0 by rw [h]; decide), if_neg (show ¬ mCd gt ln ta = nI 97 by rw [h]; decide), if_neg (show ¬ mCd gt ln ta = nI 98 by rw [h]; decide), if_neg (show ¬ mCd gt ln ta = nI 99 by rw [h]; decide), if_neg (show ¬ mCd gt ln ta = nI 100 by rw [h]; decide), if_neg (show ¬ mCd gt ln ta = nI 101 by rw [h]; decide), if_neg (show ¬ mCd gt ln ta = nI 102 by rw [h]; decide), if_neg (show ¬ mCd gt ln ta = nI 103 by rw [h]; decide), if_neg (show ¬ mCd gt ln ta = nI 104 by rw [h]; decide), if_neg (show ¬ mCd gt ln ta = nI 105 by rw [h]; decide), if_neg (show ¬ mCd gt ln ta = nI 106 by rw [h]; decide), if_neg (show ¬ mCd gt ln ta = nI 107 by rw [h]; decide), if_neg (show ¬ mCd gt ln ta = nI 108 by rw [h]; decide), if_neg (show ¬ mCd gt ln ta = nI 109 by rw [h]; decide), if_neg (show ¬ mCd gt ln ta = nI 110 by rw [h]; decide), if_neg (show ¬ mCd gt ln ta = nI 111 by rw [h]; decide), if_pos h]
theorem mRoA_99 {gt : Nat → Int32} {ln ta : Nat} {gu : Nat → Int32} (h : mCd gt ln ta = nI 99) : mRoA gt ln ta gu = mRnA gt ln (ta + 1) gu 0 := by
  unfold mRoA
  rw [if_neg (show ¬ mCd gt ln ta = 0 by rw [h]; decide), if_neg (show ¬ mCd gt ln ta = nI 97 by rw [h]; decide), if_neg (show ¬ mCd gt ln ta = nI 98 by rw [h]; decide), if_pos h]
theorem mRoA_97 {gt : Nat → Int32} {ln ta : Nat} {gu : Nat → Int32} (h : mCd gt ln ta = nI 97) : mRoA gt ln ta gu = ta + 1 := by
  unfold mRoA
  rw [if_neg (show ¬ mCd gt ln ta = 0 by rw [h]; decide), if_pos h]
theorem mRoA_107 {gt : Nat → Int32} {ln ta : Nat} {gu : Nat → Int32} (h : mCd gt ln ta = nI 107) : mRoA gt ln ta gu = ta + 1 := by
  unfold mRoA
  rw [if_neg (show ¬ mCd gt ln ta = 0 by rw [h]; decide), if_neg (show ¬ mCd gt ln ta = nI 97 by rw [h]; decide), if_neg (show ¬ mCd gt ln ta = nI 98 by rw [h]; decide), if_neg (show ¬ mCd gt ln ta = nI 99 by rw [h]; decide), if_neg (show ¬ mCd gt ln ta = nI 100 by rw [h]; decide), if_neg (show ¬ mCd gt ln ta = nI 101 by rw [h]; decide), if_neg (show ¬ mCd gt ln ta = nI 102 by rw [h]; decide), if_neg (show ¬ mCd gt ln ta = nI 103 by rw [h]; decide), if_neg (show ¬ mCd gt ln ta = nI 104 by rw [h]; decide), if_neg (show ¬ mCd gt ln ta = nI 105 by rw [h]; decide), if_neg (show ¬ mCd gt ln ta = nI 106 by rw [h]; decide), if_pos h]
theorem mRoA_d {gt : Nat → Int32} {ln ta : Nat} {gu : Nat → Int32} (h : ∀ k, k ∈ [97, 99, 107, 108, 109, 112, 115, 119] → ¬ mCd gt ln ta = nI k) : mRoA gt ln ta gu = ta := by
  unfold mRoA
  exact itd (fun _ => rfl) (fun _ => itd (fun c => absurd c (h 97 (by decide))) (fun _ => itd (fun c => rfl) (fun _ => itd (fun c => absurd c (h 99 (by decide))) (fun _ => itd (fun c => rfl) (fun _ => itd (fun c => rfl) (fun _ => itd (fun c => rfl) (fun _ => itd (fun c => rfl) (fun _ => itd (fun c => rfl) (fun _ => itd (fun c => rfl) (fun _ => itd (fun c => rfl) (fun _ => itd (fun c => absurd c (h 107 (by decide))) (fun _ => itd (fun c => absurd c (h 108 (by decide))) (fun _ => itd (fun c => absurd c (h 109 (by decide))) (fun _ => itd (fun c => rfl) (fun _ => itd (fun c => rfl) (fun _ => itd (fun c => absurd c (h 112 (by decide))) (fun _ => itd (fun c => rfl) (fun _ => itd (fun c => rfl) (fun _ => itd (fun c => absurd c (h 115 (by decide))) (fun _ => itd (fun c => rfl) (fun _ => itd (fun c => rfl) (fun _ => itd (fun c => rfl) (fun _ => itd (fun c => absurd c (h 119 (by decide))) (fun _ => rfl))))))))))))))))))))))))
theorem mRoU_115 {gt : Nat → Int32} {ln ta : Nat} {gu : Nat → Int32} (h : mCd gt ln ta = nI 115) : mRoU gt ln ta gu = if mRn gt ln (ta + 1) gu 0 = 0 then mRnU gt ln (ta + 1) gu 0 else if mTk gt ln (mRnA gt ln (ta + 1) gu 0) (nI 58) = 0 then mRnU gt ln (ta + 1) gu 0 else if mRn gt ln (mTkA gt ln (mRnA gt ln (ta + 1) gu 0) (nI 58)) (mRnU gt ln (ta + 1) gu 0) 1 = 0 then mRnU gt ln (mTkA gt ln (mRnA gt ln (ta + 1) gu 0) (nI 58)) (mRnU gt ln (ta + 1) gu 0) 1 else if mTk gt ln (mRnA gt ln (mTkA gt ln (mRnA gt ln (ta + 1) gu 0) (nI 58)) (mRnU gt ln (ta + 1) gu 0) 1) (nI 44) = 0 then mRnU gt ln (mTkA gt ln (mRnA gt ln (ta + 1) gu 0) (nI 58)) (mRnU gt ln (ta + 1) gu 0) 1 else if mRn gt ln (mTkA gt ln (mRnA gt ln (mTkA gt ln (mRnA gt ln (ta + 1) gu 0) (nI 58)) (mRnU gt ln (ta + 1) gu 0) 1) (nI 44)) (mRnU gt ln (mTkA gt ln (mRnA gt ln (ta + 1) gu 0) (nI 58)) (mRnU gt ln (ta + 1) gu 0) 1) 2 = 0 then mRnU gt ln (mTkA gt ln (mRnA gt ln (mTkA gt ln (mRnA gt ln (ta + 1) gu 0) (nI 58)) (mRnU gt ln (ta + 1) gu 0) 1) (nI 44)) (mRnU gt ln (mTkA gt ln (mRnA gt ln (ta + 1) gu 0) (nI 58)) (mRnU gt ln (ta + 1) gu 0) 1) 2 else if mTk gt ln (mRnA gt ln (mTkA gt ln (mRnA gt ln (mTkA gt ln (mRnA gt ln (ta + 1) gu 0) (nI 58)) (mRnU gt ln (ta + 1) gu 0) 1) (nI 44)) (mRnU gt ln (mTkA gt ln (mRnA gt ln (ta + 1) gu 0) (nI 58)) (mRnU gt ln (ta + 1) gu 0) 1) 2) (nI 44) = 0 then mRnU gt ln (mTkA gt ln (mRnA gt ln (mTkA gt ln (mRnA gt ln (ta + 1) gu 0) (nI 58)) (mRnU gt ln (ta + 1) gu 0) 1) (nI 44)) (mRnU gt ln (mTkA gt ln (mRnA gt ln (ta + 1) gu 0) (nI 58)) (mRnU gt ln (ta + 1) gu 0) 1) 2 else mRnU gt ln (mTkA gt ln (mRnA gt ln (mTkA gt ln (mRnA gt ln (mTkA gt ln (mRnA gt ln (ta + 1) gu 0) (nI 58)) (mRnU gt ln (ta + 1) gu 0) 1) (nI 44)) (mRnU gt ln (mTkA gt ln (mRnA gt ln (ta + 1) gu 0) (nI 58)) (mRnU gt ln (ta + 1) gu 0) 1) 2) (nI 44)) (mRnU gt ln (mTkA gt ln (mRnA gt ln (mTkA gt ln (mRnA gt ln (ta + 1) gu 0) (nI 58)) (mRnU gt ln (ta + 1) gu 0) 1) (nI 44)) (mRnU gt ln (mTkA gt ln (mRnA gt ln (ta + 1) gu 0) (nI 58)) (mRnU gt ln (ta + 1) gu 0) 1) 2) 3 := by
  unfold mRoU
  rw [if_neg (show ¬ mCd gt ln ta = 0 by rw [h]; decide), if_neg (show ¬ mCd gt ln ta = nI 97 by rw [h]; decide), if_neg (show ¬ mCd gt ln ta = nI 98 by rw [h]; decide), if_neg (show ¬ mCd gt ln ta = nI 99 by rw [h]; decide), if_neg (show ¬ mCd gt ln ta = nI 100 by rw [h]; decide), if_neg (show ¬ mCd gt ln ta = nI 101 by rw [h]; decide), if_neg (show ¬ mCd gt ln ta = nI 102 by rw [h]; decide), if_neg (show ¬ mCd gt ln ta = nI 103 by rw [h]; decide), if_neg (show ¬ mCd gt ln ta = nI 104 by rw [h]; decide), if_neg (show ¬ mCd gt ln ta = nI 105 by rw [h]; decide), if_neg (show ¬ mCd gt ln ta = nI 106 by rw [h]; decide), if_neg (show ¬ mCd gt ln ta = nI 107 by rw [h]; decide), if_neg (show ¬ mCd gt ln ta = nI 108 by rw [h]; decide), if_neg (show ¬ mCd gt ln ta = nI 109 by rw [h]; decide), if_neg (show ¬ mCd gt ln ta = nI 110 by rw [h]; decide), if_neg (show ¬ mCd gt ln ta = nI 111 by rw [h]; decide), if_neg (show ¬ mCd gt ln ta = nI 112 by rw [h]; decide), if_neg (show ¬ mCd gt ln ta = nI 113 by rw [h]; decide), if_neg (show ¬ mCd gt ln ta = nI 114 by rw [h]; decide), if_pos h]
theorem mRoU_108 {gt : Nat → Int32} {ln ta : Nat} {gu : Nat → Int32} (h : mCd gt ln ta = nI 108) : mRoU gt ln ta gu = if mRn gt ln (ta + 1) gu 0 = 0 then mRnU gt ln (ta + 1) gu 0 else if mRc gt ln (mRnA gt ln (ta + 1) gu 0) (mRnU gt ln (ta + 1) gu 0) = 0 then mRcU gt ln (mRnA gt ln (ta + 1) gu 0) (mRnU gt ln (ta + 1) gu 0) else if mTk gt ln (mRcA gt ln (mRnA gt ln (ta + 1) gu 0) (mRnU gt ln (ta + 1) gu 0)) (nI 61) = 0 then mRcU gt ln (mRnA gt ln (ta + 1) gu 0) (mRnU gt ln (ta + 1) gu 0) else mRnU gt ln (mTkA gt ln (mRcA gt ln (mRnA gt ln (ta + 1) gu 0) (mRnU gt ln (ta + 1) gu 0)) (nI 61)) (mRcU gt ln (mRnA gt ln (ta + 1) gu 0) (mRnU gt ln (ta + 1) gu 0)) 2 := by
  unfold mRoU
  rw [if_neg (show ¬ mCd gt ln ta = 0 by rw [h]; decide), if_neg (show ¬ mCd gt ln ta = nI 97 by rw [h]; decide), if_neg (show ¬ mCd gt ln ta = nI 98 by rw [h]; decide), if_neg (show ¬ mCd gt ln ta = nI 99 by rw [h]; decide), if_neg (show ¬ mCd gt ln ta = nI 100 by rw [h]; decide), if_neg (show ¬ mCd gt ln ta = nI 101 by rw [h]; decide), if_neg (show ¬ mCd gt ln ta = nI 102 by rw [h]; decide), if_neg (show ¬ mCd gt ln ta = nI 103 by rw [h]; decide), if_neg (show ¬ mCd gt ln ta = nI 104 by rw [h]; decide), if_neg (show ¬ mCd gt ln ta = nI 105 by rw [h]; decide), if_neg (show ¬ mCd gt ln ta = nI 106 by rw [h]; decide), if_neg (show ¬ mCd gt ln ta = nI 107 by rw [h]; decide), if_pos h]
theorem mRoU_119 {gt : Nat → Int32} {ln ta : Nat} {gu : Nat → Int32} (h : mCd gt ln ta = nI 119) : mRoU gt ln ta gu = mRwU gt ln (ta + 1) gu := by
  unfold mRoU
  rw [if_neg (show ¬ mCd gt ln ta = 0 by rw [h]; decide), if_neg (show ¬ mCd gt ln ta = nI 97 by rw [h]; decide), if_neg (show ¬ mCd gt ln ta = nI 98 by rw [h]; decide), if_neg (show ¬ mCd gt ln ta = nI 99 by rw [h]; decide), if_neg (show ¬ mCd gt ln ta = nI 100 by rw [h]; decide), if_neg (show ¬ mCd gt ln ta = nI 101 by rw [h]; decide), if_neg (show ¬ mCd gt ln ta = nI 102 by rw [h]; decide), if_neg (show ¬ mCd gt ln ta = nI 103 by rw [h]; decide), if_neg (show ¬ mCd gt ln ta = nI 104 by rw [h]; decide), if_neg (show ¬ mCd gt ln ta = nI 105 by rw [h]; decide), if_neg (show ¬ mCd gt ln ta = nI 106 by rw [h]; decide), if_neg (show ¬ mCd gt ln ta = nI 107 by rw [h]; decide), if_neg (show ¬ mCd gt ln ta = nI 108 by rw [h]; decide), if_neg (show ¬ mCd gt ln ta = nI 109 by rw [h]; decide), if_neg (show ¬ mCd gt ln ta = nI 110 by rw [h]; decide), if_neg (show ¬ mCd gt ln ta = nI 111 by rw [h]; decide), if_neg (show ¬ mCd gt ln ta = nI 112 by rw [h]; decide), if_neg (show ¬ mCd gt ln ta = nI 113 by rw [h]; decide), if_neg (show ¬ mCd gt ln ta = nI 114 by rw [h]; decide), if_neg (show ¬ mCd gt ln ta = nI 115 by rw [h]; decide), if_neg (show ¬ mCd gt ln ta = nI 116 by rw [h]; decide), if_neg (show ¬ mCd gt ln ta = nI 117 by rw [h]; decide), if_neg (show ¬ mCd gt ln ta = nI 118 by rw [h]; decide), if_pos h]
theorem mRoU_109 {gt : Nat → Int32} {ln ta : Nat} {gu : Nat → Int32} (h : mCd gt ln ta = nI 109) : mRoU gt ln ta gu = if mRn gt ln (ta + 1) gu 0 = 0 then mRnU gt ln (ta + 1) gu 0 else if mTk gt ln (mRnA gt ln (ta + 1) gu 0) (nI 62) = 0 then mRnU gt ln (ta + 1) gu 0 else mRnU gt ln (mTkA gt ln (mRnA gt ln (ta + 1) gu 0) (nI 62)) (mRnU gt ln (ta + 1) gu 0) 1 := by
  unfold mRoU
  rw [if_neg (show ¬ mCd gt ln ta = 0 by rw [h]; decide), if_neg (show ¬ mCd gt ln ta = nI 97 by rw [h]; decide), if_neg (show ¬ mCd gt ln ta = nI 98 by rw [h]; decide), if_neg (show ¬ mCd gt ln ta = nI 99 by rw [h]; decide), if_neg (show ¬ mCd gt ln ta = nI 100 by rw [h]; decide), if_neg (show ¬ mCd gt ln ta = nI 101 by rw [h]; decide), if_neg (show ¬ mCd gt ln ta = nI 102 by rw [h]; decide), if_neg (show ¬ mCd gt ln ta = nI 103 by rw [h]; decide), if_neg (show ¬ mCd gt ln ta = nI 104 by rw [h]; decide), if_neg (show ¬ mCd gt ln ta = nI 105 by rw [h]; decide), if_neg (show ¬ mCd gt ln ta = nI 106 by rw [h]; decide), if_neg (show ¬ mCd gt ln ta = nI 107 by rw [h]; decide), if_neg (show ¬ mCd gt ln ta = nI 108 by rw [h]; decide), if_pos h]
theorem mRoU_112 {gt : Nat → Int32} {ln ta : Nat} {gu : Nat → Int32} (h : mCd gt ln ta = nI 112) : mRoU gt ln ta gu = gu := by
  unfold mRoU
  rw [if_neg (show ¬ mCd gt ln ta = 0 by rw [h]; decide), if_neg (show ¬ mCd gt ln ta = nI 97 by rw [h]; decide), if_neg (show ¬ mCd gt ln ta = nI 98 by rw [h]; decide), if_neg (show ¬ mCd gt ln ta = nI 99 by rw [h]; decide), if_neg (show ¬ mCd gt ln ta = nI 100 by rw [h]; decide), if_neg (show ¬ mCd gt ln ta = nI 101 by rw [h]; decide), if_neg (show ¬ mCd gt ln ta = nI 102 by rw [h]; decide), if_neg (show ¬ mCd gt ln ta = nI 103 by rw [h]; decide), if_neg (show ¬ mCd gt ln ta = nI 104 by rw [h]; decide), if_neg (show ¬ mCd gt ln ta = nI 105 by rw [h]; decide), if_neg (show ¬ mCd gt ln ta = nI 106 by rw [h]; decide), if_neg (show ¬ mCd gt ln ta = nI 107 by rw [h]; decide), if_neg (show ¬ mCd gt ln ta = nI 108 by rw [h]; decide), if_neg (show ¬ mCd gt ln ta = nI 109 by rw [h]; decide), if_neg (show ¬ mCd gt ln ta = nI 110 by rw [h]; decide), if_neg (show ¬ mCd gt ln ta = nI 111 by rw [h]; decide), if_pos h]
theorem mRoU_99 {gt : Nat → Int32} {ln ta : Nat} {gu : Nat → Int32} (h : mCd gt ln ta = nI 99) : mRoU gt ln ta gu = mRnU gt ln (ta + 1) gu 0 := by
  unfold mRoU
  rw [if_neg (show ¬ mCd gt ln ta = 0 by rw [h]; decide), if_neg (show ¬ mCd gt ln ta = nI 97 by rw [h]; decide), if_neg (show ¬ mCd gt ln ta = nI 98 by rw [h]; decide), if_pos h]
theorem mRoU_97 {gt : Nat → Int32} {ln ta : Nat} {gu : Nat → Int32} (h : mCd gt ln ta = nI 97) : mRoU gt ln ta gu = gu := by
  unfold mRoU
  rw [if_neg (show ¬ mCd gt ln ta = 0 by rw [h]; decide), if_pos h]
theorem mRoU_107 {gt : Nat → Int32} {ln ta : Nat} {gu : Nat → Int32} (h : mCd gt ln ta = nI 107) : mRoU gt ln ta gu = gu := by
  unfold mRoU
  rw [if_neg (show ¬ mCd gt ln ta = 0 by rw [h]; decide), if_neg (show ¬ mCd gt ln ta = nI 97 by rw [h]; decide), if_neg (show ¬ mCd gt ln ta = nI 98 by rw [h]; decide), if_neg (show ¬ mCd gt ln ta = nI 99 by rw [h]; decide), if_neg (show ¬ mCd gt ln ta = nI 100 by rw [h]; decide), if_neg (show ¬ mCd gt ln ta = nI 101 by rw [h]; decide), if_neg (show ¬ mCd gt ln ta = nI 102 by rw [h]; decide), if_neg (show ¬ mCd gt ln ta = nI 103 by rw [h]; decide), if_neg (show ¬ mCd gt ln ta = nI 104 by rw [h]; decide), if_neg (show ¬ mCd gt ln ta = nI 105 by rw [h]; decide), if_neg (show ¬ mCd gt ln ta = nI 106 by rw [h]; decide), if_pos h]
