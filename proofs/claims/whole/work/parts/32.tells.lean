/-! what both tell: the face -/
theorem ix_of {n : Nat} {x : Int32} (hn : n < 2 ^ 31) (c : ¬ hasS n x = 0) : ix x < n ∧ nI (ix x) = x := by
  obtain ⟨i, hi, rfl⟩ := hasS_of hn c
  rw [ix_nI (by omega)]; exact ⟨hi, rfl⟩
theorem ic_of {y : Int32} (c : ¬ isC y = 0) : ix y < 3 ∧ nI (ix y) = y := by
  obtain ⟨i, hi, rfl⟩ := isC_of c
  rw [ix_nI (by omega)]; exact ⟨hi, rfl⟩
theorem mSb_q (g : Nat → Int32) : ∀ k, mSb g k = mSq (mBa g) k
  | 0 => rfl
  | k + 1 => by rw [mSb, mSq, mSb_q g k]
theorem cSt_q {P Q : Nat → Int32} : ∀ k, (∀ p, p < k → P p = Q p) → cSt P k = mSq Q k
  | 0, _ => rfl
  | k + 1, hk => by
    rw [cSt, mSq, cSt_q k (fun p hp => hk p (by omega)), hk k (by omega)]
    by_cases c : Q k = 0
    · rw [if_pos c, if_pos c, nI_0, Int32.or_zero]
    · rw [if_neg c, if_neg c]
theorem ffn_congr {x y : Nat → Int32} {n : Nat} (h : ∀ i, x i = 0 ↔ y i = 0) : ffn x n = ffn y n := by
  unfold ffn
  congr 1
  funext i
  rw [decide_eq_decide.mpr (h i)]
theorem ffz_congr {x y : Nat → Int32} {n : Nat} (h : ∀ i, x i = 0 ↔ y i = 0) : ffz x n = ffz y n := by
  unfold ffz
  congr 1
  funext i
  rw [decide_eq_decide.mpr (h i)]
theorem an_iff {P : Nat → Int32} : ∀ n, an P n = 0 ↔ ∀ i, i < n → ¬ P i = 0
  | 0 => ⟨fun _ i hi => absurd hi (Nat.not_lt_zero i), fun _ => nI_0⟩
  | n + 1 => by
    rw [an]
    by_cases c : P n = 0
    · rw [if_pos c]
      exact ⟨fun z => absurd z (by decide), fun z => absurd c (z n (by omega))⟩
    · rw [if_neg c, an_iff n]
      constructor
      · intro z i hi
        rcases Nat.lt_or_ge i n with e | e
        · exact z i e
        · rw [show i = n by omega]; exact c
      · intro z i hi
        exact z i (by omega)
theorem mTw_iff {g : Nat → Int32} {co : Nat} : ∀ n, mTw g co n = 0 ↔ ∀ i, i < n → ¬ mIp (mNd g i co) = 0
  | 0 => ⟨fun _ i hi => absurd hi (Nat.not_lt_zero i), fun _ => nI_0⟩
  | n + 1 => by
    by_cases h : mTw g co n = 0
    · by_cases c : mIp (mNd g n co) = 0
      · rw [mTw_p h c]
        exact ⟨fun z => absurd z (by decide), fun z => absurd c (z n (by omega))⟩
      · rw [mTw_n h c]
        refine ⟨fun _ i hi => ?_, fun _ => nI_0⟩
        rcases Nat.lt_or_ge i n with e | e
        · exact (mTw_iff n).mp h i e
        · rw [show i = n by omega]; exact c
    · rw [mTw_a h]
      exact ⟨fun z => absurd z (by decide), fun z => absurd ((mTw_iff n).mpr (fun i hi => z i (by omega))) h⟩
section
variable {n : Nat} {f g : Nat → Int32}
theorem V_is (h : Rel n f g) (x : Int32) : mIs g x = hasS n x := mIs_eq (R_4 h) (R_n h) x
theorem is_p (h : Rel n f g) {x : Int32} (c : ¬ hasS n x = 0) : ix x < n := by
  have hn := R_n h
  exact (ix_of (by omega) c).1
theorem V_of (h : Rel n f g) (x y : Int32) : fOf f n x y = mOf g n x y := by
  unfold fOf mOf
  rw [V_is h]
  by_cases c : hasS n x = 0
  · rw [if_pos c, if_pos c]
  · rw [if_neg c, if_neg c]
    have hp := is_p h c
    rw [S_feet (R_sh h hp), V_ft h _ (by omega), V_an h hp, V_ba h hp, V_ju h hp]
    have e : (if mHa g (ix x) = 0 then nI 0 else nI 1) = g (13 + 14 * ix x + 10) := by
      unfold mHa
      rcases (R_iv h hp).1 with e | e
      · rw [e, if_neg (show ¬ nI 0 = nI 1 by decide), if_pos nI_0]
      · rw [e, if_pos (show nI 1 = nI 1 from rfl), if_neg (show ¬ nI 1 = 0 by decide)]
    rw [e]
theorem V_in (h : Rel n f g) (x y z : Int32) : fIn f n x y z = mIn g n x y z := by
  unfold fIn mIn
  rw [V_is h]
  by_cases c : hasS n x = 0
  · rw [if_pos c, if_pos c]
  · rw [if_neg c, if_neg c]
    have hp := is_p h c
    by_cases c2 : isC y = 0
    · rw [if_pos c2, if_pos (show mIc y = 0 from c2)]
    · rw [if_neg c2, if_neg (show ¬ mIc y = 0 from c2)]
      have hc := (ic_of c2).1
      rw [S_dens (R_sh h hp) hc, S_wish (R_sh h hp) hc, S_light (R_sh h hp) hc, V_pn h hp hc]
      rw [show cOn f (ix x) (ix y) = mOn g (ix x) (ix y) from V_on h hp hc]
      have e : (if cAn f (ix x) = 0 then (-6 : Int32) else f (13 + 14 * ix x + (11 + ix y)) + nI 100) = mAn g (ix x) (ix y) := by
        unfold mAn
        rw [V_an h hp]
        unfold mHa
        by_cases c3 : g (13 + 14 * ix x + 10) = nI 1
        · rw [if_pos c3, if_pos c3, if_neg (show ¬ nI 1 = 0 by decide), S_ans (R_sh h hp) ((V_has h hp).mp c3) hc]
        · rw [if_neg c3, if_neg c3, if_pos nI_0]
      rw [e]
theorem V_la (h : Rel n f g) (y z : Int32) : fLa f y z = mLa g y z := by
  unfold fLa mLa
  by_cases c2 : isC y = 0
  · rw [if_pos c2, if_pos (show mIc y = 0 from c2)]
  · rw [if_neg c2, if_neg (show ¬ mIc y = 0 from c2)]
    have hc := (ic_of c2).1
    rw [R_age h hc, R_trim h hc]
    rw [show g (7 + ix y) * f 3 / nI 100 = mLo g (ix y) by rw [R_set h (c := 3) (by decide)]; rfl]
    by_cases c3 : mIw z (nI 0) (nI 2) = 0
    · rw [if_pos c3]
      have e0 : ¬ z = nI 0 := fun e => absurd c3 (by rw [e]; decide)
      have e1 : ¬ z = nI 1 := fun e => absurd c3 (by rw [e]; decide)
      have e2 : ¬ z = nI 2 := fun e => absurd c3 (by rw [e]; decide)
      rw [if_neg e0, if_neg e1, if_neg e2]
    · rw [if_neg c3]
      obtain ⟨i, hi, rfl⟩ := isW_of (n := 2) (by omega) c3
      rcases (by omega : i = 0 ∨ i = 1 ∨ i = 2) with e | e | e
      · subst e; rw [if_pos rfl, if_pos nI_0]
      · subst e; rw [if_neg (by decide), if_pos rfl, if_neg (by decide), if_pos rfl]
      · subst e; rw [if_neg (by decide), if_neg (by decide), if_pos rfl, if_neg (by decide), if_neg (by decide)]
theorem V_co (h : Rel n f g) (L z : Nat) (x : Int32) : fCo f n L z x = mCo g n L z x := by
  unfold fCo mCo
  rw [V_ft h n (Nat.le_refl n), R_pr h, R_ch h, R_set h (c := 0) (by decide), R_set h (c := 1) (by decide), R_set h (c := 2) (by decide), R_set h (c := 3) (by decide), mSb_q,
    cSt_q (P := fun p => cBa f p) (Q := mBa g) n (fun p hp => V_ba h hp), cSt_q (P := fun p => cAn f p) (Q := mHa g) n (fun p hp => V_an h hp),
    cSt_q (P := fun p => cJu f n p) (Q := mJu g n) n (fun p hp => V_ju h hp), cSt_q (P := fun p => cOo f p) (Q := mOo g) n (fun p hp => V_oo h hp)]
theorem V_nd (h : Rel n f g) {p c : Nat} (hp : p < n) (hc : c < 3) : cNd f p c (f (4 + c) * f 3 / nI 100) = mNd g p c := by
  unfold cNd mNd
  rw [V_lo h hc, S_dens (R_sh h hp) hc, S_wish (R_sh h hp) hc, R_trim h hc, Int32.add_comm (g (13 + 14 * p + (1 + c)))]
theorem V_ne (h : Rel n f g) (x y : Int32) : fNe f n x y = mNe g n x y := by
  unfold fNe mNe
  rw [V_is h]
  by_cases c : hasS n x = 0
  · rw [if_pos c, if_pos c]
  · rw [if_neg c, if_neg c]
    by_cases c2 : isC y = 0
    · rw [if_pos c2, if_pos (show mIc y = 0 from c2)]
    · rw [if_neg c2, if_neg (show ¬ mIc y = 0 from c2), V_nd h (is_p h c) (ic_of c2).1]; rfl
theorem V_if (h : Rel n f g) (x y z : Int32) : fIf f n x y z = mIf g n x y z := by
  unfold fIf mIf
  rw [V_is h]
  by_cases c : hasS n x = 0
  · rw [if_pos c, if_pos c]
  · rw [if_neg c, if_neg c]
    by_cases c2 : isC y = 0
    · rw [if_pos c2, if_pos (show mIc y = 0 from c2)]
    · rw [if_neg c2, if_neg (show ¬ mIc y = 0 from c2), V_pr h (is_p h c) (ic_of c2).1]; rfl
theorem V_ndA (h : Rel n f g) {p c i : Nat} (hp : p < n) (hc : c < 3) : cNd f p c (cLo f c i) = mNd (mAg g c i) p c := by
  unfold cNd mNd mLo cLo mAg
  rw [pk_un (by omega), pk_un (by omega), pk_us, pk_un (by omega), pk_un (by omega), R_age h hc, R_set h (c := 3) (by decide), S_dens (R_sh h hp) hc, S_wish (R_sh h hp) hc, R_trim h hc, Int32.add_comm (g (13 + 14 * p + (1 + c)))]
theorem V_hl (h : Rel n f g) {c : Nat} (hc : c < 3) : cHl f n c = mHl g n c := by
  unfold cHl mHl
  rw [ffn_congr (y := fun i => mTw (mAg g c i) c n) (fun i => ?_)]
  show an (fun k => isP (cNd f k c (cLo f c i))) n = 0 ↔ _
  rw [an_iff, mTw_iff]
  constructor
  · intro z k hk
    have := z k hk
    rw [V_ndA h hk hc] at this; exact this
  · intro z k hk
    rw [V_ndA h hk hc]; exact z k hk
theorem V_ls (h : Rel n f g) (y : Int32) : fLs f n y = mLs g n y := by
  unfold fLs mLs
  by_cases c2 : isC y = 0
  · rw [if_pos c2, if_pos (show mIc y = 0 from c2)]
  · rw [if_neg c2, if_neg (show ¬ mIc y = 0 from c2), V_hl h (ic_of c2).1]
theorem off_rng (h : Rel n f g) {p c : Nat} (hp : p < n) (hc : c < 3) (li tr : Int32) : rng (-35) 35 (mPt3 g p c li tr - nI 25 - g (13 + 14 * p + (4 + c))) := by
  obtain ⟨a1, a2⟩ : rng 0 50 (mPt3 g p c li tr) := bd_rng _
  obtain ⟨b1, b2⟩ := (R_iv h hp).2.2.1 c hc
  have e0 : (nI 25).toInt = 25 := by decide
  have e1 : (mPt3 g p c li tr - nI 25).toInt = (mPt3 g p c li tr).toInt - 25 := by rw [toInt_sub (by omega) (by omega), e0]
  unfold rng
  rw [toInt_sub (by omega) (by omega), e1]
  omega
theorem V_onB (g : Nat → Int32) {p c : Nat} (hc : c < 3) (tr : Int32) : mOn (mBt g c tr) p c = mPt3 g p c (g (13 + 14 * p + (7 + c))) tr - nI 25 - g (13 + 14 * p + (4 + c)) := by
  unfold mOn mPn mPr mPt3 mLo mBt
  rw [pk_un (by omega), pk_us, pk_un (by omega), pk_un (by omega), pk_un (by omega), pk_un (by omega)]
theorem V_so (h : Rel n f g) {c : Nat} (hc : c < 3) (tr : Int32) : ∀ k, k ≤ n → cSo f c tr k = mSo (mBt g c tr) c k ∧ rng 0 (35 * k) (cSo f c tr k)
  | 0, _ => ⟨rfl, show rng 0 (35 * ((0 : Nat) : Int)) (nI 0) from rng_nI (by decide) (by decide) (by decide)⟩
  | k + 1, hk => by
    have hn := R_n h
    obtain ⟨e, a1, a2⟩ := V_so h hc tr k (by omega)
    rw [cSo, mSo, V_onB g hc, V_ofT h (by omega) hc, iabs_mAb, ← e]
    refine ⟨rfl, ?_⟩
    obtain ⟨b1, b2⟩ := off_rng h (p := k) (by omega) hc (g (13 + 14 * k + (7 + c))) tr
    generalize mPt3 g k c (g (13 + 14 * k + (7 + c))) tr - nI 25 - g (13 + 14 * k + (4 + c)) = X at b1 b2 ⊢
    have e9 : (mAb X).toInt = if 0 ≤ X.toInt then X.toInt else -X.toInt := mAb_toInt (by omega)
    have e8 : 0 ≤ (mAb X).toInt ∧ (mAb X).toInt ≤ 35 := by rw [e9]; split <;> omega
    unfold rng
    rw [toInt_add (by omega) (by omega)]
    omega
theorem mTq_e : ∀ t, t < 42 → 1 ≤ t → mTq t = trimOf (t + 1) := by decide +kernel
theorem mTq_0 : mTq 0 = nI 0 := by decide
theorem V_lq (h : Rel n f g) {c : Nat} (hc : c < 3) : ∀ t, t ≤ 40 → mLq g n c (t + 1) = cLq f n c (t + 2) ∧ (cLq f n c (t + 2)).2 = cSo f c (cLq f n c (t + 2)).1 n
  | 0, _ => by
    rw [mLq_a (show (mLq g n c 0).2 < 0 by show (-1 : Int32) < 0; decide), mTq_0, cLq_2, (V_so h hc (nI 0) n (Nat.le_refl n)).1]
    exact ⟨rfl, rfl⟩
  | t + 1, ht => by
    obtain ⟨e, e2⟩ := V_lq h hc t (by omega)
    have h0 : ¬ (mLq g n c (t + 1)).2 < 0 := by
      rw [e, e2, i32_lt, i32_z]
      have := (V_so h hc (cLq f n c (t + 2)).1 n (Nat.le_refl n)).2.1
      omega
    have hs := (V_so h hc (trimOf (t + 2)) n (Nat.le_refl n)).1
    have ht1 : mTq (t + 1) = trimOf (t + 2) := mTq_e (t + 1) (by omega) (by omega)
    by_cases c1 : (cLq f n c (t + 2)).2 ≤ cSo f c (trimOf (t + 2)) n
    · rw [cLq_p (by omega) c1, mLq_c h0 (by rw [ht1, ← hs, e]; exact c1)]
      exact ⟨e, e2⟩
    · rw [cLq_n (by omega) c1, mLq_b h0 (by rw [ht1, ← hs, e]; exact c1), ht1, ← hs]
      exact ⟨rfl, rfl⟩
theorem V_be (h : Rel n f g) (y z : Int32) : fBe f n y z = mBe g n y z := by
  unfold fBe mBe
  by_cases c2 : isC y = 0
  · rw [if_pos c2, if_pos (show mIc y = 0 from c2)]
  · rw [if_neg c2, if_neg (show ¬ mIc y = 0 from c2)]
    obtain ⟨e, e2⟩ := V_lq h (ic_of c2).1 40 (by omega)
    rw [← e2, ← e]; rfl
end
