/-! corrections, the card, the prints that are needed -/
theorem by_neg : ∀ a, a < 36 → ∀ s, s < 6 → 1 ≤ s → (-(-nI a)) / nI s * nI s = -((-nI a) / nI s * nI s) := by decide +kernel
theorem imax_1 {s : Nat} (h : 1 ≤ s) (h2 : s ≤ 5) : imax (nI 1) (nI s) = nI s := by
  unfold imax
  by_cases c : s = 1
  · subst c; decide
  · rw [if_pos (nI_lt (by omega) (by omega))]
theorem rng_nat1 {k : Nat} {x : Int32} (h : rng 1 k x) : ∃ a : Nat, 1 ≤ a ∧ a ≤ k ∧ x = nI a := by
  obtain ⟨a1, a2⟩ := h
  have hlt := Int32.toInt_lt x
  refine ⟨x.toInt.toNat, by omega, by omega, Int32.toInt_inj.mp ?_⟩
  rw [nI_toInt (by omega)]; omega
theorem neg_nat {x : Int32} (h : rng (-35) 35 x) (h0 : ¬ 0 ≤ x) : ∃ a : Nat, a < 36 ∧ x = -nI a := by
  obtain ⟨a1, a2⟩ := h
  rw [i32_le, i32_z] at h0
  have e : (nI (-x.toInt).toNat).toInt = ((-x.toInt).toNat : Int) := nI_toInt (by omega)
  refine ⟨(-x.toInt).toNat, by omega, Int32.toInt_inj.mp ?_⟩
  rw [toInt_neg (by omega), e]; omega
theorem one_e {L A s : Int32} (hA : rng (-35) 35 A) (hs : rng 1 5 s) : L - (A / imax (nI 1) s) * imax (nI 1) s = if 0 ≤ A then L - mAb A / s * s else L + mAb A / s * s := by
  obtain ⟨k, k1, k2, rfl⟩ := rng_nat1 (k := 5) hs
  rw [imax_1 k1 k2]
  by_cases h0 : 0 ≤ A
  · rw [if_pos h0, mAb, if_pos h0]
  · rw [if_neg h0, mAb, if_neg h0]
    obtain ⟨a, ha, rfl⟩ := neg_nat hA h0
    rw [by_neg a ha k (by omega) k1, Int32.sub_eq_add_neg]
theorem mGw_10 (g : Nat → Int32) (p : Nat) : ∀ c, c ≤ 3 → mGw g p c (13 + 14 * p + 10) = g (13 + 14 * p + 10)
  | 0, _ => rfl
  | c + 1, hc => by
    rw [mGw, pk_un (by omega)]
    exact mGw_10 g p c (by omega)
section
variable {n : Nat} {f g : Nat → Int32} {p : Nat}
theorem V_g1 (h : Rel n f g) (hp : p < n) (hh : ¬ g (13 + 14 * p + 10) = 0) {c : Nat} (hc : c < 3) : f (13 + 14 * p + (8 + c)) - f (13 + 14 * p + (11 + c)) / imax (nI 1) (f 0) * imax (nI 1) (f 0) = mGv g p c := by
  rw [one_e (by rw [S_ans (R_sh h hp) hh hc]; exact (R_iv h hp).2.2.2 hh c hc) (by rw [R_set h (c := 0) (by decide)]; exact R_0 h)]
  unfold mGv
  rw [S_ans (R_sh h hp) hh hc, S_light (R_sh h hp) hc, R_set h (c := 0) (by decide)]
theorem Rel_g1 (h : Rel n f g) (hp : p < n) (hh : ¬ g (13 + 14 * p + 10) = 0) {c : Nat} (hc : c < 3) : Rel n (cGw f p c) (upd g (13 + 14 * p + (7 + c)) (mBd (mGv g p c))) := by
  unfold cGw
  rw [V_g1 h hp hh hc]
  have e := Sh_set (R_sh h hp) (i := 7 + c) (by omega) (by omega) (mBd (mGv g p c))
  rw [pj7 hc] at e
  obtain ⟨a1, a2, a3, a4⟩ := R_iv h hp
  exact Rel_shot h (fun k hk => pk_un (by omega)) (fun k hk => pk_un (by omega)) e ⟨by rw [pk_un (by omega)]; exact a1, by rw [pk_un (by omega)]; exact a2, fun i hi => by rw [pk_un (by omega)]; exact a3 i hi, fun hh i hi => by rw [pk_un (by omega)] at hh ⊢; exact a4 hh i hi⟩
theorem V_gp (h : Rel n f g) (hp : p < n) (hh : ¬ g (13 + 14 * p + 10) = 0) {c : Nat} (hc : c < 3) : cGv f p c = mAb (upd g (13 + 14 * p + (7 + c)) (mBd (mGv g p c)) (13 + 14 * p + (7 + c)) - g (13 + 14 * p + (7 + c))) := by
  unfold cGv
  rw [V_g1 h hp hh hc, S_light (R_sh h hp) hc, iabs_mAb, pk_us]; rfl
theorem E_one (h : Rel n f g) (hp : p < n) (hh : ¬ g (13 + 14 * p + 10) = 0) :
    nI 0 + (cGv f p 0) + (cGv (cGw f p 0) p 1) + (cGv (cGw (cGw f p 0) p 1) p 2) = mEv g p ∧
    Rel n (upd (upd (cGw (cGw (cGw f p 0) p 1) p 2) (13 + 14 * p + 1) (nI 0)) 11 ((upd (cGw (cGw (cGw f p 0) p 1) p 2) (13 + 14 * p + 1) (nI 0)) 11 + (nI 0 + (cGv f p 0) + (cGv (cGw f p 0) p 1) + (cGv (cGw (cGw f p 0) p 1) p 2)))) (mEw g p) := by
  have r1 : Rel n (cGw f p 0) (mGw g p 1) := Rel_g1 h hp hh (c := 0) (by decide)
  have h1 : ¬ mGw g p 1 (13 + 14 * p + 10) = 0 := by
    rw [mGw_10 g p 1 (by decide)]; exact hh
  have r2 : Rel n (cGw (cGw f p 0) p 1) (mGw g p 2) := Rel_g1 r1 hp h1 (c := 1) (by decide)
  have h2 : ¬ mGw g p 2 (13 + 14 * p + 10) = 0 := by
    rw [mGw_10 g p 2 (by decide)]; exact hh
  have r3 : Rel n (cGw (cGw (cGw f p 0) p 1) p 2) (mGw g p 3) := Rel_g1 r2 hp h2 (c := 2) (by decide)
  have e : nI 0 + (cGv f p 0) + (cGv (cGw f p 0) p 1) + (cGv (cGw (cGw f p 0) p 1) p 2) = mEv g p := by
    rw [V_gp h hp hh (c := 0) (by decide), V_gp r1 hp h1 (c := 1) (by decide), V_gp r2 hp h2 (c := 2) (by decide)]
    rfl
  refine ⟨e, ?_⟩
  rw [e]
  unfold mEw
  have r4 : Rel n (upd (cGw (cGw (cGw f p 0) p 1) p 2) (13 + 14 * p + 1) (nI 0)) (mTa (mGw g p 3) p) :=
    Rel_shot r3 (fun k hk => pk_un (by omega)) (fun k hk => mTa_f _ _ (by omega)) (Sh_off (R_sh r3 hp)) (Iv_off (R_iv r3 hp))
  rw [R_ch r4]
  exact Rel_hd r4 (j := 6) (by decide) (by decide) (fun z => absurd z (by decide)) (fun z => absurd z (by decide)) (fun z => absurd z (by decide))
theorem E_ag (g : Nat → Int32) (p c : Nat) (hc : c < 3) : mEw g p (7 + c) = g (7 + c) := mEw_u g p _ (by omega) (by omega)
theorem cAn_n (h : Rel n f g) (hp : p < n) (hh : ¬ g (13 + 14 * p + 10) = 0) : ¬ cAn f p = 0 := by
  rw [V_an h hp]
  exact mHa_p ((V_has h hp).mpr hh)
theorem Rel_ew (h : Rel n f g) (hp : p < n) (hh : ¬ g (13 + 14 * p + 10) = 0) : Rel n (cEw f p) (mEw g p) := by
  unfold cEw
  rw [if_neg (cAn_n h hp hh)]
  exact (E_one h hp hh).2
theorem C_cr (h : Rel n f g) (ha : Ag g) (x : Int32) : cCv f n x = mCv g n x ∧ Ok (cCw f n x) (mCw g n x) := by
  unfold cCv mCv cCw mCw
  rw [V_is h]
  by_cases c : hasS n x = 0
  · simp only [if_pos c]; exact ⟨trivial, n, h, ha⟩
  simp only [if_neg c]
  have hp := is_p h c
  generalize ix x = p at hp ⊢
  by_cases c2 : g (13 + 14 * p + 10) = nI 1
  · have hh := (V_has h hp).mp c2
    simp only [if_pos c2, if_neg (cAn_n h hp hh)]
    obtain ⟨e1, e2⟩ := E_one h hp hh
    exact ⟨e1, n, e2, Ag_of ha (fun c hc => E_ag g p c hc)⟩
  · have e : cAn f p = 0 := by rw [V_an h hp]; exact mHa_n c2
    simp only [if_neg c2, if_pos e]; exact ⟨trivial, n, h, ha⟩
theorem ba_has {g : Nat → Int32} {p : Nat} (h : ¬ mBa g p = 0) : g (13 + 14 * p + 10) = nI 1 := by
  unfold mBa at h
  by_cases c : g (13 + 14 * p + 10) = nI 1
  · exact c
  · rw [if_neg c] at h
    refine absurd ?_ h
    repeat' split
    all_goals exact nI_0
theorem Rel_cb (h : Rel n f g) : ∀ k, k ≤ n → Rel n (cCb f k) (mCb g k) ∧ cCn f k = mCn g k
  | 0, _ => ⟨h, rfl⟩
  | k + 1, hk => by
    obtain ⟨r, e⟩ := Rel_cb h k (by omega)
    have eb := V_ba r (p := k) (by omega)
    by_cases c : mBa (mCb g k) k = 0
    · rw [cCb_p (by rw [eb]; exact c), mCb_p c, cCn_p (by rw [eb]; exact c), mCn_p c]; exact ⟨r, e⟩
    · rw [cCb_n (by rw [eb]; exact c), mCb_n c, cCn_n (by rw [eb]; exact c), mCn_n c, e]
      exact ⟨Rel_ew r (by omega) ((V_has r (by omega)).mp (ba_has c)), rfl⟩
theorem C_ca (h : Rel n f g) (ha : Ag g) : cZv f n = mZv g n ∧ Ok (cZw f n) (mZw g n) := by
  obtain ⟨r, e⟩ := Rel_cb h n (Nat.le_refl n)
  exact ⟨e, n, r, Ag_of ha (fun c hc => mZw_u g n _ (by omega) (by omega))⟩
theorem imin_e (L : Int32) : imin (nI 20) L = if nI 20 ≤ L then nI 20 else L := by
  unfold imin
  by_cases c : nI 20 ≤ L
  · rw [if_pos c, if_neg]
    rw [i32_le] at c
    rw [i32_lt]; omega
  · rw [if_neg c, if_pos]
    rw [i32_le] at c
    rw [i32_lt]; omega
theorem Rel_t1 (h : Rel n f g) {c : Nat} (hc : c < 3) : Rel n (upd f (7 + c) (imin (nI 20) (f (4 + c) * f 3 / nI 100))) (mTs g c) := by
  unfold mTs
  rw [V_lo h hc, imin_e]
  have := Rel_hd h (j := 10 + c) (by omega) (by omega) (z := if nI 20 ≤ mLo g c then nI 20 else mLo g c) (fun z => absurd z (by omega)) (fun z => absurd z (by omega)) (fun z => absurd z (by omega))
  rw [hp_t c hc] at this; exact this
theorem V_t1 (h : Rel n f g) {c : Nat} (hc : c < 3) : imin (nI 20) (f (4 + c) * f 3 / nI 100) = mTs g c (10 + c) := by
  unfold mTs
  rw [V_lo h hc, imin_e, pk_us]
theorem C_cd (h : Rel n f g) (ha : Ag g) : cTv f = mTn g 3 ∧ Ok (cTw f) (mTc g 3) := by
  have r1 : Rel n (upd f 7 (imin (nI 20) (f (4 + 0) * f 3 / nI 100))) (mTc g 1) := Rel_t1 h (c := 0) (by decide)
  have e1 : imin (nI 20) (f (4 + 0) * f 3 / nI 100) = mTc g 1 (10 + 0) := V_t1 h (c := 0) (by decide)
  have q : cTv f = nI 0 + mTc g 1 (10 + 0) + mTc g 2 (10 + 1) + mTc g 3 (10 + 2) ∧ Rel n (cTw f) (mTc g 3) := by
    unfold cTv cTw
    rw [show nI 0 + (imin (nI 20) (f (4 + 0) * f 3 / nI 100)) = nI 0 + mTc g 1 (10 + 0) by rw [e1]]
    generalize upd f 7 (imin (nI 20) (f (4 + 0) * f 3 / nI 100)) = F1 at r1 ⊢
    have r2 : Rel n (upd F1 8 (imin (nI 20) (F1 (4 + 1) * F1 3 / nI 100))) (mTc g 2) := Rel_t1 r1 (c := 1) (by decide)
    have e2 : imin (nI 20) (F1 (4 + 1) * F1 3 / nI 100) = mTc g 2 (10 + 1) := V_t1 r1 (c := 1) (by decide)
    rw [show nI 0 + mTc g 1 (10 + 0) + (imin (nI 20) (F1 (4 + 1) * F1 3 / nI 100)) = nI 0 + mTc g 1 (10 + 0) + mTc g 2 (10 + 1) by rw [e2]]
    generalize upd F1 8 (imin (nI 20) (F1 (4 + 1) * F1 3 / nI 100)) = F2 at r2 ⊢
    have r3 : Rel n (upd F2 9 (imin (nI 20) (F2 (4 + 2) * F2 3 / nI 100))) (mTc g 3) := Rel_t1 r2 (c := 2) (by decide)
    have e3 : imin (nI 20) (F2 (4 + 2) * F2 3 / nI 100) = mTc g 3 (10 + 2) := V_t1 r2 (c := 2) (by decide)
    exact ⟨by rw [e3], r3⟩
  exact ⟨q.1, n, q.2, Ag_of ha (fun c hc => mTc_u g _ (by omega) 3)⟩
theorem Rel_ext {f' g' : Nat → Int32} (h : Rel n f g) (hf : ∀ k : Nat, k < 293 → f' k = f k) (hg : ∀ k : Nat, k < 293 → g' k = g k) : Rel n f' g' := by
  have hn := R_n h
  refine Rel_build h hn ((hg 4 (by decide)).trans (R_4 h)) ((hf 12 (by decide)).trans (R_12 h)) (fun k hk => hf k (by omega)) (fun k hk _ => hg k (by omega)) (fun q hq => ?_)
  have a : ∀ j : Nat, j < 14 → g' (13 + 14 * q + j) = g (13 + 14 * q + j) := fun j hj => hg _ (by omega)
  exact ⟨Sh_mv (fun j hj => hf _ (by omega)) a (R_sh h hq), Iv_mv a (R_iv h hq)⟩
theorem Ag_ext {g' : Nat → Int32} (h : Ag g) (hg : ∀ k : Nat, k < 293 → g' k = g k) : Ag g' := Ag_of h (fun c hc => hg _ (by omega))
theorem cpy_in (f h : Nat → Int32) {k : Nat} (hk : k < 293) : va_cpy f h 0 0 293 k = f k := by
  rw [pk_cpy_in (by omega) (by omega)]; exact congrArg f (by omega)
theorem Rel_tf (h : Rel n f g) : ∀ k, Rel n (cTf f n k) (mTf g n k)
  | 0 => h
  | k + 1 => (Rel_cb (Rel_rw (Rel_tf h k)) n (Nat.le_refl n)).1
theorem ffz_spec (x : Nat → Int32) : ∀ n, (∀ i, i < ffz x n → ¬ x i = 0) ∧ (ffz x n < n → x (ffz x n) = 0)
  | 0 => ⟨fun i hi => absurd (Nat.lt_of_lt_of_le hi (ffz_le x 0)) (Nat.not_lt_zero i), fun h => absurd h (Nat.not_lt_zero _)⟩
  | n + 1 => by
    obtain ⟨h1, h2⟩ := ffz_spec x n
    rcases Nat.lt_or_ge (ffz x n) n with e | e
    · have e2 : ffz x (n + 1) = ffz x n := ffz_at h1 (h2 e) (by omega)
      rw [e2]; exact ⟨h1, fun _ => h2 e⟩
    · have e3 : ffz x n = n := by have := ffz_le x n; omega
      rw [e3] at h1
      by_cases c : x n = 0
      · rw [ffz_at h1 c (Nat.lt_succ_self n)]; exact ⟨h1, fun _ => c⟩
      · have : ffz x (n + 1) = n + 1 := by
          refine ffz_no (fun i hi => ?_)
          rcases Nat.lt_or_ge i n with q | q
          · exact h1 i q
          · rw [show i = n by omega]; exact c
        rw [this]
        refine ⟨fun i hi => ?_, fun z => absurd z (Nat.lt_irrefl _)⟩
        rcases Nat.lt_or_ge i n with q | q
        · exact h1 i q
        · rw [show i = n by omega]; exact c
theorem V_pN (h : Rel n f g) (ft : Nat → Int32) : fPr f ft n = mPrV g n := by
  unfold fPr mPrV
  by_cases c0 : n = 0
  · rw [if_pos c0, if_pos c0]
  rw [if_neg c0, if_neg c0]
  have hF : Rel n (cp293 f ft) g := Rel_ext h (fun k hk => cpy_in f ft hk) (fun k _ => rfl)
  generalize cp293 f ft = F at hF ⊢
  have key : ∀ i, cRv (cTf F n i) n = 0 ↔ mSb (mKw (mTf g n i) n) n = 0 := fun i => V_rz (Rel_tf hF i)
  unfold cGg
  obtain ⟨s1, s2⟩ := ffz_spec (fun i => cRv (cTf F n i) n) 20
  have s3 := ffz_le (fun i => cRv (cTf F n i) n) 20
  generalize ffz (fun i => cRv (cTf F n i) n) 20 = i0 at s1 s2 s3 ⊢
  have lo : ∀ k, k ≤ i0 → mGd g n k = 0 := by
    intro k hk
    cases k with
    | zero => exact nI_0
    | succ k => rw [mGd_n (fun z => s1 k (by omega) ((key k).mpr z))]; exact nI_0
  by_cases c : i0 < 20
  · rw [if_pos c]
    have hz : ¬ mGd g n (i0 + 1) = 0 := by rw [mGd_p ((key i0).mp (s2 c))]; decide
    have hk : mGk g n = i0 + 1 := by
      unfold mGk
      rcases Nat.lt_or_ge (i0 + 1) 20 with q | q
      · exact ffn_at (fun i hi => lo i (by omega)) hz q
      · rw [ffn_no (fun i hi => lo i (by omega))]; omega
    rw [hk, if_neg hz]
  · rw [if_neg c]
    have hk : mGk g n = 20 := ffn_no (fun i hi => lo i (by omega))
    rw [hk, if_pos (lo 20 (by omega))]
theorem Rel_pN (h : Rel n f g) (gp : Nat → Int32) : Rel n f (mPrG g gp n) := by
  unfold mPrG
  split
  · exact h
  · exact Rel_ext h (fun k _ => rfl) (fun k hk => by rw [cpy_in _ _ hk, cpy_in _ _ hk])
theorem Ag_pN (h : Ag g) (gp : Nat → Int32) (n : Nat) : Ag (mPrG g gp n) := by
  unfold mPrG
  split
  · exact h
  · exact Ag_ext h (fun k hk => by rw [cpy_in _ _ hk, cpy_in _ _ hk])
end
