/-! shots that come, go, move, are split and joined -/
theorem opN_lo (f : Nat → Int32) {n p q j : Nat} (h : q ≤ p) (hj : j < 14) : opN f n p (13 + 14 * q + j) = f (13 + 14 * q + j) := by
  unfold opN; rw [if_neg (by omega)]
theorem opN_hi (f : Nat → Int32) {n p q j : Nat} (h : p < q) (hq : q ≤ n) (hj : j < 14) : opN f n p (13 + 14 * q + j) = f (13 + 14 * (q - 1) + j) := by
  unfold opN; rw [if_pos (by omega)]; exact congrArg f (by omega)
theorem opS_lo (f : Nat → Int32) {n p q j : Nat} (h : q ≤ p) (hj : j < 14) : opS f n p (13 + 14 * q + j) = f (13 + 14 * q + j) := (pk_un (by omega)).trans (opN_lo f h hj)
theorem opS_hi (f : Nat → Int32) {n p q j : Nat} (h : p < q) (hq : q ≤ n) (hj : j < 14) : opS f n p (13 + 14 * q + j) = f (13 + 14 * (q - 1) + j) := (pk_un (by omega)).trans (opN_hi f h hq hj)
theorem opS_h (f : Nat → Int32) {n p k : Nat} (h : k < 12) : opS f n p k = f k := by
  refine (pk_un (by omega)).trans ?_
  unfold opN; rw [if_neg (by omega)]
theorem clS_lo (f : Nat → Int32) {n p q j : Nat} (h : q < p) (hj : j < 14) : clS f n p (13 + 14 * q + j) = f (13 + 14 * q + j) := by
  refine (pk_un (by omega)).trans ?_
  unfold clN; rw [if_neg (by omega)]
theorem clS_hi (f : Nat → Int32) {n p q j : Nat} (h : p ≤ q) (hq : q < n - 1) (hj : j < 14) : clS f n p (13 + 14 * q + j) = f (13 + 14 * (q + 1) + j) := by
  refine (pk_un (by omega)).trans ?_
  unfold clN; rw [if_pos (by omega)]; exact congrArg f (by omega)
theorem clS_h (f : Nat → Int32) {n p k : Nat} (h : k < 12) : clS f n p k = f k := by
  refine (pk_un (by omega)).trans ?_
  unfold clN; rw [if_neg (by omega)]
theorem sd1_lo (v : Nat → Int32) {p t k : Nat} (h : k < p) : sd1 v p t k = v k := by unfold sd1; rw [if_neg (by omega)]
theorem sd1_hi (v : Nat → Int32) {p t k : Nat} (h : p ≤ k) (h2 : k < t) : sd1 v p t k = v (k + 1) := by unfold sd1; rw [if_pos ⟨h, h2⟩]
theorem sd3_lo (v : Nat → Int32) {p t k c : Nat} (h : k < p) (hc : c < 3) : sd3 v p t (3 * k + c) = v (3 * k + c) := by unfold sd3; rw [if_neg (by omega)]
theorem sd3_hi (v : Nat → Int32) {p t k c : Nat} (h : p ≤ k) (h2 : k < t) (hc : c < 3) : sd3 v p t (3 * k + c) = v (3 * (k + 1) + c) := by unfold sd3; rw [if_pos (by omega)]; exact congrArg v (by omega)
theorem su1_lo (v : Nat → Int32) {n t k : Nat} (h : k ≤ t) : su1 v n t k = v k := by unfold su1; rw [if_neg (by omega)]
theorem su1_hi (v : Nat → Int32) {n t k : Nat} (h : t < k) (h2 : k ≤ n) : su1 v n t k = v (k - 1) := by unfold su1; rw [if_pos ⟨h, h2⟩]
theorem su3_lo (v : Nat → Int32) {n t k c : Nat} (h : k ≤ t) (hc : c < 3) : su3 v n t (3 * k + c) = v (3 * k + c) := by unfold su3; rw [if_neg (by omega)]
theorem su3_hi (v : Nat → Int32) {n t k c : Nat} (h : t < k) (h2 : k ≤ n) (hc : c < 3) : su3 v n t (3 * k + c) = v (3 * (k - 1) + c) := by unfold su3; rw [if_pos (by omega)]; exact congrArg v (by omega)
theorem fo3_s (v : Nat → Int32) {k c : Nat} (hc : c < 3) : fo3 v k (3 * k + c) = nI 0 := by
  unfold fo3
  rcases (by omega : c = 0 ∨ c = 1 ∨ c = 2) with e | e | e <;> subst e
  · rw [pk_un (by omega), pk_un (by omega), pk_us]
  · rw [pk_un (by omega), pk_us]
  · rw [pk_us]
theorem fo3_o (v : Nat → Int32) {k q c : Nat} (h : q ≠ k) (hc : c < 3) : fo3 v k (3 * q + c) = v (3 * q + c) := (pk_un (by omega)).trans ((pk_un (by omega)).trans (pk_un (by omega)))
section
variable {n : Nat} {f vq vf vd vw vl vr f' vq' vf' vd' vw' vl' vr' : Nat → Int32} {a b : Nat} {x : Int32}
theorem Re_bd {n' : Nat} (h : Re n f vq vf vd vw vl vr) (hn : n' ≤ 20) (h12 : f' 12 = nI n') (hf : ∀ k : Nat, k < 12 → f' k = f k) (h4 : vq' 4 = nI n') (hq : ∀ k : Nat, k < 13 → k ≠ 4 → vq' k = vq k) (hs : ∀ q : Nat, q < n' → ShR f' vf' vd' vw' vl' vr' q q) : Re n' f' vq' vf' vd' vw' vl' vr' := ⟨hn, h12, h4, HdR_k hf hq (R_h h), hs⟩
theorem P12 (h : Re n f vq vf vd vw vl vr) (ha : a < 21) : StpL f (k12V f n a b x) (u12V vq vf vd vw vl vr n a b x) (k12W f n a b x) (u12Q vq vf vd vw vl vr n a b x) (u12F vq vf vd vw vl vr n a b x) (u12D vq vf vd vw vl vr n a b x) (u12W vq vf vd vw vl vr n a b x) (u12L vq vf vd vw vl vr n a b x) (u12R vq vf vd vw vl vr n a b x) := by
  have hn := R_n h
  unfold k12V k12W u12V u12Q u12F u12D u12W u12L u12R s12V s12Q s12F s12D s12W s12L s12R cDv cDw
  by_cases c : a < n
  · simp only [if_pos c, if_neg (hasS_ne (show n < 2 ^ 31 by omega) c), ix_nI (show a < 2 ^ 31 by omega)]
    refine ⟨rfl, fun z => absurd z (nI_pos (by omega)), n - 1, Re_bd h (by omega) pk_us (fun k hk => clS_h f hk) pk_us (fun k _ h4 => pk_un h4) (fun q hq => ?_)⟩
    rcases Nat.lt_or_ge q a with z | z
    · exact ShR_mv (fun j hj => clS_lo f z hj) (sd1_lo vf z) (fun i hi => sd3_lo vd z hi) (fun i hi => sd3_lo vw z hi) (fun i hi => sd3_lo vl z hi) (fun i hi => sd3_lo vr z hi) (R_s h (by omega))
    · exact ShR_mv (fun j hj => clS_hi f z hq hj) (sd1_hi vf z hq) (fun i hi => sd3_hi vd z hq hi) (fun i hi => sd3_hi vw z hq hi) (fun i hi => sd3_hi vl z hq hi) (fun i hi => sd3_hi vr z hq hi) (R_s h (by omega))
  · simp only [if_neg c, if_pos (hasS_n (show n < 2 ^ 31 by omega) (show a < 2 ^ 31 by omega) (Nat.le_of_not_lt c))]
    exact StpL_no h _
theorem P0 (h : Re n f vq vf vd vw vl vr) (ha : a ≤ n) : StpL f (k0V f n a b x) (u0V vq vf vd vw vl vr n a b x) (k0W f n a b x) (u0Q vq vf vd vw vl vr n a b x) (u0F vq vf vd vw vl vr n a b x) (u0D vq vf vd vw vl vr n a b x) (u0W vq vf vd vw vl vr n a b x) (u0L vq vf vd vw vl vr n a b x) (u0R vq vf vd vw vl vr n a b x) := by
  have hn := R_n h
  have hw := lowN_lt x (m := 99) (by decide)
  have hr := lowN_lt (x >>> (nI 7 &&& 31)) (m := 51) (by decide)
  have hg := lowN_lt (x >>> (nI 9 &&& 31)) (m := 51) (by decide)
  have hb := lowN_lt (x >>> (nI 11 &&& 31)) (m := 51) (by decide)
  unfold k0V k0W u0V u0Q u0F u0D u0W u0L u0R cAv cAw
  generalize lowN x 99 = w at hw ⊢
  generalize lowN (x >>> (nI 7 &&& 31)) 51 = re at hr ⊢
  generalize lowN (x >>> (nI 9 &&& 31)) 51 = gr at hg ⊢
  generalize lowN (x >>> (nI 11 &&& 31)) 51 = bl at hb ⊢
  have hP : ∀ t, t < 51 → ¬ isP (nI t) = 0 := fun t ht => isW_n (lo := 0) (hi := 50) (by omega) (by omega) (by omega)
  simp only [if_neg (show ¬ n < a by omega), if_neg (show ¬ isW (nI a) (nI 0) (nI n) = 0 from isW_n (by omega) ha (by omega)), if_neg (show ¬ isW (nI (1 + w)) (nI 1) (nI 99) = 0 from isW_n (by omega) (by omega) (by omega)), if_neg (hP re hr), if_neg (hP gr hg), if_neg (hP bl hb), ix_nI (show a < 2 ^ 31 by omega)]
  by_cases c : n = 20
  · simp only [if_pos c, if_neg (show ¬ n < 20 by omega)]
    exact StpL_no h _
  · simp only [if_neg c, if_pos (show n < 20 by omega)]
    refine ⟨rfl, fun z => absurd z (nI_pos (by omega)), n + 1, Re_bd h (by omega) (by (repeat rw [pk_un (by omega)]); exact pk_us) (fun k hk => by (repeat rw [pk_un (by omega)]); exact opS_h f hk) pk_us (fun k _ h4 => pk_un h4) (fun q hq => ?_)⟩
    rcases (by omega : q < a ∨ q = a ∨ a < q) with z | z | z
    · refine ShR_mv (fun j hj => by (repeat rw [pk_un (by omega)]); exact opS_lo f (by omega) hj) ((pk_un (by omega)).trans (su1_lo vf (by omega))) (fun i hi => ?_) (fun i hi => ?_) (fun i hi => ?_) (fun i hi => (fo3_o _ (by omega) hi).trans (su3_lo vr (by omega) hi)) (R_s h (by omega))
      · (repeat rw [pk_un (by omega)]); exact su3_lo vd (by omega) hi
      · (repeat rw [pk_un (by omega)]); exact su3_lo vw (by omega) hi
      · (repeat rw [pk_un (by omega)]); exact su3_lo vl (by omega) hi
    · subst z
      refine ⟨⟨pk_us.trans (Eq.symm (by (repeat rw [pk_un (by omega)]); exact pk_ux (by omega))), ?_⟩, fun i hi => ?_, Or.inl ⟨(by (repeat rw [pk_un (by omega)]); exact pk_ux (by omega)), fun i hi => fo3_s _ hi⟩⟩
      · (repeat rw [pk_un (by omega)]); rw [pk_ux (by omega)]; exact rng_nI (by omega) (by omega) (by omega)
      · unfold CoR
        rcases (by omega : i = 0 ∨ i = 1 ∨ i = 2) with e | e | e <;> subst e
        · refine ⟨@Eq.trans Int32 _ (nI re) _ (by (repeat rw [pk_un (by omega)]); exact pk_ux (by omega)) (Eq.symm (by (repeat rw [pk_un (by omega)]); exact pk_ux (by omega))), @Eq.trans Int32 _ (nI 0) _ (by (repeat rw [pk_un (by omega)]); exact pk_ux (by omega)) (Eq.symm (by (repeat rw [pk_un (by omega)]); exact pk_ux (by omega))), @Eq.trans Int32 _ (nI 25) _ (by (repeat rw [pk_un (by omega)]); exact pk_ux (by omega)) (Eq.symm (by (repeat rw [pk_un (by omega)]); exact pk_ux (by omega))), ?_, ?_⟩
          · (repeat rw [pk_un (by omega)]); rw [pk_ux (by omega)]; exact rng_nI (by omega) (by omega) (by omega)
          · (repeat rw [pk_un (by omega)]); rw [pk_ux (by omega)]; exact rng_nI (by omega) (by omega) (by omega)
        · refine ⟨@Eq.trans Int32 _ (nI gr) _ (by (repeat rw [pk_un (by omega)]); exact pk_ux (by omega)) (Eq.symm (by (repeat rw [pk_un (by omega)]); exact pk_ux (by omega))), @Eq.trans Int32 _ (nI 0) _ (by (repeat rw [pk_un (by omega)]); exact pk_ux (by omega)) (Eq.symm (by (repeat rw [pk_un (by omega)]); exact pk_ux (by omega))), @Eq.trans Int32 _ (nI 25) _ (by (repeat rw [pk_un (by omega)]); exact pk_ux (by omega)) (Eq.symm (by (repeat rw [pk_un (by omega)]); exact pk_ux (by omega))), ?_, ?_⟩
          · (repeat rw [pk_un (by omega)]); rw [pk_ux (by omega)]; exact rng_nI (by omega) (by omega) (by omega)
          · (repeat rw [pk_un (by omega)]); rw [pk_ux (by omega)]; exact rng_nI (by omega) (by omega) (by omega)
        · refine ⟨@Eq.trans Int32 _ (nI bl) _ (by (repeat rw [pk_un (by omega)]); exact pk_ux (by omega)) (Eq.symm (by (repeat rw [pk_un (by omega)]); exact pk_ux (by omega))), @Eq.trans Int32 _ (nI 0) _ (by (repeat rw [pk_un (by omega)]); exact pk_ux (by omega)) (Eq.symm (by (repeat rw [pk_un (by omega)]); exact pk_ux (by omega))), @Eq.trans Int32 _ (nI 25) _ (by (repeat rw [pk_un (by omega)]); exact pk_ux (by omega)) (Eq.symm (by (repeat rw [pk_un (by omega)]); exact pk_ux (by omega))), ?_, ?_⟩
          · (repeat rw [pk_un (by omega)]); rw [pk_ux (by omega)]; exact rng_nI (by omega) (by omega) (by omega)
          · (repeat rw [pk_un (by omega)]); rw [pk_ux (by omega)]; exact rng_nI (by omega) (by omega) (by omega)
    · refine ShR_mv (fun j hj => by (repeat rw [pk_un (by omega)]); exact opS_hi f z (by omega) hj) ((pk_un (by omega)).trans (su1_hi vf z (by omega))) (fun i hi => ?_) (fun i hi => ?_) (fun i hi => ?_) (fun i hi => (fo3_o _ (by omega) hi).trans (su3_hi vr z (by omega) hi)) (R_s h (by omega))
      · (repeat rw [pk_un (by omega)]); exact su3_hi vd z (by omega) hi
      · (repeat rw [pk_un (by omega)]); exact su3_hi vw z (by omega) hi
      · (repeat rw [pk_un (by omega)]); exact su3_hi vl z (by omega) hi
theorem P4 (h : Re n f vq vf vd vw vl vr) (ha : a < 21) : StpL f (k4V f n a b x) (u4V vq vf vd vw vl vr n a b x) (k4W f n a b x) (u4Q vq vf vd vw vl vr n a b x) (u4F vq vf vd vw vl vr n a b x) (u4D vq vf vd vw vl vr n a b x) (u4W vq vf vd vw vl vr n a b x) (u4L vq vf vd vw vl vr n a b x) (u4R vq vf vd vw vl vr n a b x) := by
  have hn := R_n h
  have hw := lowN_lt x (m := 98) (by decide)
  unfold k4V k4W u4V u4Q u4F u4D u4W u4L u4R s4V s4Q s4F s4D s4W s4L s4R cPv cPw
  generalize lowN x 98 = w at hw ⊢
  by_cases c : a < n
  · simp only [if_pos c, if_neg (hasS_ne (show n < 2 ^ 31 by omega) c), if_neg (show ¬ isW (nI (1 + w)) (nI 1) (nI 98) = 0 from isW_n (by omega) (by omega) (by omega)), ix_nI (show a < 2 ^ 31 by omega)]
    have hs := R_s h c
    obtain ⟨g1, g2⟩ := S_fr hs
    have ew : (nI (1 + w)).toInt = ((1 + w : Nat) : Int) := nI_toInt (by omega)
    have et : (f (13 + 14 * a + 0) - nI (1 + w)).toInt = (f (13 + 14 * a + 0)).toInt - (1 + w : Nat) := by rw [toInt_sub (by omega) (by omega), ew]
    by_cases c1 : nI (1 + w) < vf a
    · have c2 : 0 < f (13 + 14 * a + 0) - nI (1 + w) := by
        rw [S_f hs, i32_lt, ew] at c1
        rw [i32_lt, i32_z, et]; omega
      simp only [if_pos c1, if_pos c2]
      by_cases c3 : n = 20
      · simp only [if_pos c3, if_neg (show ¬ n < 20 by omega)]
        exact StpL_no h _
      · simp only [if_neg c3, if_pos (show n < 20 by omega)]
        rw [i32_lt, i32_z, et] at c2
        refine ⟨rfl, fun z => absurd z (nI_pos (by omega)), n + 1, Re_bd h (by omega) (by (repeat rw [pk_un (by omega)]); exact pk_us) (fun k hk => by (repeat rw [pk_un (by omega)]); exact opS_h f hk) pk_us (fun k _ h4 => pk_un h4) (fun q hq => ?_)⟩
        rcases (by omega : q < a ∨ q = a ∨ q = a + 1 ∨ a + 1 < q) with z | z | z | z
        · exact ShR_mv (fun j hj => by (repeat rw [pk_un (by omega)]); exact opS_lo f (by omega) hj) ((pk_un (by omega)).trans ((pk_un (by omega)).trans (su1_lo vf (by omega)))) (fun i hi => su3_lo vd (by omega) hi) (fun i hi => su3_lo vw (by omega) hi) (fun i hi => su3_lo vl (by omega) hi) (fun i hi => (fo3_o _ (by omega) hi).trans ((fo3_o _ (by omega) hi).trans (su3_lo vr (by omega) hi))) (R_s h (by omega))
        · subst z
          refine ⟨⟨pk_us.trans (Eq.symm (by (repeat rw [pk_un (by omega)]); exact pk_ux (by omega))), ?_⟩, fun i hi => ?_, Or.inl ⟨(by (repeat rw [pk_un (by omega)]); exact pk_ux (by omega)), fun i hi => (fo3_o _ (by omega) hi).trans (fo3_s _ hi)⟩⟩
          · (repeat rw [pk_un (by omega)]); rw [pk_ux (by omega)]; exact rng_nI (by omega) (by omega) (by omega)
          · obtain ⟨d1, d2, d3, d4, d5⟩ := S_c hs hi
            have k : ∀ j : Nat, 2 ≤ j → j < 14 → upd (upd (upd (upd (opS f n q) (13 + 14 * q + 0) (nI (1 + w))) (13 + 14 * q + 1) (nI 0)) (13 + 14 * (q + 1) + 0) (f (13 + 14 * q + 0) - nI (1 + w))) (13 + 14 * (q + 1) + 1) (nI 0) (13 + 14 * q + j) = f (13 + 14 * q + j) := fun j h2 hj => by
              (repeat rw [pk_un (by omega)]); exact opS_lo f (by omega) hj
            unfold CoR
            rw [k _ (by omega) (by omega), k _ (by omega) (by omega), k _ (by omega) (by omega)]
            exact ⟨(su3_lo vd (by omega) hi).trans d1, (su3_lo vw (by omega) hi).trans d2, (su3_lo vl (by omega) hi).trans d3, d4, d5⟩
        · subst z
          refine ⟨⟨?_, ?_⟩, fun i hi => ?_, Or.inl ⟨(by (repeat rw [pk_un (by omega)]); exact pk_ux (by omega)), fun i hi => fo3_s _ hi⟩⟩
          · rw [pk_un (by omega), pk_us, su1_lo vf (by omega), S_f hs]
            exact Eq.symm (by (repeat rw [pk_un (by omega)]); exact pk_ux (by omega))
          · (repeat rw [pk_un (by omega)]); rw [pk_ux (by omega)]
            unfold rng
            rw [et]; omega
          · obtain ⟨d1, d2, d3, d4, d5⟩ := S_c hs hi
            have k : ∀ j : Nat, 2 ≤ j → j < 14 → upd (upd (upd (upd (opS f n a) (13 + 14 * a + 0) (nI (1 + w))) (13 + 14 * a + 1) (nI 0)) (13 + 14 * (a + 1) + 0) (f (13 + 14 * a + 0) - nI (1 + w))) (13 + 14 * (a + 1) + 1) (nI 0) (13 + 14 * (a + 1) + j) = f (13 + 14 * a + j) := fun j h2 hj => by
              (repeat rw [pk_un (by omega)]); exact opS_hi f (by omega) (by omega) hj
            unfold CoR
            rw [k _ (by omega) (by omega), k _ (by omega) (by omega), k _ (by omega) (by omega)]
            exact ⟨(su3_hi vd (by omega) (by omega) hi).trans d1, (su3_hi vw (by omega) (by omega) hi).trans d2, (su3_hi vl (by omega) (by omega) hi).trans d3, d4, d5⟩
        · exact ShR_mv (fun j hj => by (repeat rw [pk_un (by omega)]); exact opS_hi f (by omega) (by omega) hj) ((pk_un (by omega)).trans ((pk_un (by omega)).trans (su1_hi vf (by omega) (by omega)))) (fun i hi => su3_hi vd (by omega) (by omega) hi) (fun i hi => su3_hi vw (by omega) (by omega) hi) (fun i hi => su3_hi vl (by omega) (by omega) hi) (fun i hi => (fo3_o _ (by omega) hi).trans ((fo3_o _ (by omega) hi).trans (su3_hi vr (by omega) (by omega) hi))) (R_s h (by omega))
    · have c2 : ¬ 0 < f (13 + 14 * a + 0) - nI (1 + w) := by
        rw [S_f hs, i32_lt, ew] at c1
        rw [i32_lt, i32_z, et]; omega
      simp only [if_neg c1, if_neg c2]
      exact StpL_no h _
  · simp only [if_neg c, if_pos (hasS_n (show n < 2 ^ 31 by omega) (show a < 2 ^ 31 by omega) (Nat.le_of_not_lt c))]
    exact StpL_no h _
/-- the place from which the shot at i comes when a is moved to q -/
def msrc (a q i : Nat) : Nat := if i = q then a else if a ≤ i ∧ i < q then i + 1 else if q < i ∧ i ≤ a then i - 1 else i
theorem sw_a (f : Nat → Int32) {a b j : Nat} (hj : j < 14) : swN f a b 14 (13 + 14 * a + j) = f (13 + 14 * b + j) := by
  unfold swN; rw [if_pos (by omega)]; exact congrArg f (by omega)
theorem sw_b (f : Nat → Int32) {a b j : Nat} (hab : a ≠ b) (hj : j < 14) : swN f a b 14 (13 + 14 * b + j) = f (13 + 14 * a + j) := by
  unfold swN; rw [if_neg (by omega), if_pos (by omega)]; exact congrArg f (by omega)
theorem sw_o (f : Nat → Int32) {a b q j : Nat} (h1 : q ≠ a) (h2 : q ≠ b) (hj : j < 14) : swN f a b 14 (13 + 14 * q + j) = f (13 + 14 * q + j) := by
  unfold swN; rw [if_neg (by omega), if_neg (by omega)]
theorem sw_h (f : Nat → Int32) {a b k : Nat} (h : k < 13) : swN f a b 14 k = f k := by
  unfold swN; rw [if_neg (by omega), if_neg (by omega)]
theorem mvU_h (f : Nat → Int32) (p : Nat) {k : Nat} (h : k < 13) : ∀ d : Nat, mvU f p d k = f k
  | 0 => rfl
  | d + 1 => (sw_h _ h).trans (mvU_h f p h d)
theorem mvD_h (f : Nat → Int32) (p : Nat) {k : Nat} (h : k < 13) : ∀ d : Nat, mvD f p d k = f k
  | 0 => rfl
  | d + 1 => (sw_h _ h).trans (mvD_h f p h d)
theorem mvU_at (f : Nat → Int32) (p : Nat) {j : Nat} (hj : j < 14) : ∀ d i : Nat, mvU f p d (13 + 14 * i + j) = f (13 + 14 * (if i = p + d then p else if p ≤ i ∧ i < p + d then i + 1 else i) + j)
  | 0, i => by
    show f (13 + 14 * i + j) = _
    by_cases e : i = p + 0
    · rw [if_pos e, show p = i by omega]
    · rw [if_neg e, if_neg (by omega)]
  | d + 1, i => by
    show swN (mvU f p d) (p + d) (p + d + 1) 14 (13 + 14 * i + j) = _
    rcases (by omega : i = p + d ∨ i = p + d + 1 ∨ (i ≠ p + d ∧ i ≠ p + d + 1)) with e | e | ⟨e1, e2⟩
    · subst e
      rw [sw_a _ hj, mvU_at f p hj d, if_neg (by omega), if_neg (by omega), if_neg (by omega), if_pos (by omega)]
    · subst e
      rw [sw_b _ (by omega) hj, mvU_at f p hj d, if_pos rfl, if_pos (by omega)]
    · rw [sw_o _ e1 e2 hj, mvU_at f p hj d, if_neg e1, if_neg (show ¬ i = p + (d + 1) by omega), if_same (show (p ≤ i ∧ i < p + d) ↔ (p ≤ i ∧ i < p + (d + 1)) by omega)]
theorem mvD_at (f : Nat → Int32) (p : Nat) {j : Nat} (hj : j < 14) : ∀ d i : Nat, d ≤ p → mvD f p d (13 + 14 * i + j) = f (13 + 14 * (if i = p - d then p else if p - d < i ∧ i ≤ p then i - 1 else i) + j)
  | 0, i, _ => by
    show f (13 + 14 * i + j) = _
    by_cases e : i = p - 0
    · rw [if_pos e, show p = i by omega]
    · rw [if_neg e, if_neg (by omega)]
  | d + 1, i, hd => by
    show swN (mvD f p d) (p - d) (p - d - 1) 14 (13 + 14 * i + j) = _
    rcases (by omega : i = p - d ∨ i = p - d - 1 ∨ (i ≠ p - d ∧ i ≠ p - d - 1)) with e | e | ⟨e1, e2⟩
    · subst e
      rw [sw_a _ hj, mvD_at f p hj d _ (by omega), if_neg (by omega), if_neg (by omega), if_neg (by omega), if_pos (by omega)]
    · subst e
      rw [sw_b _ (by omega) hj, mvD_at f p hj d _ (by omega), if_pos rfl, if_pos (by omega)]
    · rw [sw_o _ e1 e2 hj, mvD_at f p hj d _ (by omega), if_neg e1, if_neg (show ¬ i = p - (d + 1) by omega), if_same (show (p - d < i ∧ i ≤ p) ↔ (p - (d + 1) < i ∧ i ≤ p) by omega)]
theorem mv_at (f : Nat → Int32) {a q i j : Nat} (hj : j < 14) : mvD (mvU f a (q - a)) a (a - q) (13 + 14 * i + j) = f (13 + 14 * msrc a q i + j) := by
  unfold msrc
  rw [mvD_at _ a hj _ _ (by omega)]
  rcases Nat.lt_or_ge q a with z | z
  · rw [show q - a = 0 by omega]
    show f (13 + 14 * _ + j) = _
    rw [show a - (a - q) = q by omega]
    by_cases e : i = q
    · rw [if_pos e, if_pos e]
    · rw [if_neg e, if_neg e, if_neg (show ¬ (a ≤ i ∧ i < q) by omega)]
  · rw [show a - q = 0 by omega]
    have e0 : (if i = a - 0 then a else if a - 0 < i ∧ i ≤ a then i - 1 else i) = i := by
      by_cases e : i = a - 0
      · rw [if_pos e]; omega
      · rw [if_neg e, if_neg (by omega)]
    rw [e0, mvU_at f a hj]
    by_cases e : i = q
    · rw [if_pos e, if_pos (by omega)]
    · rw [if_neg e, if_neg (by omega)]
      by_cases e2 : a ≤ i ∧ i < q
      · rw [if_pos e2, if_pos (by omega)]
      · rw [if_neg e2, if_neg (by omega), if_neg (by omega)]
theorem mv1_at (v : Nat → Int32) {a q i : Nat} (hn : n ≤ 20) (ha : a < n) (hq : q < n) (hi : i < n) : cp1 (su1 (sd1 (cp1 v a 20) a (n - 1)) (n - 1) q) 20 q i = v (msrc a q i) := by
  unfold msrc
  by_cases e : i = q
  · subst e
    rw [if_pos rfl]
    refine pk_us.trans ?_
    unfold su1
    rw [if_neg (by omega)]
    unfold sd1
    rw [if_neg (by omega)]
    exact pk_us
  · rw [if_neg e]
    refine (pk_un e).trans ?_
    rcases Nat.lt_or_ge i q with z | z
    · rw [su1_lo _ (by omega)]
      by_cases e2 : a ≤ i
      · rw [sd1_hi _ e2 (by omega), if_pos ⟨e2, z⟩]; exact pk_un (by omega)
      · rw [sd1_lo _ (by omega), if_neg (by omega), if_neg (by omega)]; exact pk_un (by omega)
    · rw [su1_hi _ (by omega) (by omega)]
      by_cases e2 : a ≤ i - 1
      · rw [sd1_hi _ e2 (by omega), if_neg (by omega), if_neg (by omega), show i - 1 + 1 = i by omega]; exact pk_un (by omega)
      · rw [sd1_lo _ (by omega), if_neg (by omega), if_pos (by omega)]; exact pk_un (by omega)
theorem mv3_at (v : Nat → Int32) {a q i c : Nat} (hn : n ≤ 20) (ha : a < n) (hq : q < n) (hi : i < n) (hc : c < 3) : cp3 (su3 (sd3 (cp3 v a 20) a (n - 1)) (n - 1) q) 20 q (3 * i + c) = v (3 * msrc a q i + c) := by
  simp only [cp3, su3, sd3, msrc]
  (repeat' split) <;> first | omega | exact congrArg v (by omega)
theorem msrc_lt {a q i : Nat} (ha : a < n) (hq : q < n) (hi : i < n) : msrc a q i < n := by
  unfold msrc
  (repeat' split) <;> omega
theorem P3 (h : Re n f vq vf vd vw vl vr) (ha : a < 21) : StpL f (k3V f n a b x) (u3V vq vf vd vw vl vr n a b x) (k3W f n a b x) (u3Q vq vf vd vw vl vr n a b x) (u3F vq vf vd vw vl vr n a b x) (u3D vq vf vd vw vl vr n a b x) (u3W vq vf vd vw vl vr n a b x) (u3L vq vf vd vw vl vr n a b x) (u3R vq vf vd vw vl vr n a b x) := by
  have hn := R_n h
  have hw := lowN_lt x (m := 21) (by decide)
  unfold k3V k3W u3V u3Q u3F u3D u3W u3L u3R s3V s3Q s3F s3D s3W s3L s3R cMv cMw
  generalize lowN x 21 = q at hw ⊢
  by_cases c : a < n
  · by_cases c2 : q < n
    · simp only [if_pos c, if_pos c2, if_neg (hasS_ne (show n < 2 ^ 31 by omega) c), if_neg (hasS_ne (show n < 2 ^ 31 by omega) c2), ix_nI (show a < 2 ^ 31 by omega), ix_nI (show q < 2 ^ 31 by omega)]
      refine ⟨(lSz_e _).symm, fun z => absurd z ?_, n, Re_bd h hn ((mvD_h _ _ (by omega) _).trans ((mvU_h _ _ (by omega) _).trans (R_12 h))) (fun k hk => (mvD_h _ _ (by omega) _).trans (mvU_h _ _ (by omega) _)) (by rw [pk_us, show n - 1 + 1 = n by omega]) (fun k _ h4 => (pk_un h4).trans (pk_un h4)) (fun i hi => ?_)⟩
      · rw [← lSz_e]
        refine rng_nn (hi := 20) (lSz_rng (by decide) ?_)
        unfold rng
        rw [pk_sub_toInt (by omega) (by omega)]; omega
      · exact ShR_mv (fun j hj => mv_at f hj) (mv1_at vf hn c c2 hi) (fun j hj => mv3_at vd hn c c2 hi hj) (fun j hj => mv3_at vw hn c c2 hi hj) (fun j hj => mv3_at vl hn c c2 hi hj) (fun j hj => mv3_at vr hn c c2 hi hj) (R_s h (msrc_lt c c2 hi))
    · simp only [if_pos c, if_neg c2, if_neg (hasS_ne (show n < 2 ^ 31 by omega) c), if_pos (hasS_n (show n < 2 ^ 31 by omega) (show q < 2 ^ 31 by omega) (Nat.le_of_not_lt c2))]
      exact StpL_no h _
  · simp only [if_neg c, if_pos (hasS_n (show n < 2 ^ 31 by omega) (show a < 2 ^ 31 by omega) (Nat.le_of_not_lt c))]
    exact StpL_no h _
theorem and3 {A0 A1 A2 : Prop} [Decidable A0] [Decidable A1] [Decidable A2] : (if (if (if A0 then nI 1 else nI 0) = 0 then nI 0 else if A1 then nI 1 else nI 0) = 0 then nI 0 else if A2 then nI 1 else nI 0) = if A0 then if A1 then if A2 then nI 1 else nI 0 else nI 0 else nI 0 := by
  have e1 : ¬ nI 1 = 0 := by decide
  by_cases h0 : A0
  · by_cases h1 : A1
    · simp only [if_pos h0, if_pos h1, if_neg e1]
    · simp only [if_pos h0, if_neg h1, if_neg e1, if_pos nI_0]
  · simp only [if_neg h0, if_pos nI_0]
theorem P5 (h : Re n f vq vf vd vw vl vr) (ha : a < 21) : StpL f (k5V f n a b x) (u5V vq vf vd vw vl vr n a b x) (k5W f n a b x) (u5Q vq vf vd vw vl vr n a b x) (u5F vq vf vd vw vl vr n a b x) (u5D vq vf vd vw vl vr n a b x) (u5W vq vf vd vw vl vr n a b x) (u5L vq vf vd vw vl vr n a b x) (u5R vq vf vd vw vl vr n a b x) := by
  have hn := R_n h
  unfold k5V k5W u5V u5Q u5F u5D u5W u5L u5R s5V s5Q s5F s5D s5W s5L s5R cJv cJw
  by_cases c : a < n
  · by_cases c2 : n ≤ a + 1
    · simp only [if_pos c, if_pos c2, if_neg (hasS_ne (show n < 2 ^ 31 by omega) c), ix_nI (show a < 2 ^ 31 by omega), if_pos (hasS_n (show n < 2 ^ 31 by omega) (show a + 1 < 2 ^ 31 by omega) c2)]
      exact StpL_no h _
    · have c2' : a + 1 < n := by omega
      have hs := R_s h c
      have hs2 := R_s h c2'
      have eT : (if (if (if vd (3 * a + 0) = vd (3 * a + 3 + 0) then nI 1 else nI 0) = 0 then nI 0 else if vd (3 * a + 1) = vd (3 * a + 3 + 1) then nI 1 else nI 0) = 0 then nI 0 else if vd (3 * a + 2) = vd (3 * a + 3 + 2) then nI 1 else nI 0) = cSs f a (a + 1) := by
        rw [and3]
        unfold cSs
        have q : ∀ i : Nat, i < 3 → vd (3 * a + 3 + i) = f (13 + 14 * (a + 1) + (2 + i)) := fun i hi => by
          rw [show 3 * a + 3 + i = 3 * (a + 1) + i by omega]; exact (S_c hs2 hi).1
        rw [q 0 (by decide), q 1 (by decide), q 2 (by decide), (S_c hs (c := 0) (by decide)).1, (S_c hs (c := 1) (by decide)).1, (S_c hs (c := 2) (by decide)).1]
      simp only [if_pos c, if_neg c2, if_neg (hasS_ne (show n < 2 ^ 31 by omega) c), ix_nI (show a < 2 ^ 31 by omega), if_neg (hasS_ne (show n < 2 ^ 31 by omega) c2'), eT]
      by_cases c3 : cSs f a (a + 1) = 0
      · simp only [if_pos c3, ite_self]
        exact StpL_no h _
      · obtain ⟨g1, g2⟩ := S_fr hs
        obtain ⟨g3, g4⟩ := S_fr hs2
        have e0 : (nI 99).toInt = 99 := by decide
        have es : (f (13 + 14 * a + 0) + f (13 + 14 * (a + 1) + 0)).toInt = (f (13 + 14 * a + 0)).toInt + (f (13 + 14 * (a + 1) + 0)).toInt := toInt_add (by omega) (by omega)
        by_cases c4 : vf a + (vf (a + 1)) ≤ nI 99
        · have c4' := c4
          rw [S_f hs, S_f hs2, i32_le, e0, es] at c4'
          have c5 : ¬ nI 99 < f (13 + 14 * a + 0) + (f (13 + 14 * (a + 1) + 0)) := by rw [i32_lt, e0, es]; omega
          simp only [if_neg c3, if_pos c4, if_neg c5]
          have ev : upd vf (a + 1) (vf (a + 1) + vf a) (a + 1) = f (13 + 14 * a + 0) + f (13 + 14 * (a + 1) + 0) := by rw [pk_us, S_f hs, S_f hs2, Int32.add_comm]
          refine ⟨ev.symm, fun z => absurd z ?_, n - 1, Re_bd h (by omega) (by (repeat rw [pk_un (by omega)]); exact pk_us) (fun k hk => by (repeat rw [pk_un (by omega)]); exact clS_h f hk) pk_us (fun k _ h4 => pk_un h4) (fun q hq => ?_)⟩
          · rw [i32_lt, i32_z, es]; omega
          · rcases (by omega : q < a ∨ q = a ∨ a < q) with z | z | z
            · exact ShR_mv (fun j hj => by (repeat rw [pk_un (by omega)]); exact clS_lo f (by omega) hj) ((pk_un (by omega)).trans ((sd1_lo _ (by omega)).trans (pk_un (by omega)))) (fun i hi => sd3_lo vd (by omega) hi) (fun i hi => sd3_lo vw (by omega) hi) (fun i hi => sd3_lo vl (by omega) hi) (fun i hi => (fo3_o _ (by omega) hi).trans (sd3_lo vr (by omega) hi)) (R_s h (by omega))
            · subst z
              refine ⟨⟨pk_us.trans (ev.trans (Eq.symm (by (repeat rw [pk_un (by omega)]); exact pk_ux (by omega)))), ?_⟩, fun i hi => ?_, Or.inl ⟨(by (repeat rw [pk_un (by omega)]); exact pk_ux (by omega)), fun i hi => fo3_s _ hi⟩⟩
              · (repeat rw [pk_un (by omega)]); rw [pk_ux (by omega)]
                unfold rng
                rw [es]; omega
              · obtain ⟨d1, d2, d3, d4, d5⟩ := S_c hs hi
                have k : ∀ j : Nat, 2 ≤ j → j < 14 → upd (upd (clS f n (q + 1)) (13 + 14 * q + 0) (f (13 + 14 * q + 0) + f (13 + 14 * (q + 1) + 0))) (13 + 14 * q + 1) (nI 0) (13 + 14 * q + j) = f (13 + 14 * q + j) := fun j h2 hj => by
                  (repeat rw [pk_un (by omega)]); exact clS_lo f (by omega) hj
                unfold CoR
                rw [k _ (by omega) (by omega), k _ (by omega) (by omega), k _ (by omega) (by omega)]
                exact ⟨(sd3_lo vd (by omega) hi).trans d1, (sd3_lo vw (by omega) hi).trans d2, (sd3_lo vl (by omega) hi).trans d3, d4, d5⟩
            · exact ShR_mv (fun j hj => by (repeat rw [pk_un (by omega)]); exact clS_hi f (by omega) hq hj) ((pk_un (by omega)).trans ((sd1_hi _ (by omega) hq).trans (pk_un (by omega)))) (fun i hi => sd3_hi vd (by omega) hq hi) (fun i hi => sd3_hi vw (by omega) hq hi) (fun i hi => sd3_hi vl (by omega) hq hi) (fun i hi => (fo3_o _ (by omega) hi).trans (sd3_hi vr (by omega) hq hi)) (R_s h (by omega))
        · have c4' := c4
          rw [S_f hs, S_f hs2, i32_le, e0, es] at c4'
          have c5 : nI 99 < f (13 + 14 * a + 0) + (f (13 + 14 * (a + 1) + 0)) := by rw [i32_lt, e0, es]; omega
          simp only [if_neg c3, if_neg c4, if_pos c5]
          exact StpL_no h _
  · simp only [if_neg c, if_pos (hasS_n (show n < 2 ^ 31 by omega) (show a < 2 ^ 31 by omega) (Nat.le_of_not_lt c))]
    exact StpL_no h _
end
