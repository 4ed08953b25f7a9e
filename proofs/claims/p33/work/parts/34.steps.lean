/-! the changes, kind by kind: what the class answers is due, and the relation holds again -/
theorem pk_ux {f : Nat → Int32} {i k : Nat} {z : Int32} (h : k = i) : upd f i z k = z := by subst h; exact pk_us
theorem rng_nn {hi : Int} {x : Int32} (h : rng 0 hi x) : ¬ x < 0 := by
  rw [i32_lt, i32_z]; have := h.1; omega
theorem isW_r {x lo hi : Int32} (h : rng lo.toInt hi.toInt x) : ¬ isW x lo hi = 0 := by
  obtain ⟨h1, h2⟩ := h
  unfold isW
  rw [if_neg (show ¬ x < lo by rw [i32_lt]; omega), if_neg (show ¬ hi < x by rw [i32_lt]; omega)]
  decide
/-- one step: the answer is due; a refused call changes nothing; the relation holds again -/
def StpL (f : Nat → Int32) (v u : Int32) (f' vq vf vd vw vl vr : Nat → Int32) : Prop := v = u ∧ (v < 0 → f' = f) ∧ ∃ n : Nat, Re n f' vq vf vd vw vl vr
section
variable {n : Nat} {f vq vf vd vw vl vr f' vq' vf' vd' vw' vl' vr' : Nat → Int32}
theorem StpL_no (h : Re n f vq vf vd vw vl vr) (v : Int32) : StpL f v v f vq vf vd vw vl vr := ⟨rfl, fun _ => rfl, n, h⟩
/-! what keeps the parts of the relation -/
theorem AnR_mv {p k p' k' : Nat} (hf : ∀ j : Nat, j < 14 → f' (13 + 14 * p + j) = f (13 + 14 * p' + j)) (hR : ∀ c : Nat, c < 3 → vr' (3 * k + c) = vr (3 * k' + c)) (h : AnR f vr p' k') : AnR f' vr' p k := by
  rcases h with ⟨e, ha⟩ | ⟨e, ha⟩
  · exact Or.inl ⟨by rw [hf 1 (by decide)]; exact e, fun c hc => by rw [hR c hc]; exact ha c hc⟩
  · exact Or.inr ⟨by rw [hf 1 (by decide)]; exact e, fun c hc => by rw [hR c hc, hf (11 + c) (by omega)]; exact ha c hc⟩
theorem CoR_mv {p k p' k' c : Nat} (hc : c < 3) (hf : ∀ j : Nat, j < 14 → f' (13 + 14 * p + j) = f (13 + 14 * p' + j)) (hD : vd' (3 * k + c) = vd (3 * k' + c)) (hW : vw' (3 * k + c) = vw (3 * k' + c)) (hL : vl' (3 * k + c) = vl (3 * k' + c)) (h : CoR f vd vw vl p' k' c) : CoR f' vd' vw' vl' p k c := by
  obtain ⟨a, b, d, e, g⟩ := h
  unfold CoR
  rw [hD, hW, hL, hf (2 + c) (by omega), hf (5 + c) (by omega), hf (8 + c) (by omega)]
  exact ⟨a, b, d, e, g⟩
theorem ShR_mv {p k p' k' : Nat} (hf : ∀ j : Nat, j < 14 → f' (13 + 14 * p + j) = f (13 + 14 * p' + j)) (hF : vf' k = vf k') (hD : ∀ c : Nat, c < 3 → vd' (3 * k + c) = vd (3 * k' + c)) (hW : ∀ c : Nat, c < 3 → vw' (3 * k + c) = vw (3 * k' + c)) (hL : ∀ c : Nat, c < 3 → vl' (3 * k + c) = vl (3 * k' + c)) (hR : ∀ c : Nat, c < 3 → vr' (3 * k + c) = vr (3 * k' + c)) (h : ShR f vf vd vw vl vr p' k') : ShR f' vf' vd' vw' vl' vr' p k := by
  refine ⟨?_, fun c hc => CoR_mv hc hf (hD c hc) (hW c hc) (hL c hc) (S_c h hc), AnR_mv hf hR (S_a h)⟩
  rw [hF, hf 0 (by decide)]; exact h.1
theorem HdR_k (hf : ∀ k : Nat, k < 12 → f' k = f k) (hq : ∀ k : Nat, k < 13 → k ≠ 4 → vq' k = vq k) (h : HdR f vq) : HdR f' vq' := by
  obtain ⟨a, ⟨b0, b1, b2, b3⟩, c, d, e, g⟩ := h
  refine ⟨fun j hj => by rw [hf j (by omega), hq j (by omega) (by omega)]; exact a j hj, ⟨by rw [hf 0 (by decide)]; exact b0, by rw [hf 1 (by decide)]; exact b1, by rw [hf 2 (by decide)]; exact b2, by rw [hf 3 (by decide)]; exact b3⟩, fun i hi => by rw [hf _ (by omega), hq _ (by omega) (by omega)]; exact c i hi, fun i hi => by rw [hf _ (by omega), hq _ (by omega) (by omega)]; exact d i hi, by rw [hf 10 (by decide), hq 5 (by decide) (by decide)]; exact e, by rw [hf 11 (by decide), hq 6 (by decide) (by decide)]; exact g⟩
theorem Re_one (h : Re n f vq vf vd vw vl vr) {p : Nat} (hf : ∀ k : Nat, k < 13 + 14 * p ∨ 13 + 14 * (p + 1) ≤ k → f' k = f k) (hF : ∀ k : Nat, k ≠ p → vf' k = vf k) (hD : ∀ k : Nat, k < 3 * p ∨ 3 * p + 3 ≤ k → vd' k = vd k) (hW : ∀ k : Nat, k < 3 * p ∨ 3 * p + 3 ≤ k → vw' k = vw k) (hL : ∀ k : Nat, k < 3 * p ∨ 3 * p + 3 ≤ k → vl' k = vl k) (hR : ∀ k : Nat, k < 3 * p ∨ 3 * p + 3 ≤ k → vr' k = vr k) (hs : ShR f' vf' vd' vw' vl' vr' p p) : Re n f' vq vf' vd' vw' vl' vr' := by
  refine ⟨R_n h, (hf 12 (by omega)).trans (R_12 h), R_4 h, HdR_k (fun k hk => hf k (by omega)) (fun k _ _ => rfl) (R_h h), fun q hq => ?_⟩
  by_cases e : q = p
  · subst e; exact hs
  · exact ShR_mv (fun j hj => hf _ (by omega)) (hF q e) (fun c hc => hD _ (by omega)) (fun c hc => hW _ (by omega)) (fun c hc => hL _ (by omega)) (fun c hc => hR _ (by omega)) (R_s h hq)
theorem Re_hd (h : Re n f vq vf vd vw vl vr) (hf : ∀ k : Nat, 12 ≤ k → f' k = f k) (h4 : vq' 4 = vq 4) (hH : HdR f' vq') : Re n f' vq' vf vd vw vl vr := by
  refine ⟨R_n h, (hf 12 (by omega)).trans (R_12 h), h4.trans (R_4 h), hH, fun q hq => ?_⟩
  exact ShR_mv (fun j hj => hf _ (by omega)) rfl (fun _ _ => rfl) (fun _ _ => rfl) (fun _ _ => rfl) (fun _ _ => rfl) (R_s h hq)
theorem Hd_age (h : HdR f vq) {c : Nat} (hc : c < 3) {z : Int32} (hz : rng 0 999 z) : HdR (upd f (4 + c) z) (upd vq (7 + c) z) := by
  obtain ⟨a, ⟨b0, b1, b2, b3⟩, d, e, g, i⟩ := h
  refine ⟨fun j hj => by rw [pk_un (by omega), pk_un (by omega)]; exact a j hj, ⟨by rw [pk_un (by omega)]; exact b0, by rw [pk_un (by omega)]; exact b1, by rw [pk_un (by omega)]; exact b2, by rw [pk_un (by omega)]; exact b3⟩, fun j hj => ?_, fun j hj => by rw [pk_un (by omega), pk_un (by omega)]; exact e j hj, by rw [pk_un (by omega), pk_un (by omega)]; exact g, by rw [pk_un (by omega), pk_un (by omega)]; exact i⟩
  by_cases w : j = c
  · subst w; rw [pk_us, pk_us]; exact ⟨rfl, hz⟩
  · rw [pk_un (by omega), pk_un (by omega)]; exact d j hj
theorem Hd_trim (h : HdR f vq) {c : Nat} (hc : c < 3) {z : Int32} (hz : rng (-20) 20 z) : HdR (upd f (7 + c) z) (upd vq (10 + c) z) := by
  obtain ⟨a, ⟨b0, b1, b2, b3⟩, d, e, g, i⟩ := h
  refine ⟨fun j hj => by rw [pk_un (by omega), pk_un (by omega)]; exact a j hj, ⟨by rw [pk_un (by omega)]; exact b0, by rw [pk_un (by omega)]; exact b1, by rw [pk_un (by omega)]; exact b2, by rw [pk_un (by omega)]; exact b3⟩, fun j hj => by rw [pk_un (by omega), pk_un (by omega)]; exact d j hj, fun j hj => ?_, by rw [pk_un (by omega), pk_un (by omega)]; exact g, by rw [pk_un (by omega), pk_un (by omega)]; exact i⟩
  by_cases w : j = c
  · subst w; rw [pk_us, pk_us]; exact ⟨rfl, hz⟩
  · rw [pk_un (by omega), pk_un (by omega)]; exact e j hj
theorem Hd_pts (h : HdR f vq) (z : Int32) : HdR (upd f 11 (f 11 + z)) (upd vq 6 (vq 6 + z)) := by
  obtain ⟨a, ⟨b0, b1, b2, b3⟩, d, e, g, i⟩ := h
  exact ⟨fun j hj => by rw [pk_un (by omega), pk_un (by omega)]; exact a j hj, ⟨by rw [pk_un (by omega)]; exact b0, by rw [pk_un (by omega)]; exact b1, by rw [pk_un (by omega)]; exact b2, by rw [pk_un (by omega)]; exact b3⟩, fun j hj => by rw [pk_un (by omega), pk_un (by omega)]; exact d j hj, fun j hj => by rw [pk_un (by omega), pk_un (by omega)]; exact e j hj, by rw [pk_un (by omega), pk_un (by omega)]; exact g, by rw [pk_us, pk_us, i]⟩
theorem Hd_prt (h : HdR f vq) : HdR (upd f 10 (f 10 + nI 1)) (upd vq 5 (vq 5 + nI 1)) := by
  obtain ⟨a, ⟨b0, b1, b2, b3⟩, d, e, g, i⟩ := h
  exact ⟨fun j hj => by rw [pk_un (by omega), pk_un (by omega)]; exact a j hj, ⟨by rw [pk_un (by omega)]; exact b0, by rw [pk_un (by omega)]; exact b1, by rw [pk_un (by omega)]; exact b2, by rw [pk_un (by omega)]; exact b3⟩, fun j hj => by rw [pk_un (by omega), pk_un (by omega)]; exact d j hj, fun j hj => by rw [pk_un (by omega), pk_un (by omega)]; exact e j hj, by rw [pk_us, pk_us, g], by rw [pk_un (by omega), pk_un (by omega)]; exact i⟩
theorem Hd_set (h : HdR f vq) {j : Nat} (hj : j < 4) {w : Nat} (hw : w < 5) : HdR (upd f j (nI (1 + w))) (upd vq j (nI (1 + w))) := by
  obtain ⟨a, ⟨b0, b1, b2, b3⟩, d, e, g, i⟩ := h
  have key : ∀ t (lo hi : Int), lo ≤ 1 → 5 ≤ hi → rng lo hi (f t) → rng lo hi (upd f j (nI (1 + w)) t) := fun t lo hi h1 h2 h3 => by
    by_cases q : t = j
    · subst q; rw [pk_us]; exact rng_nI (by omega) (by omega) (by omega)
    · rw [pk_un q]; exact h3
  refine ⟨fun t ht => ?_, ⟨key 0 _ _ (by decide) (by decide) b0, key 1 _ _ (by decide) (by decide) b1, key 2 _ _ (by decide) (by decide) b2, key 3 _ _ (by decide) (by decide) b3⟩, fun t ht => by rw [pk_un (by omega), pk_un (by omega)]; exact d t ht, fun t ht => by rw [pk_un (by omega), pk_un (by omega)]; exact e t ht, by rw [pk_un (by omega), pk_un (by omega)]; exact g, by rw [pk_un (by omega), pk_un (by omega)]; exact i⟩
  by_cases q : t = j
  · subst q; rw [pk_us, pk_us]
  · rw [pk_un q, pk_un q]; exact a t ht
/-! one number -/
variable {a b : Nat} {x : Int32}
theorem Re_light (h : Re n f vq vf vd vw vl vr) (c : a < n) (hb : b < 3) {z : Int32} (hz : rng 0 50 z) : Re n (upd f (13 + 14 * a + (8 + b)) z) vq vf vd vw (upd vl (3 * a + b) z) vr := by
  have hs := R_s h c
  obtain ⟨d1, d2, d3, d4, d5⟩ := S_c hs hb
  refine Re_one h (p := a) (fun k hk => pk_un (by omega)) (fun _ _ => rfl) (fun _ _ => rfl) (fun _ _ => rfl) (fun k hk => pk_un (by omega)) (fun _ _ => rfl) ⟨?_, fun i hi => ?_, ?_⟩
  · rw [pk_un (by omega)]; exact hs.1
  · by_cases e : i = b
    · subst e
      unfold CoR
      rw [pk_us, pk_us, pk_un (by omega), pk_un (by omega)]
      exact ⟨d1, d2, rfl, d4, hz⟩
    · unfold CoR
      rw [pk_un (by omega), pk_un (by omega), pk_un (by omega), pk_un (by omega)]
      exact S_c hs hi
  · rcases S_a hs with ⟨e, g⟩ | ⟨e, g⟩
    · exact Or.inl ⟨by rw [pk_un (by omega)]; exact e, g⟩
    · exact Or.inr ⟨by rw [pk_un (by omega)]; exact e, fun i hi => by rw [pk_un (by omega)]; exact g i hi⟩
theorem P1 (h : Re n f vq vf vd vw vl vr) (ha : a < 21) (hb : b < 3) : StpL f (k1V f n a b x) (u1V vq vf vd vw vl vr n a b x) (k1W f n a b x) (u1Q vq vf vd vw vl vr n a b x) (u1F vq vf vd vw vl vr n a b x) (u1D vq vf vd vw vl vr n a b x) (u1W vq vf vd vw vl vr n a b x) (u1L vq vf vd vw vl vr n a b x) (u1R vq vf vd vw vl vr n a b x) := by
  have hn := R_n h
  have hw := lowN_lt x (m := 51) (by decide)
  unfold k1V k1W u1V u1Q u1F u1D u1W u1L u1R s1V s1Q s1F s1D s1W s1L s1R cLv cLw
  by_cases c : a < n
  · simp only [if_pos c, if_neg (hasS_ne (show n < 2 ^ 31 by omega) c), if_neg (isC_n hb), if_neg (show ¬ isP (nI (lowN x 51)) = 0 from isW_n (lo := 0) (hi := 50) (by omega) (by omega) (by omega)), ix_nI (show a < 2 ^ 31 by omega), ix_nI (show b < 2 ^ 31 by omega)]
    have hs := R_s h c
    obtain ⟨d1, d2, d3, d4, d5⟩ := S_c hs hb
    exact ⟨d3.symm, fun z => absurd z (rng_nn d5), n, Re_light h c hb (rng_nI (by omega) (by omega) (by omega))⟩
  · simp only [if_neg c, if_pos (hasS_n (show n < 2 ^ 31 by omega) (show a < 2 ^ 31 by omega) (Nat.le_of_not_lt c))]
    exact StpL_no h _
theorem wi_rng (hw : lowN x 21 < 21) : rng (-10) 10 (nI (lowN x 21) - nI 10) := by
  have e0 : (nI 10).toInt = 10 := by decide
  have e1 : (nI (lowN x 21)).toInt = (lowN x 21 : Int) := nI_toInt (by omega)
  unfold rng
  rw [toInt_sub (by omega) (by omega), e0, e1]; omega
theorem P2 (h : Re n f vq vf vd vw vl vr) (ha : a < 21) (hb : b < 3) : StpL f (k2V f n a b x) (u2V vq vf vd vw vl vr n a b x) (k2W f n a b x) (u2Q vq vf vd vw vl vr n a b x) (u2F vq vf vd vw vl vr n a b x) (u2D vq vf vd vw vl vr n a b x) (u2W vq vf vd vw vl vr n a b x) (u2L vq vf vd vw vl vr n a b x) (u2R vq vf vd vw vl vr n a b x) := by
  have hn := R_n h
  have hw := wi_rng (x := x) (lowN_lt x (m := 21) (by decide))
  unfold k2V k2W u2V u2Q u2F u2D u2W u2L u2R s2V s2Q s2F s2D s2W s2L s2R cWv cWw
  by_cases c : a < n
  · simp only [if_pos c, if_neg (hasS_ne (show n < 2 ^ 31 by omega) c), if_neg (isC_n hb), if_neg (isW_r (lo := -10) (hi := nI 10) hw), ix_nI (show a < 2 ^ 31 by omega), ix_nI (show b < 2 ^ 31 by omega)]
    have hs := R_s h c
    obtain ⟨d1, d2, d3, d4, d5⟩ := S_c hs hb
    refine ⟨by rw [d2], fun z => absurd z ?_, n, ?_⟩
    · obtain ⟨q1, q2⟩ := d4
      have e0 : (nI 10).toInt = 10 := by decide
      rw [i32_lt, i32_z, toInt_add (by omega) (by omega), e0]; omega
    refine Re_one h (p := a) (fun k hk => pk_un (by omega)) (fun _ _ => rfl) (fun _ _ => rfl) (fun k hk => pk_un (by omega)) (fun _ _ => rfl) (fun _ _ => rfl) ⟨?_, fun i hi => ?_, ?_⟩
    · rw [pk_un (by omega)]; exact hs.1
    · by_cases e : i = b
      · subst e
        unfold CoR
        rw [pk_us, pk_us, pk_un (by omega), pk_un (by omega)]
        exact ⟨d1, rfl, d3, hw, d5⟩
      · unfold CoR
        rw [pk_un (by omega), pk_un (by omega), pk_un (by omega), pk_un (by omega)]
        exact S_c hs hi
    · rcases S_a hs with ⟨e, g⟩ | ⟨e, g⟩
      · exact Or.inl ⟨by rw [pk_un (by omega)]; exact e, g⟩
      · exact Or.inr ⟨by rw [pk_un (by omega)]; exact e, fun i hi => by rw [pk_un (by omega)]; exact g i hi⟩
  · simp only [if_neg c, if_pos (hasS_n (show n < 2 ^ 31 by omega) (show a < 2 ^ 31 by omega) (Nat.le_of_not_lt c))]
    exact StpL_no h _
theorem tr_rng (hw : lowN x 41 < 41) : rng (-20) 20 (nI (lowN x 41) - nI 20) := by
  have e0 : (nI 20).toInt = 20 := by decide
  have e1 : (nI (lowN x 41)).toInt = (lowN x 41 : Int) := nI_toInt (by omega)
  unfold rng
  rw [toInt_sub (by omega) (by omega), e0, e1]; omega
theorem P10 (h : Re n f vq vf vd vw vl vr) (hb : b < 3) : StpL f (k10V f n a b x) (u10V vq vf vd vw vl vr n a b x) (k10W f n a b x) (u10Q vq vf vd vw vl vr n a b x) (u10F vq vf vd vw vl vr n a b x) (u10D vq vf vd vw vl vr n a b x) (u10W vq vf vd vw vl vr n a b x) (u10L vq vf vd vw vl vr n a b x) (u10R vq vf vd vw vl vr n a b x) := by
  have hw := tr_rng (x := x) (lowN_lt x (m := 41) (by decide))
  unfold k10V k10W u10V u10Q u10F u10D u10W u10L u10R cUv cUw
  simp only [if_neg (isC_n hb), if_neg (isW_r (lo := -20) (hi := nI 20) hw), ix_nI (show b < 2 ^ 31 by omega)]
  have hh := R_h h
  refine ⟨by rw [H_trim hh hb], fun z => absurd z ?_, n, Re_hd h (fun k hk => pk_un (by omega)) (pk_un (by omega)) (Hd_trim hh hb hw)⟩
  obtain ⟨q1, q2⟩ := H_trimr hh hb
  have e0 : (nI 20).toInt = 20 := by decide
  rw [i32_lt, i32_z, toInt_add (by omega) (by omega), e0]; omega
theorem P11 (h : Re n f vq vf vd vw vl vr) (hb : b < 3) : StpL f (k11V f n a b x) (u11V vq vf vd vw vl vr n a b x) (k11W f n a b x) (u11Q vq vf vd vw vl vr n a b x) (u11F vq vf vd vw vl vr n a b x) (u11D vq vf vd vw vl vr n a b x) (u11W vq vf vd vw vl vr n a b x) (u11L vq vf vd vw vl vr n a b x) (u11R vq vf vd vw vl vr n a b x) := by
  unfold k11V k11W u11V u11Q u11F u11D u11W u11L u11R cQv cQw
  simp only [if_neg (isC_n hb), ix_nI (show b < 2 ^ 31 by omega)]
  have hh := R_h h
  exact ⟨(H_age hh hb).symm, fun z => absurd z (rng_nn (H_ager hh hb)), n, Re_hd h (fun k hk => pk_un (by omega)) (pk_un (by omega)) (Hd_age hh hb (rng_nI (by decide) (by decide) (by decide)))⟩
theorem set_ok : ∀ j, j < 4 → ∀ w, w < 5 → ¬ isW (nI (1 + w)) (([1, 0, 1, 0] : List Int32).getD j 0) (([5, 9, 40, 50] : List Int32).getD j 0) = 0 := by decide
theorem P13 (h : Re n f vq vf vd vw vl vr) : StpL f (k13V f n a b x) (u13V vq vf vd vw vl vr n a b x) (k13W f n a b x) (u13Q vq vf vd vw vl vr n a b x) (u13F vq vf vd vw vl vr n a b x) (u13D vq vf vd vw vl vr n a b x) (u13W vq vf vd vw vl vr n a b x) (u13L vq vf vd vw vl vr n a b x) (u13R vq vf vd vw vl vr n a b x) := by
  have hj := lowN_lt (nI a) (m := 4) (by decide)
  have hw := lowN_lt x (m := 5) (by decide)
  unfold k13V k13W u13V u13Q u13F u13D u13W u13L u13R cSv cSw
  generalize lowN (nI a) 4 = j at hj ⊢
  generalize lowN x 5 = w at hw ⊢
  simp only [if_neg (show ¬ isW (nI j) (nI 0) (nI 3) = 0 from isW_n (by omega) (by omega) (by omega)), ix_nI (show j < 2 ^ 31 by omega), if_neg (set_ok j hj w hw), Nat.zero_add]
  have hh := R_h h
  refine ⟨(H_set hh hj).symm, fun z => absurd z ?_, n, Re_hd h (fun k hk => pk_un (by omega)) (pk_un (by omega)) (Hd_set hh hj hw)⟩
  rcases (by omega : j = 0 ∨ j = 1 ∨ j = 2 ∨ j = 3) with e | e | e | e <;> subst e
  · exact rng_nn (rng_mono (H_0 hh) (by decide) (Int.le_refl _))
  · exact rng_nn (H_1 hh)
  · exact rng_nn (H_2 hh)
  · exact rng_nn (H_3 hh)
/-! the card -/
theorem lo_nat (h : HdR f vq) {c : Nat} (hc : c < 3) : ∃ t : Nat, t ≤ 499 ∧ f (4 + c) * f 3 / nI 100 = nI t := by
  obtain ⟨A, hA, eA⟩ := rng_nat (k := 999) (H_ager h hc)
  obtain ⟨B, hB, eB⟩ := rng_nat (k := 50) (H_3 h)
  have hm : A * B ≤ 999 * 50 := Nat.mul_le_mul hA hB
  rw [eA, eB, pk_mul, pk_div (by omega) (by omega) (by omega)]
  exact ⟨A * B / 100, by omega, rfl⟩
theorem l20_e {t : Nat} (h : t ≤ 499) : imin (nI 20) (nI t) = l20 (nI t) ∧ rng 0 20 (l20 (nI t)) := by
  unfold l20
  by_cases c : t ≤ 20
  · rw [if_pos (nI_le c (by omega)), imin_r c (by omega)]; exact ⟨rfl, rng_nI (by omega) (by omega) (by omega)⟩
  · rw [if_neg (nI_ge (by omega) (by omega)), imin_l (by omega) (by omega)]; exact ⟨rfl, rng_nI (by omega) (by omega) (by omega)⟩
theorem Re_t1 (h : Re n f vq vf vd vw vl vr) {c : Nat} (hc : c < 3) : Re n (upd f (7 + c) (imin (nI 20) (f (4 + c) * f 3 / nI 100))) (upd vq (10 + c) (l20 (((vq (7 + c)) * (vq 3)) / (nI 100)))) vf vd vw vl vr ∧ l20 (((vq (7 + c)) * (vq 3)) / (nI 100)) = imin (nI 20) (f (4 + c) * f 3 / nI 100) ∧ rng 0 20 (imin (nI 20) (f (4 + c) * f 3 / nI 100)) := by
  have hh := R_h h
  obtain ⟨t, ht, e⟩ := lo_nat hh hc
  obtain ⟨e1, e2⟩ := l20_e ht
  rw [V_lo hh hc, e, ← e1]
  rw [← e1] at e2
  exact ⟨Re_hd h (fun k hk => pk_un (by omega)) (pk_un (by omega)) (Hd_trim hh hc (rng_mono e2 (by decide) (Int.le_refl _))), rfl, e2⟩
theorem P9 (h : Re n f vq vf vd vw vl vr) : StpL f (k9V f n a b x) (u9V vq vf vd vw vl vr n a b x) (k9W f n a b x) (u9Q vq vf vd vw vl vr n a b x) (u9F vq vf vd vw vl vr n a b x) (u9D vq vf vd vw vl vr n a b x) (u9W vq vf vd vw vl vr n a b x) (u9L vq vf vd vw vl vr n a b x) (u9R vq vf vd vw vl vr n a b x) := by
  unfold k9V k9W u9V u9Q u9F u9D u9W u9L u9R cTv cTw
  obtain ⟨r1, e1, g1⟩ : Re n (upd f 7 (imin (nI 20) (f (4 + 0) * f 3 / nI 100))) (upd vq 10 (l20 (((vq 7) * (vq 3)) / (nI 100)))) vf vd vw vl vr ∧ l20 (((vq 7) * (vq 3)) / (nI 100)) = imin (nI 20) (f (4 + 0) * f 3 / nI 100) ∧ rng 0 20 (imin (nI 20) (f (4 + 0) * f 3 / nI 100)) := Re_t1 h (c := 0) (by decide)
  rw [pk_us]
  generalize hT1 : imin (nI 20) (f (4 + 0) * f 3 / nI 100) = T1 at r1 e1 g1 ⊢
  rw [e1] at r1 ⊢
  generalize upd f 7 T1 = F1 at r1 ⊢
  generalize upd vq 10 T1 = G1 at r1 ⊢
  obtain ⟨r2, e2, g2⟩ : Re n (upd F1 8 (imin (nI 20) (F1 (4 + 1) * F1 3 / nI 100))) (upd G1 11 (l20 (((G1 8) * (G1 3)) / (nI 100)))) vf vd vw vl vr ∧ l20 (((G1 8) * (G1 3)) / (nI 100)) = imin (nI 20) (F1 (4 + 1) * F1 3 / nI 100) ∧ rng 0 20 (imin (nI 20) (F1 (4 + 1) * F1 3 / nI 100)) := Re_t1 r1 (c := 1) (by decide)
  rw [pk_us]
  generalize imin (nI 20) (F1 (4 + 1) * F1 3 / nI 100) = T2 at r2 e2 g2 ⊢
  rw [e2] at r2 ⊢
  generalize upd F1 8 T2 = F2 at r2 ⊢
  generalize upd G1 11 T2 = G2 at r2 ⊢
  obtain ⟨r3, e3, g3⟩ : Re n (upd F2 9 (imin (nI 20) (F2 (4 + 2) * F2 3 / nI 100))) (upd G2 12 (l20 (((G2 9) * (G2 3)) / (nI 100)))) vf vd vw vl vr ∧ l20 (((G2 9) * (G2 3)) / (nI 100)) = imin (nI 20) (F2 (4 + 2) * F2 3 / nI 100) ∧ rng 0 20 (imin (nI 20) (F2 (4 + 2) * F2 3 / nI 100)) := Re_t1 r2 (c := 2) (by decide)
  rw [pk_us]
  generalize imin (nI 20) (F2 (4 + 2) * F2 3 / nI 100) = T3 at r3 e3 g3 ⊢
  rw [e3] at r3 ⊢
  refine ⟨rfl, fun z => absurd z ?_, n, r3⟩
  obtain ⟨p1, q1⟩ := g1
  obtain ⟨p2, q2⟩ := g2
  obtain ⟨p3, q3⟩ := g3
  have z0 : (nI 0).toInt = 0 := by decide
  have z1 : (nI 0 + T1).toInt = T1.toInt := by rw [toInt_add (by omega) (by omega), z0]; omega
  have z2 : (nI 0 + T1 + T2).toInt = T1.toInt + T2.toInt := by rw [toInt_add (by omega) (by omega), z1]
  rw [i32_lt, i32_z, toInt_add (by omega) (by omega), z2]; omega
end
