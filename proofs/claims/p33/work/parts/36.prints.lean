/-! corrections and prints -/
section
variable {n : Nat} {f vq vf vd vw vl vr : Nat → Int32} {a b c p k : Nat} {x : Int32}
theorem cx_e (L A B : Int32) : L - A + (A - B) = L - B := by
  rw [Int32.sub_eq_add_neg L A, Int32.sub_eq_add_neg A B, Int32.add_assoc, ← Int32.add_assoc (-A) A, Int32.add_left_neg, Int32.zero_add, ← Int32.sub_eq_add_neg]
theorem imax_s {s : Int32} (h : rng 1 5 s) : imax (nI 1) s = s := by
  obtain ⟨h1, h2⟩ := h
  unfold imax
  by_cases q : nI 1 < s
  · rw [if_pos q]
  · rw [if_neg q]
    rw [i32_lt, show (nI 1).toInt = 1 by decide] at q
    apply Int32.toInt_inj.mp
    rw [show (nI 1).toInt = 1 by decide]; omega
theorem V_cx (h : Re n f vq vf vd vw vl vr) (hp : p < n) (hh : f (13 + 14 * p + 1) = nI 1) (hc : c < 3) : lCx vq vl vr p c = f (13 + 14 * p + (8 + c)) - (((f (13 + 14 * p + (11 + c))) / (imax (nI 1) (f 0))) * (imax (nI 1) (f 0))) := by
  unfold lCx
  rcases S_a (R_s h hp) with ⟨e, g⟩ | ⟨e, g⟩
  · rw [hh] at e; exact absurd e (by decide)
  · rw [(g c hc).1, an_add, cx_e, imax_s (H_0 (R_h h)), H_set (R_h h) (by decide), (S_c (R_s h hp) hc).2.2.1]
theorem G1 (h : Re n f vq vf vd vw vl vr) (hp : p < n) (hh : f (13 + 14 * p + 1) = nI 1) (hc : c < 3) : Re n (cGw f p c) vq vf vd vw (upd vl (3 * p + c) (bd (lCx vq vl vr p c))) vr ∧ cGv f p c = lSz (bd (lCx vq vl vr p c) - vl (3 * p + c)) ∧ cGw f p c (13 + 14 * p + 1) = nI 1 ∧ rng 0 50 (cGv f p c) := by
  have e := V_cx h hp hh hc
  have hC := S_c (R_s h hp) hc
  unfold cGw cGv
  rw [← e]
  have ev : iabs (bd (lCx vq vl vr p c) - f (13 + 14 * p + (8 + c))) = lSz (bd (lCx vq vl vr p c) - vl (3 * p + c)) := by rw [lSz_e, hC.2.2.1]
  refine ⟨Re_light h hp hc (bd_rng _), ev, (pk_un (by omega)).trans hh, ?_⟩
  rw [ev, hC.2.2.1]
  refine lSz_rng (by decide) ?_
  obtain ⟨q1, q2⟩ := bd_rng (lCx vq vl vr p c)
  obtain ⟨q3, q4⟩ := hC.2.2.2.2
  unfold rng
  rw [toInt_sub (by omega) (by omega)]; omega
theorem Re_off (h : Re n f vq vf vd vw vl vr) (hp : p < n) : Re n (upd f (13 + 14 * p + 1) (nI 0)) vq vf vd vw vl (fo3 vr p) := by
  have hs := R_s h hp
  refine Re_one h (p := p) (fun k hk => pk_un (by omega)) (fun _ _ => rfl) (fun _ _ => rfl) (fun _ _ => rfl) (fun _ _ => rfl) (fun k hk => (pk_un (by omega)).trans ((pk_un (by omega)).trans (pk_un (by omega)))) ⟨?_, fun i hi => ?_, Or.inl ⟨pk_us, fun i hi => fo3_s _ hi⟩⟩
  · rw [pk_un (by omega)]; exact hs.1
  · unfold CoR
    rw [pk_un (by omega), pk_un (by omega), pk_un (by omega)]
    exact S_c hs hi
theorem E1 (h : Re n f vq vf vd vw vl vr) (hp : p < n) (hh : f (13 + 14 * p + 1) = nI 1) :
    nI 0 + (cGv f p 0) + (cGv (cGw f p 0) p 1) + (cGv (cGw (cGw f p 0) p 1) p 2) = lCv vq vl vr p ∧ rng 0 150 (lCv vq vl vr p) ∧
    Re n (upd (upd (cGw (cGw (cGw f p 0) p 1) p 2) (13 + 14 * p + 1) (nI 0)) 11 ((upd (cGw (cGw (cGw f p 0) p 1) p 2) (13 + 14 * p + 1) (nI 0)) 11 + (nI 0 + (cGv f p 0) + (cGv (cGw f p 0) p 1) + (cGv (cGw (cGw f p 0) p 1) p 2)))) (lCq vq vl vr p) vf vd vw (lCl vq vl vr p) (lCr vq vl vr p) := by
  obtain ⟨r1, e1, h1, g1⟩ := G1 h hp hh (c := 0) (by decide)
  have l1 : lCw vq vl vr p 1 = upd vl (3 * p + 0) (bd (lCx vq vl vr p 0)) := rfl
  rw [← l1] at r1
  obtain ⟨r2, e2, h2, g2⟩ := G1 r1 hp h1 (c := 1) (by decide)
  have l2 : lCw vq vl vr p 2 = upd (lCw vq vl vr p 1) (3 * p + 1) (bd (lCx vq (lCw vq vl vr p 1) vr p 1)) := rfl
  rw [← l2] at r2
  obtain ⟨r3, e3, h3, g3⟩ := G1 r2 hp h2 (c := 2) (by decide)
  have l3 : lCw vq vl vr p 3 = upd (lCw vq vl vr p 2) (3 * p + 2) (bd (lCx vq (lCw vq vl vr p 2) vr p 2)) := rfl
  rw [← l3] at r3
  have e : nI 0 + (cGv f p 0) + (cGv (cGw f p 0) p 1) + (cGv (cGw (cGw f p 0) p 1) p 2) = lCv vq vl vr p := by
    rw [e1, e2, e3]; rfl
  refine ⟨e, ?_, ?_⟩
  · rw [← e]
    obtain ⟨p1, q1⟩ := g1
    obtain ⟨p2, q2⟩ := g2
    obtain ⟨p3, q3⟩ := g3
    have z0 : (nI 0).toInt = 0 := by decide
    have z1 : (nI 0 + cGv f p 0).toInt = (cGv f p 0).toInt := by rw [toInt_add (by omega) (by omega), z0]; omega
    have z2 : (nI 0 + cGv f p 0 + cGv (cGw f p 0) p 1).toInt = (cGv f p 0).toInt + (cGv (cGw f p 0) p 1).toInt := by rw [toInt_add (by omega) (by omega), z1]
    unfold rng
    rw [toInt_add (by omega) (by omega), z2]; omega
  · rw [e]
    have r4 := Re_off r3 hp
    exact Re_hd r4 (fun k hk => pk_un (by omega)) (pk_un (by omega)) (Hd_pts (R_h r4) _)
theorem has_or (h : Re n f vq vf vd vw vl vr) (hp : p < n) : (f (13 + 14 * p + 1) = nI 0 ∧ cAn f p = 0 ∧ vr (3 * p) = 0) ∨ (f (13 + 14 * p + 1) = nI 1 ∧ ¬ cAn f p = 0 ∧ ¬ vr (3 * p) = 0) := by
  unfold cAn
  rcases S_a (R_s h hp) with ⟨e, g⟩ | ⟨e, g⟩
  · exact Or.inl ⟨e, by rw [e, if_pos nI_0]; exact nI_0, (g 0 (by decide)).trans nI_0⟩
  · refine Or.inr ⟨e, by rw [e, if_neg (show ¬ nI 1 = 0 by decide)]; decide, fun z => ?_⟩
    have w := an_pos (g 0 (by decide)).2
    rw [← (g 0 (by decide)).1] at w
    exact w (by rw [show vr (3 * p + 0) = 0 from z]; decide)
theorem P7 (h : Re n f vq vf vd vw vl vr) (ha : a < 21) : StpL f (k7V f n a b x) (u7V vq vf vd vw vl vr n a b x) (k7W f n a b x) (u7Q vq vf vd vw vl vr n a b x) (u7F vq vf vd vw vl vr n a b x) (u7D vq vf vd vw vl vr n a b x) (u7W vq vf vd vw vl vr n a b x) (u7L vq vf vd vw vl vr n a b x) (u7R vq vf vd vw vl vr n a b x) := by
  have hn := R_n h
  unfold k7V k7W u7V u7Q u7F u7D u7W u7L u7R s7V s7Q s7F s7D s7W s7L s7R cCv cCw
  by_cases c : a < n
  · rcases has_or h c with ⟨e1, e2, e3⟩ | ⟨e1, e2, e3⟩
    · simp only [if_pos c, if_neg (hasS_ne (show n < 2 ^ 31 by omega) c), ix_nI (show a < 2 ^ 31 by omega), if_pos e2, if_pos e3]
      exact StpL_no h _
    · simp only [if_pos c, if_neg (hasS_ne (show n < 2 ^ 31 by omega) c), ix_nI (show a < 2 ^ 31 by omega), if_neg e2, if_neg e3]
      obtain ⟨w1, w2, w3⟩ := E1 h c e1
      exact ⟨w1, fun z => absurd z (by rw [w1]; exact rng_nn w2), n, w3⟩
  · simp only [if_neg c, if_pos (hasS_n (show n < 2 ^ 31 by omega) (show a < 2 ^ 31 by omega) (Nat.le_of_not_lt c))]
    exact StpL_no h _
theorem Re_ca (h : Re n f vq vf vd vw vl vr) : ∀ k, k ≤ n → Re n (cCb f k) (lA vq vl vr k).1 vf vd vw (lA vq vl vr k).2.1 (lA vq vl vr k).2.2 ∧ cCn f k = lAn vq vl vr k ∧ ∃ j : Nat, j ≤ k ∧ cCn f k = nI j
  | 0, _ => ⟨h, rfl, 0, Nat.le_refl _, rfl⟩
  | k + 1, hk => by
    obtain ⟨r, e, j, hj, ej⟩ := Re_ca h k (by omega)
    have hkn : k < n := by omega
    have eb := V_ba (R_h r) (S_a (R_s r hkn))
    by_cases c : cBa (cCb f k) k = 0
    · rw [cCb_p c, cCn_p c, lA_p (by rw [eb]; exact c), lAn_p (by rw [eb]; exact c)]
      exact ⟨r, e, j, by omega, ej⟩
    · have c' : ¬ lBa (lA vq vl vr k).1 (lA vq vl vr k).2.2 k = 0 := by rw [eb]; exact c
      rcases has_or r hkn with ⟨e1, e2, e3⟩ | ⟨e1, e2, e3⟩
      · exact absurd (by unfold cBa; rw [if_pos e2]; exact nI_0) c
      · obtain ⟨w1, w2, w3⟩ := E1 r hkn e1
        rw [cCb_n c, cCn_n c, lA_n c', lAn_b c' (rng_nn w2), e]
        refine ⟨?_, rfl, j + 1, by omega, by rw [← e, ej, nI_add]⟩
        unfold cEw
        rw [if_neg e2]
        exact w3
theorem P8 (h : Re n f vq vf vd vw vl vr) : StpL f (k8V f n a b x) (u8V vq vf vd vw vl vr n a b x) (k8W f n a b x) (u8Q vq vf vd vw vl vr n a b x) (u8F vq vf vd vw vl vr n a b x) (u8D vq vf vd vw vl vr n a b x) (u8W vq vf vd vw vl vr n a b x) (u8L vq vf vd vw vl vr n a b x) (u8R vq vf vd vw vl vr n a b x) := by
  have hn := R_n h
  obtain ⟨r, e, j, hj, ej⟩ := Re_ca h n (Nat.le_refl n)
  unfold k8V k8W u8V u8Q u8F u8D u8W u8L u8R cZv cZw
  exact ⟨e, fun z => absurd z (by rw [ej]; exact nI_pos (by omega)), n, r⟩
/-! prints -/
theorem cOf_u (g : Nat → Int32) {k i : Nat} (z : Int32) (hc : c < 3) (hi : i < 3) (tr : Int32) : cOf (upd g (13 + 14 * k + (11 + i)) z) k c tr = cOf g k c tr := by
  unfold cOf cPr
  rw [pk_un (by omega), pk_un (by omega), pk_un (by omega), pk_un (by omega), pk_un (by omega)]
theorem cR1_e (g : Nat → Int32) {k i : Nat} (hc : c < 3) (hi : i < 3) : cOf (cR1 g k i) k c (cR1 g k i (7 + c)) = cOf g k c (g (7 + c)) := by
  unfold cR1
  rw [cOf_u g _ hc hi, pk_un (by omega)]
theorem cRs_f (g : Nat → Int32) {k j : Nat} (h : j < 13 + 14 * k + 11 ∨ 13 + 14 * k + 14 ≤ j) (h1 : j ≠ 13 + 14 * k + 1) : cRs g k j = g j := by
  unfold cRs cR1
  rw [pk_un (by omega), pk_un (by omega), pk_un (by omega), pk_un (by omega)]
theorem cRs_a (g : Nat → Int32) (k : Nat) : ∀ c, c < 3 → cRs g k (13 + 14 * k + (11 + c)) = cOf g k c (g (7 + c)) := by
  intro c hc
  have e1 := cR1_e g (k := k) (c := 1) (i := 0) (by decide) (by decide)
  have e2 : cOf (cR1 (cR1 g k 0) k 1) k 2 (cR1 (cR1 g k 0) k 1 (7 + 2)) = cOf g k 2 (g (7 + 2)) := (cR1_e _ (by decide) (by decide)).trans (cR1_e g (by decide) (by decide))
  unfold cRs
  rcases (by omega : c = 0 ∨ c = 1 ∨ c = 2) with e | e | e <;> subst e
  · rw [pk_un (by omega)]
    refine (pk_un (by omega)).trans ((pk_un (by omega)).trans pk_us)
  · rw [pk_un (by omega)]
    exact (pk_un (by omega)).trans (pk_us.trans e1)
  · rw [pk_un (by omega)]
    exact pk_us.trans e2
theorem lRs_a (g : Nat → Int32) (k : Nat) : ∀ c, c < 3 → lRs vq vd vw vl g k (3 * k + c) = nI 1000 + lOf vq vd vw vl k c := by
  intro c hc
  unfold lRs lR1
  rcases (by omega : c = 0 ∨ c = 1 ∨ c = 2) with e | e | e <;> subst e
  · rw [pk_un (by omega), pk_un (by omega), pk_us]
  · rw [pk_un (by omega), pk_us]
  · rw [pk_us]
theorem lRs_o (g : Nat → Int32) {k j : Nat} (h : j < 3 * k ∨ 3 * k + 3 ≤ j) : lRs vq vd vw vl g k j = g j := by
  unfold lRs lR1
  rw [pk_un (by omega), pk_un (by omega), pk_un (by omega)]
theorem Re_rs (h : Re n f vq vf vd vw vl vr) (hk : k < n) : Re n (cRs f k) vq vf vd vw vl (lRs vq vd vw vl vr k) := by
  have hs := R_s h hk
  refine Re_one h (p := k) (fun j hj => cRs_f f (by omega) (by omega)) (fun _ _ => rfl) (fun _ _ => rfl) (fun _ _ => rfl) (fun _ _ => rfl) (fun j hj => lRs_o vr (by omega)) ⟨?_, fun i hi => ?_, Or.inr ⟨?_, fun i hi => ?_⟩⟩
  · rw [cRs_f f (by omega) (by omega)]; exact hs.1
  · unfold CoR
    rw [cRs_f f (by omega) (by omega), cRs_f f (by omega) (by omega), cRs_f f (by omega) (by omega)]
    exact S_c hs hi
  · unfold cRs; exact pk_us
  · have hC := S_c hs hi
    rw [lRs_a vr k i hi, cRs_a f k i hi, V_of (R_h h) hC hi]
    exact ⟨rfl, cOf_rng hC.2.2.2.1 _⟩
theorem Re_rp (h : Re n f vq vf vd vw vl vr) : ∀ k, k ≤ n → Re n (cRp f k) vq vf vd vw vl (lRp vq vd vw vl vr k) ∧ cRb f k = lRb vq vd vw vl vr k ∧ ∃ j : Nat, j ≤ k ∧ cRb f k = nI j
  | 0, _ => ⟨h, rfl, 0, Nat.le_refl _, rfl⟩
  | k + 1, hk => by
    obtain ⟨r, e, j, hj, ej⟩ := Re_rp h k (by omega)
    have r' := Re_rs r (k := k) (by omega)
    have eb := V_ba (R_h r') (S_a (R_s r' (p := k) (by omega)))
    refine ⟨r', ?_, ?_⟩
    · rw [cRb, lRb, e, eb]
    · rw [cRb, ej]
      by_cases c : cBa (cRs (cRp f k) k) k = 0
      · rw [if_pos c, nI_add]; exact ⟨j + 0, by omega, rfl⟩
      · rw [if_neg c, nI_add]; exact ⟨j + 1, by omega, rfl⟩
theorem ft_nat (h : Re n f vq vf vd vw vl vr) : ∀ k, k ≤ n → ∃ j : Nat, j ≤ 99 * k ∧ lFt vf k = nI j
  | 0, _ => ⟨0, by omega, rfl⟩
  | k + 1, hk => by
    have hn := R_n h
    obtain ⟨j, hj, e⟩ := ft_nat h k (by omega)
    have hs := R_s h (p := k) (by omega)
    obtain ⟨i, hi, ei⟩ := rng_nat (k := 99) (rng_mono (S_fr hs) (by decide) (Int.le_refl _))
    rw [lFt, e, S_f hs, ei, nI_add]
    exact ⟨j + i, by omega, rfl⟩
theorem Re_age (h : Re n f vq vf vd vw vl vr) (hc : c < 3) {t A : Nat} (e : f (4 + c) = nI A) (hA : A + t ≤ 999) : Re n (upd f (4 + c) (f (4 + c) + nI t)) (upd vq (7 + c) (vq (7 + c) + nI t)) vf vd vw vl vr := by
  rw [H_age (R_h h) hc, e, nI_add]
  exact Re_hd h (fun k hk => pk_un (by omega)) (pk_un (by omega)) (Hd_age (R_h h) hc (rng_nI (by omega) (by omega) (by omega)))
theorem P6 (h : Re n f vq vf vd vw vl vr) : StpL f (k6V f n a b x) (u6V vq vf vd vw vl vr n a b x) (k6W f n a b x) (u6Q vq vf vd vw vl vr n a b x) (u6F vq vf vd vw vl vr n a b x) (u6D vq vf vd vw vl vr n a b x) (u6W vq vf vd vw vl vr n a b x) (u6L vq vf vd vw vl vr n a b x) (u6R vq vf vd vw vl vr n a b x) := by
  have hn := R_n h
  have hh := R_h h
  unfold k6V k6W u6V u6Q u6F u6D u6W u6L u6R cKv cKw lPv lPq lPrr
  by_cases c0 : n = 0
  · simp only [if_pos c0, ite_self]
    exact StpL_no h _
  · simp only [if_neg c0]
    obtain ⟨r, eb, j, hj, ej⟩ := Re_rp h n (Nat.le_refl n)
    obtain ⟨m, hm, em⟩ := ft_nat h n (Nat.le_refl n)
    have eF : cHo (cRp f n) n = nI ((m + 99) / 100) := by
      unfold cHo
      rw [← V_ft r n (Nat.le_refl n), em, nI_add, pk_div (by omega) (by omega) (by omega)]
    have eH : cHo f n = nI ((m + 99) / 100) := by
      unfold cHo
      rw [← V_ft h n (Nat.le_refl n), em, nI_add, pk_div (by omega) (by omega) (by omega)]
    have eL : (lFt vf n + (nI 99)) / (nI 100) = nI ((m + 99) / 100) := by rw [em, nI_add, pk_div (by omega) (by omega) (by omega)]
    have ht : (m + 99) / 100 ≤ 20 := by omega
    rw [eH]
    simp only [eL]
    generalize (m + 99) / 100 = t at eF ht ⊢
    obtain ⟨A0, hA0, e0⟩ : ∃ A : Nat, A ≤ 999 ∧ f 4 = nI A := rng_nat (H_ager hh (c := 0) (by decide))
    obtain ⟨A1, hA1, e1⟩ : ∃ A : Nat, A ≤ 999 ∧ f 5 = nI A := rng_nat (H_ager hh (c := 1) (by decide))
    obtain ⟨A2, hA2, e2⟩ : ∃ A : Nat, A ≤ 999 ∧ f 6 = nI A := rng_nat (H_ager hh (c := 2) (by decide))
    have v0 : vq 7 = f 4 := H_age hh (c := 0) (by decide)
    have v1 : vq 8 = f 5 := H_age hh (c := 1) (by decide)
    have v2 : vq 9 = f 6 := H_age hh (c := 2) (by decide)
    have k0 : vq 7 + nI t ≤ nI 999 ↔ A0 + t ≤ 999 := by rw [v0, e0, nI_add, nI_leI (by omega) (by omega)]
    have k1 : vq 8 + nI t ≤ nI 999 ↔ A1 + t ≤ 999 := by rw [v1, e1, nI_add, nI_leI (by omega) (by omega)]
    have k2 : vq 9 + nI t ≤ nI 999 ↔ A2 + t ≤ 999 := by rw [v2, e2, nI_add, nI_leI (by omega) (by omega)]
    rw [← v0, ← v1, ← v2]
    by_cases c1 : vq 7 + nI t ≤ nI 999
    · by_cases c2 : vq 8 + nI t ≤ nI 999
      · by_cases c3 : vq 9 + nI t ≤ nI 999
        · simp only [if_pos c1, if_pos c2, if_pos c3]
          refine ⟨eb, fun z => absurd z (show ¬ cRb f n < 0 by rw [ej]; exact nI_pos (by omega)), n, ?_⟩
          unfold cRw
          rw [eF]
          have g0 : cRp f n 4 = nI A0 := ((H_age (R_h r) (c := 0) (by decide)).symm.trans v0).trans e0
          have g1 : cRp f n 5 = nI A1 := ((H_age (R_h r) (c := 1) (by decide)).symm.trans v1).trans e1
          have g2 : cRp f n 6 = nI A2 := ((H_age (R_h r) (c := 2) (by decide)).symm.trans v2).trans e2
          generalize cRp f n = F at r g0 g1 g2 ⊢
          have r1 : Re n (upd F 4 (F 4 + nI t)) (upd vq 7 (vq 7 + nI t)) vf vd vw vl (lRp vq vd vw vl vr n) := Re_age r (c := 0) (by decide) g0 (k0.mp c1)
          have g1' : upd F 4 (F 4 + nI t) 5 = nI A1 := (pk_un (by decide)).trans g1
          have g2' : upd F 4 (F 4 + nI t) 6 = nI A2 := (pk_un (by decide)).trans g2
          generalize upd F 4 (F 4 + nI t) = F1 at r1 g1' g2' ⊢
          generalize upd vq 7 (vq 7 + nI t) = G1 at r1 ⊢
          have r2 : Re n (upd F1 5 (F1 5 + nI t)) (upd G1 8 (G1 8 + nI t)) vf vd vw vl (lRp vq vd vw vl vr n) := Re_age r1 (c := 1) (by decide) g1' (k1.mp c2)
          have g2'' : upd F1 5 (F1 5 + nI t) 6 = nI A2 := (pk_un (by decide)).trans g2'
          generalize upd F1 5 (F1 5 + nI t) = F2 at r2 g2'' ⊢
          generalize upd G1 8 (G1 8 + nI t) = G2 at r2 ⊢
          have r3 : Re n (upd F2 6 (F2 6 + nI t)) (upd G2 9 (G2 9 + nI t)) vf vd vw vl (lRp vq vd vw vl vr n) := Re_age r2 (c := 2) (by decide) g2'' (k2.mp c3)
          exact Re_hd r3 (fun k hk => pk_un (by omega)) (pk_un (by omega)) (Hd_prt (R_h r3))
        · simp only [if_pos c1, if_pos c2, if_neg c3]
          exact StpL_no h _
      · simp only [if_pos c1, if_neg c2]
        exact StpL_no h _
    · simp only [if_neg c1]
      exact StpL_no h _
end
