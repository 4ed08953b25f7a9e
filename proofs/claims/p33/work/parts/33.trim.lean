/-! the best trim: both ways of looking for it find the same one -/
/-- the turn at which a trim is tried from 0 outwards -/
def tpos (i : Nat) : Nat := if 20 < i then 2 * (i - 20) else 2 * (20 - i) + 1
def tidx (t : Nat) : Nat := if t % 2 = 0 then 20 + t / 2 else 20 - t / 2
theorem tidx_e : ∀ t, t < 42 → 2 ≤ t → trimOf t = trQ (tidx t) := by decide +kernel
theorem tidx_p {t : Nat} (h1 : 2 ≤ t) (h2 : t < 42) : tidx t ≤ 40 ∧ tpos (tidx t) = t := by
  unfold tidx tpos
  (repeat' split) <;> omega
theorem tpos_i {i j : Nat} (hi : i ≤ 40) (hj : j ≤ 40) (h : tpos i = tpos j) : i = j := by
  unfold tpos at h
  (repeat' split at h) <;> omega
theorem tpos_m {i : Nat} (hi : i ≤ 40) : 1 ≤ tpos i ∧ tpos i < 42 := by
  unfold tpos
  split <;> omega
theorem tidx_q {i t : Nat} (hi : i ≤ 40) (h1 : 2 ≤ t) (h2 : t < 42) (h : tpos i = t) : i = tidx t := tpos_i hi (tidx_p h1 h2).1 (h.trans (tidx_p h1 h2).2.symm)
/-- b is no worse than i -/
def Dom (S : Nat → Int) (b i : Nat) : Prop := S b < S i ∨ (S b = S i ∧ tpos b ≤ tpos i)
theorem Dom_rf (S : Nat → Int) (b : Nat) : Dom S b b := Or.inr ⟨rfl, Nat.le_refl _⟩
theorem Dom_tr {S : Nat → Int} {a b i : Nat} (h1 : Dom S a b) (h2 : Dom S b i) : Dom S a i := by
  rcases h1 with h1 | ⟨h1, p1⟩
  · rcases h2 with h2 | ⟨h2, p2⟩
    · exact Or.inl (by omega)
    · exact Or.inl (by omega)
  · rcases h2 with h2 | ⟨h2, p2⟩
    · exact Or.inl (by omega)
    · exact Or.inr ⟨by omega, by omega⟩
theorem Dom_eq {S : Nat → Int} {a b : Nat} (ha : a ≤ 40) (hb : b ≤ 40) (h1 : Dom S a b) (h2 : Dom S b a) : a = b := by
  rcases h1 with h1 | ⟨h1, p1⟩
  · rcases h2 with h2 | ⟨h2, p2⟩ <;> omega
  · rcases h2 with h2 | ⟨h2, p2⟩
    · omega
    · exact tpos_i ha hb (by omega)
section
variable {n : Nat} {f vq vf vd vw vl vr : Nat → Int32} {co : Nat}
theorem V_su (h : Re n f vq vf vd vw vl vr) (hc : co < 3) (tr : Int32) : ∀ k, k ≤ n → lSu (upd vq (10 + co) tr) vd vw vl co k = cSo f co tr k ∧ rng 0 (35 * k) (cSo f co tr k)
  | 0, _ => ⟨rfl, show rng 0 (35 * ((0 : Nat) : Int)) (nI 0) from rng_nI (by decide) (by decide) (by decide)⟩
  | k + 1, hk => by
    have hn := R_n h
    obtain ⟨e, a1, a2⟩ := V_su h hc tr k (by omega)
    have hC := S_c (R_s h (p := k) (by omega)) hc
    rw [lSu, cSo, e, V_ofT (R_h h) hC hc, lSz_e]
    refine ⟨rfl, ?_⟩
    obtain ⟨b1, b2⟩ := lSz_rng (k := 35) (by decide) (cOf_rng (p := k) hC.2.2.2.1 tr)
    rw [lSz_e] at b1 b2
    unfold rng
    rw [toInt_add (by omega) (by omega)]
    omega
/-- how far off all are with a trim, as a whole number -/
def sI (f : Nat → Int32) (n co i : Nat) : Int := (cSo f co (trQ i) n).toInt
theorem C_bt (f : Nat → Int32) (n co : Nat) : ∀ t, t ≤ 40 → ∃ b, b ≤ 40 ∧ tpos b < t + 2 ∧ cLq f n co (t + 2) = (trQ b, cSo f co (trQ b) n) ∧ ∀ i, i ≤ 40 → tpos i < t + 2 → Dom (sI f n co) b i
  | 0, _ => by
    have e : nI 0 = trQ 20 := by decide
    refine ⟨20, by decide, by decide, by rw [cLq_2, e], fun i hi hp => ?_⟩
    have := tpos_m hi
    have : i = 20 := tpos_i hi (by decide) (show tpos i = tpos 20 by show tpos i = 1; omega)
    subst this
    exact Dom_rf _ _
  | t + 1, ht => by
    obtain ⟨b, hb, hp, e, hd⟩ := C_bt f n co t (by omega)
    have et := tidx_e (t + 2) (by omega) (by omega)
    obtain ⟨q1, q2⟩ := tidx_p (t := t + 2) (by omega) (by omega)
    by_cases c1 : (cLq f n co (t + 2)).2 ≤ cSo f co (trimOf (t + 2)) n
    · refine ⟨b, hb, by omega, by rw [cLq_p (by omega) c1, e], fun i hi hpi => ?_⟩
      rcases Nat.lt_or_ge (tpos i) (t + 2) with z | z
      · exact hd i hi z
      · have hi2 := tidx_q hi (t := t + 2) (by omega) (by omega) (by omega)
        subst hi2
        rw [e, et, i32_le] at c1
        have c2 : sI f n co b ≤ sI f n co (tidx (t + 2)) := c1
        rcases Int.lt_or_eq_of_le c2 with w | w
        · exact Or.inl w
        · exact Or.inr ⟨w, by omega⟩
    · refine ⟨tidx (t + 2), q1, by omega, by rw [cLq_n (by omega) c1, et], fun i hi hpi => ?_⟩
      rw [e, et, i32_le] at c1
      have c2 : sI f n co (tidx (t + 2)) < sI f n co b := Int.lt_of_not_ge c1
      rcases Nat.lt_or_ge (tpos i) (t + 2) with z | z
      · exact Dom_tr (Or.inl c2) (hd i hi z)
      · rw [tidx_q hi (t := t + 2) (by omega) (by omega) (by omega)]; exact Dom_rf _ _
theorem lSz_tr {m : Nat} (h : m ≤ 41) : (lSz (trQ m)).toInt = if (20 : Int) ≤ m then (m : Int) - 20 else 20 - m := by
  rw [lSz_toInt (by rw [trQ_t h]; omega), trQ_t h]
  split <;> split <;> omega
theorem neg_tr {m b : Nat} (h : m ≤ 41) (hb : b ≤ 41) : trQ m = -trQ b ↔ m + b = 40 := by
  rw [← Int32.toInt_inj, toInt_neg (by rw [trQ_t hb]; omega), trQ_t h, trQ_t hb]
  omega
theorem lBn_e {m b : Nat} (h : m ≤ 40) (hb : b < m) : (lBn (trQ b) (trQ m) = 0 → tpos b ≤ tpos m) ∧ (¬ lBn (trQ b) (trQ m) = 0 → tpos m ≤ tpos b) := by
  unfold lBn
  by_cases c1 : lSz (trQ m) < lSz (trQ b)
  · rw [if_pos c1]
    rw [i32_lt, lSz_tr (by omega), lSz_tr (by omega)] at c1
    refine ⟨fun z => absurd z (by decide), fun _ => ?_⟩
    unfold tpos
    split at c1 <;> split at c1 <;> split <;> split <;> omega
  · rw [if_neg c1]
    rw [i32_lt, lSz_tr (by omega), lSz_tr (by omega)] at c1
    by_cases c2 : trQ m = -trQ b
    · rw [if_pos c2]
      rw [neg_tr (by omega) (by omega)] at c2
      refine ⟨fun z => absurd z (by decide), fun _ => ?_⟩
      unfold tpos
      split <;> split <;> omega
    · rw [if_neg c2]
      rw [neg_tr (by omega) (by omega)] at c2
      refine ⟨fun _ => ?_, fun z => absurd nI_0 z⟩
      unfold tpos
      split at c1 <;> split at c1 <;> split <;> split <;> omega
theorem L_bt (h : Re n f vq vf vd vw vl vr) (hc : co < 3) : ∀ m, m ≤ 40 → ∃ b, b ≤ m ∧ lBq vq vd vw vl n co (m + 1) = (trQ b, cSo f co (trQ b) n) ∧ ∀ i, i ≤ m → Dom (sI f n co) b i
  | 0, _ => by
    refine ⟨0, Nat.le_refl _, ?_, fun i hi => ?_⟩
    · show (lB1 (nI 0) (-1) (trQ 0) (lSu (upd vq (10 + co) (trQ 0)) vd vw vl co n), lB2 (-1) (lSu (upd vq (10 + co) (trQ 0)) vd vw vl co n)) = _
      unfold lB1 lB2
      rw [if_pos (show (-1 : Int32) < 0 by decide), if_pos (show (-1 : Int32) < 0 by decide), (V_su h hc (trQ 0) n (Nat.le_refl n)).1]
    · rw [show i = 0 by omega]; exact Dom_rf _ _
  | m + 1, hm => by
    obtain ⟨b, hb, e, hd⟩ := L_bt h hc m (by omega)
    obtain ⟨es, s1, s2⟩ := V_su h hc (trQ (m + 1)) n (Nat.le_refl n)
    have hn0 : ¬ cSo f co (trQ b) n < 0 := by
      rw [i32_lt, i32_z]
      have := (V_su h hc (trQ b) n (Nat.le_refl n)).2.1
      omega
    have e2 : lBq vq vd vw vl n co (m + 1 + 1) = (lB1 (trQ b) (cSo f co (trQ b) n) (trQ (m + 1)) (cSo f co (trQ (m + 1)) n), lB2 (cSo f co (trQ b) n) (cSo f co (trQ (m + 1)) n)) := by
      rw [lBq, e, es]
    rw [e2]
    unfold lB1 lB2
    rw [if_neg hn0, if_neg hn0]
    have hall : ∀ b', Dom (sI f n co) b' b → Dom (sI f n co) b' (m + 1) → ∀ i, i ≤ m + 1 → Dom (sI f n co) b' i := fun b' d1 d2 i hi => by
      rcases Nat.lt_or_ge i (m + 1) with z | z
      · exact Dom_tr d1 (hd i (by omega))
      · rw [show i = m + 1 by omega]; exact d2
    by_cases c1 : cSo f co (trQ (m + 1)) n < cSo f co (trQ b) n
    · rw [if_pos c1]
      have c2 : sI f n co (m + 1) < sI f n co b := i32_lt.mp c1
      rw [if_neg (show ¬ cSo f co (trQ b) n ≤ cSo f co (trQ (m + 1)) n by rw [i32_le]; rw [i32_lt] at c1; omega)]
      exact ⟨m + 1, Nat.le_refl _, rfl, hall _ (Or.inl c2) (Dom_rf _ _)⟩
    · rw [if_neg c1]
      have c2 : sI f n co b ≤ sI f n co (m + 1) := by
        rw [i32_lt] at c1
        exact Int.not_lt.mp c1
      rw [if_pos (show cSo f co (trQ b) n ≤ cSo f co (trQ (m + 1)) n from i32_le.mpr c2)]
      by_cases c3 : cSo f co (trQ (m + 1)) n = cSo f co (trQ b) n
      · rw [if_pos c3]
        have c4 : sI f n co (m + 1) = sI f n co b := congrArg Int32.toInt c3
        obtain ⟨k1, k2⟩ := lBn_e (m := m + 1) (b := b) hm (by omega)
        by_cases c5 : lBn (trQ b) (trQ (m + 1)) = 0
        · rw [if_pos c5]
          exact ⟨b, by omega, rfl, hall _ (Dom_rf _ _) (Or.inr ⟨c4.symm, k1 c5⟩)⟩
        · rw [if_neg c5]
          exact ⟨m + 1, Nat.le_refl _, by rw [c3], hall _ (Or.inr ⟨c4, k2 c5⟩) (Dom_rf _ _)⟩
      · rw [if_neg c3]
        have c4 : ¬ sI f n co (m + 1) = sI f n co b := fun z => c3 (Int32.toInt_inj.mp z)
        exact ⟨b, by omega, rfl, hall _ (Dom_rf _ _) (Or.inl (by omega))⟩
theorem V_be (h : Re n f vq vf vd vw vl vr) (hc : co < 3) : beOK f n vq vd vw vl co := by
  obtain ⟨b, hb, hp, e, hd⟩ := C_bt f n co 40 (Nat.le_refl _)
  obtain ⟨b', hb', e', hd'⟩ := L_bt h hc 40 (Nat.le_refl _)
  have he : b = b' := Dom_eq hb hb' (hd b' hb' (tpos_m hb').2) (hd' b hb)
  subst he
  have w : ∀ j, j ≤ 1 → ¬ isW (nI j) (nI 0) (nI 1) = 0 := fun j hj => isW_n (by omega) hj (by omega)
  have ec : cLq f n co 42 = (trQ b, cSo f co (trQ b) n) := e
  have el : lBq vq vd vw vl n co 41 = (trQ b, cSo f co (trQ b) n) := e'
  refine ⟨?_, ?_⟩
  · unfold fBe
    rw [if_neg (isC_n hc), if_neg (w 0 (by decide)), if_pos nI_0, ix_nI (by omega), ec, el]
  · unfold fBe
    rw [if_neg (isC_n hc), if_neg (w 1 (by decide)), if_neg (show ¬ nI 1 = 0 by decide), ix_nI (by omega), ec, el]
end
