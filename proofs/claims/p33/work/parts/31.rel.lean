/-! the relation between the class's reel and the law's rows; what both tell -/
def rng (lo hi : Int) (x : Int32) : Prop := lo ≤ x.toInt ∧ x.toInt ≤ hi
theorem rng_mono {lo hi lo' hi' : Int} {x : Int32} (h : rng lo hi x) (h1 : lo' ≤ lo) (h2 : hi ≤ hi') : rng lo' hi' x := ⟨Int.le_trans h1 h.1, Int.le_trans h.2 h2⟩
theorem rng_nI {k : Nat} {lo hi : Int} (hk : k < 2 ^ 31) (h1 : lo ≤ k) (h2 : (k : Int) ≤ hi) : rng lo hi (nI k) := by
  unfold rng
  rw [nI_toInt hk]; exact ⟨h1, h2⟩
theorem i32_le {x y : Int32} : x ≤ y ↔ x.toInt ≤ y.toInt := Int32.le_iff_toInt_le
theorem i32_lt {x y : Int32} : x < y ↔ x.toInt < y.toInt := Int32.lt_iff_toInt_lt
theorem i32_z : (0 : Int32).toInt = 0 := by decide
theorem imax_le {x y s : Int32} : imax x y ≤ s ↔ x ≤ s ∧ y ≤ s := by
  unfold imax
  rw [i32_le, i32_le, i32_le]
  split
  · rename_i c
    rw [i32_lt] at c
    constructor
    · intro z; exact ⟨by omega, z⟩
    · intro z; exact z.2
  · rename_i c
    rw [i32_lt] at c
    constructor
    · intro z; exact ⟨z, by omega⟩
    · intro z; exact z.1
theorem imax3 {a b c s : Int32} (h0 : 0 ≤ s) : imax (imax (imax (nI 0) a) b) c ≤ s ↔ a ≤ s ∧ b ≤ s ∧ c ≤ s := by
  rw [imax_le, imax_le, imax_le]
  exact ⟨fun z => ⟨z.1.1.2, z.1.2, z.2⟩, fun z => ⟨⟨⟨h0, z.1⟩, z.2.1⟩, z.2.2⟩⟩
theorem rng_pos {hi : Int} {x : Int32} (h : rng 0 hi x) : 0 ≤ x := by rw [i32_le, i32_z]; exact h.1
theorem if_same {P Q : Prop} [Decidable P] [Decidable Q] {α : Type} {x y : α} (h : P ↔ Q) : (if P then x else y) = (if Q then x else y) := by
  by_cases c : P
  · rw [if_pos c, if_pos (h.mp c)]
  · rw [if_neg c, if_neg (fun z => c (h.mpr z))]
theorem toInt_sub {x y : Int32} (h1 : -2147483648 ≤ x.toInt - y.toInt) (h2 : x.toInt - y.toInt < 2147483648) : (x - y).toInt = x.toInt - y.toInt := by
  rw [Int32.toInt_sub]
  exact Int.bmod_eq_of_le (by omega) (by omega)
theorem toInt_add {x y : Int32} (h1 : -2147483648 ≤ x.toInt + y.toInt) (h2 : x.toInt + y.toInt < 2147483648) : (x + y).toInt = x.toInt + y.toInt := by
  rw [Int32.toInt_add]
  exact Int.bmod_eq_of_le (by omega) (by omega)
theorem toInt_neg {x : Int32} (h1 : -2147483648 < x.toInt) : (-x).toInt = -x.toInt := by
  have h2 := Int32.toInt_lt x
  rw [Int32.toInt_neg]
  exact Int.bmod_eq_of_le (by omega) (by omega)
theorem rng_nat {k : Nat} {x : Int32} (h : rng 0 k x) : ∃ a : Nat, a ≤ k ∧ x = nI a := by
  obtain ⟨a1, a2⟩ := h
  have hlt := Int32.toInt_lt x
  refine ⟨x.toInt.toNat, by omega, Int32.toInt_inj.mp ?_⟩
  rw [nI_toInt (by omega)]; omega
theorem lSz_e (x : Int32) : lSz x = iabs x := by
  unfold lSz iabs
  rw [Int32.zero_sub]
theorem lSz_toInt {x : Int32} (h1 : -2147483648 < x.toInt) : (lSz x).toInt = if 0 ≤ x.toInt then x.toInt else -x.toInt := by
  unfold lSz
  by_cases h0 : 0 ≤ x
  · rw [if_pos h0]
    rw [i32_le, i32_z] at h0
    rw [if_pos h0]
  · rw [if_neg h0]
    rw [i32_le, i32_z] at h0
    rw [if_neg h0, toInt_neg h1]
theorem lSz_rng {x : Int32} {k : Int} (hk : k < 2147483648) (h : rng (-k) k x) : rng 0 k (lSz x) := by
  obtain ⟨a, b⟩ := h
  unfold rng
  rw [lSz_toInt (by omega)]
  split <;> omega
theorem lSz_sw {x y : Int32} (hx : rng 0 50 x) (hy : rng 0 50 y) : lSz (x - y) = lSz (y - x) := by
  obtain ⟨a1, a2⟩ := hx
  obtain ⟨b1, b2⟩ := hy
  have e1 : (x - y).toInt = x.toInt - y.toInt := toInt_sub (by omega) (by omega)
  have e2 : (y - x).toInt = y.toInt - x.toInt := toInt_sub (by omega) (by omega)
  apply Int32.toInt_inj.mp
  rw [lSz_toInt (by omega), lSz_toInt (by omega), e1, e2]
  split <;> split <;> omega
theorem bd_rng (x : Int32) : rng 0 50 (bd x) := by
  unfold bd
  by_cases h0 : 0 ≤ x
  · rw [if_pos h0]
    by_cases h1 : x ≤ nI 50
    · rw [if_pos h1]
      rw [i32_le, i32_z] at h0
      rw [i32_le, nI_toInt (by decide)] at h1
      exact ⟨h0, h1⟩
    · rw [if_neg h1]; exact rng_nI (by decide) (by decide) (by decide)
  · rw [if_neg h0]; exact rng_nI (by decide) (by decide) (by decide)
/-- of three, one at least; told by nested ifs -/
theorem or3 {P0 P1 P2 : Prop} [Decidable P0] [Decidable P1] [Decidable P2] : (if (if (if P0 then nI 0 else nI 1) = 0 then (if P1 then nI 0 else nI 1) else nI 1) = 0 then (if P2 then nI 0 else nI 1) else nI 1) = if P0 ∧ P1 ∧ P2 then nI 0 else nI 1 := by
  by_cases h0 : P0
  · by_cases h1 : P1
    · by_cases h2 : P2
      · rw [if_pos h0, if_pos nI_0, if_pos h1, if_pos nI_0, if_pos h2, if_pos ⟨h0, h1, h2⟩]
      · rw [if_pos h0, if_pos nI_0, if_pos h1, if_pos nI_0, if_neg h2, if_neg (fun z => h2 z.2.2)]
    · rw [if_pos h0, if_pos nI_0, if_neg h1, if_neg (show ¬ nI 1 = 0 by decide), if_neg (fun z => h1 z.2.1)]
  · rw [if_neg h0, if_neg (show ¬ nI 1 = 0 by decide), if_neg (show ¬ nI 1 = 0 by decide), if_neg (fun z => h0 z.1)]
theorem orb {P0 P1 P2 : Prop} [Decidable P0] [Decidable P1] [Decidable P2] (x b : Int32) : x ||| (if P0 then nI 0 else b) ||| (if P1 then nI 0 else b) ||| (if P2 then nI 0 else b) = if P0 ∧ P1 ∧ P2 then x else x ||| b := by
  by_cases h0 : P0
  · by_cases h1 : P1
    · by_cases h2 : P2
      · rw [if_pos h0, if_pos h1, if_pos h2, if_pos ⟨h0, h1, h2⟩, nI_0, Int32.or_zero, Int32.or_zero, Int32.or_zero]
      · rw [if_pos h0, if_pos h1, if_neg h2, if_neg (fun z => h2 z.2.2), nI_0, Int32.or_zero, Int32.or_zero]
    · by_cases h2 : P2
      · rw [if_pos h0, if_neg h1, if_pos h2, if_neg (fun z => h1 z.2.1), nI_0, Int32.or_zero, Int32.or_zero]
      · rw [if_pos h0, if_neg h1, if_neg h2, if_neg (fun z => h1 z.2.1), nI_0, Int32.or_zero, Int32.or_assoc, Int32.or_self]
  · by_cases h1 : P1
    · by_cases h2 : P2
      · rw [if_neg h0, if_pos h1, if_pos h2, if_neg (fun z => h0 z.1), nI_0, Int32.or_zero, Int32.or_zero]
      · rw [if_neg h0, if_pos h1, if_neg h2, if_neg (fun z => h0 z.1), nI_0, Int32.or_zero, Int32.or_assoc, Int32.or_self]
    · by_cases h2 : P2
      · rw [if_neg h0, if_neg h1, if_pos h2, if_neg (fun z => h0 z.1), nI_0, Int32.or_zero, Int32.or_assoc, Int32.or_self]
      · rw [if_neg h0, if_neg h1, if_neg h2, if_neg (fun z => h0 z.1), Int32.or_assoc, Int32.or_self, Int32.or_assoc, Int32.or_self]
/-- a shot of the class's reel, and one of the law's rows -/
def AnR (f vr : Nat → Int32) (p k : Nat) : Prop := (f (13 + 14 * p + 1) = nI 0 ∧ ∀ c : Nat, c < 3 → vr (3 * k + c) = nI 0) ∨ (f (13 + 14 * p + 1) = nI 1 ∧ ∀ c : Nat, c < 3 → vr (3 * k + c) = nI 1000 + f (13 + 14 * p + (11 + c)) ∧ rng (-35) 35 (f (13 + 14 * p + (11 + c))))
def CoR (f vd vw vl : Nat → Int32) (p k c : Nat) : Prop := vd (3 * k + c) = f (13 + 14 * p + (2 + c)) ∧ vw (3 * k + c) = f (13 + 14 * p + (5 + c)) ∧ vl (3 * k + c) = f (13 + 14 * p + (8 + c)) ∧ rng (-10) 10 (f (13 + 14 * p + (5 + c))) ∧ rng 0 50 (f (13 + 14 * p + (8 + c)))
def ShR (f vf vd vw vl vr : Nat → Int32) (p k : Nat) : Prop :=
  (vf k = f (13 + 14 * p + 0) ∧ rng 1 99 (f (13 + 14 * p + 0))) ∧ (∀ c : Nat, c < 3 → CoR f vd vw vl p k c) ∧ AnR f vr p k
def HdR (f vq : Nat → Int32) : Prop :=
  (∀ j : Nat, j < 4 → vq j = f j) ∧ (rng 1 5 (f 0) ∧ rng 0 9 (f 1) ∧ rng 0 40 (f 2) ∧ rng 0 50 (f 3)) ∧ (∀ c : Nat, c < 3 → vq (7 + c) = f (4 + c) ∧ rng 0 999 (f (4 + c))) ∧ (∀ c : Nat, c < 3 → vq (10 + c) = f (7 + c) ∧ rng (-20) 20 (f (7 + c))) ∧ vq 5 = f 10 ∧ vq 6 = f 11
def Re (n : Nat) (f vq vf vd vw vl vr : Nat → Int32) : Prop := n ≤ 20 ∧ f 12 = nI n ∧ vq 4 = nI n ∧ HdR f vq ∧ ∀ p : Nat, p < n → ShR f vf vd vw vl vr p p
section
variable {n : Nat} {f vq vf vd vw vl vr : Nat → Int32} {p k c : Nat}
theorem H_set (h : HdR f vq) {j : Nat} (hj : j < 4) : vq j = f j := h.1 j hj
theorem H_age (h : HdR f vq) (hc : c < 3) : vq (7 + c) = f (4 + c) := (h.2.2.1 c hc).1
theorem H_ager (h : HdR f vq) (hc : c < 3) : rng 0 999 (f (4 + c)) := (h.2.2.1 c hc).2
theorem H_trim (h : HdR f vq) (hc : c < 3) : vq (10 + c) = f (7 + c) := (h.2.2.2.1 c hc).1
theorem H_trimr (h : HdR f vq) (hc : c < 3) : rng (-20) 20 (f (7 + c)) := (h.2.2.2.1 c hc).2
theorem H_0 (h : HdR f vq) : rng 1 5 (f 0) := h.2.1.1
theorem H_1 (h : HdR f vq) : rng 0 9 (f 1) := h.2.1.2.1
theorem H_2 (h : HdR f vq) : rng 0 40 (f 2) := h.2.1.2.2.1
theorem H_3 (h : HdR f vq) : rng 0 50 (f 3) := h.2.1.2.2.2
theorem R_n (h : Re n f vq vf vd vw vl vr) : n ≤ 20 := h.1
theorem R_12 (h : Re n f vq vf vd vw vl vr) : f 12 = nI n := h.2.1
theorem R_4 (h : Re n f vq vf vd vw vl vr) : vq 4 = nI n := h.2.2.1
theorem R_h (h : Re n f vq vf vd vw vl vr) : HdR f vq := h.2.2.2.1
theorem R_s (h : Re n f vq vf vd vw vl vr) (hp : p < n) : ShR f vf vd vw vl vr p p := h.2.2.2.2 p hp
theorem R_st (h : Re n f vq vf vd vw vl vr) : ¬ vq 0 = 0 := by
  intro z
  rw [H_set (R_h h) (by decide)] at z
  have := (H_0 (R_h h)).1
  rw [z, i32_z] at this; omega
theorem S_f (h : ShR f vf vd vw vl vr p k) : vf k = f (13 + 14 * p + 0) := h.1.1
theorem S_fr (h : ShR f vf vd vw vl vr p k) : rng 1 99 (f (13 + 14 * p + 0)) := h.1.2
theorem S_c (h : ShR f vf vd vw vl vr p k) (hc : c < 3) : CoR f vd vw vl p k c := h.2.1 c hc
theorem S_a (h : ShR f vf vd vw vl vr p k) : AnR f vr p k := h.2.2
/-! lights and prints -/
theorem V_lo (h : HdR f vq) (hc : c < 3) : vq (7 + c) * vq 3 / nI 100 = f (4 + c) * f 3 / nI 100 := by rw [H_age h hc, H_set h (by decide)]
theorem V_pr (h : HdR f vq) (hs : CoR f vd vw vl p k c) (hc : c < 3) (li : Int32) : lPr vq vd k c li = cPr f p c li (f (7 + c)) := by
  unfold lPr cPr
  rw [V_lo h hc, hs.1, H_trim h hc]
theorem V_prT (h : HdR f vq) (hs : CoR f vd vw vl p k c) (hc : c < 3) (li tr : Int32) : lPr (upd vq (10 + c) tr) vd k c li = cPr f p c li tr := by
  unfold lPr cPr
  rw [pk_us, pk_un (by omega), pk_un (by omega), V_lo h hc, hs.1]
theorem V_pn (h : HdR f vq) (hs : CoR f vd vw vl p k c) (hc : c < 3) : lPr vq vd k c (vl (3 * k + c)) = cPn f p c := by
  unfold cPn
  rw [V_pr h hs hc, hs.2.2.1]
theorem V_of (h : HdR f vq) (hs : CoR f vd vw vl p k c) (hc : c < 3) : lOf vq vd vw vl k c = cOf f p c (f (7 + c)) := by
  unfold lOf cOf
  rw [V_pr h hs hc, hs.2.2.1, hs.2.1]
theorem V_ofT (h : HdR f vq) (hs : CoR f vd vw vl p k c) (hc : c < 3) (tr : Int32) : lOf (upd vq (10 + c) tr) vd vw vl k c = cOf f p c tr := by
  unfold lOf cOf
  rw [V_prT h hs hc, hs.2.2.1, hs.2.1]
theorem cPn_rng (f : Nat → Int32) (p c : Nat) : rng 0 50 (cPn f p c) := by unfold cPn cPr; exact bd_rng _
theorem cOf_rng (hw : rng (-10) 10 (f (13 + 14 * p + (5 + c)))) (tr : Int32) : rng (-35) 35 (cOf f p c tr) := by
  unfold cOf
  obtain ⟨a1, a2⟩ : rng 0 50 (cPr f p c (f (13 + 14 * p + (8 + c))) tr) := by unfold cPr; exact bd_rng _
  obtain ⟨b1, b2⟩ := hw
  have e0 : (nI 25).toInt = 25 := by decide
  have e1 : (cPr f p c (f (13 + 14 * p + (8 + c))) tr - nI 25).toInt = (cPr f p c (f (13 + 14 * p + (8 + c))) tr).toInt - 25 := by rw [toInt_sub (by omega) (by omega), e0]
  unfold rng
  rw [toInt_sub (by omega) (by omega), e1]
  omega
/-! answers -/
theorem an_add (a : Int32) : nI 1000 + a - nI 1000 = a := by rw [Int32.add_comm, Int32.add_sub_cancel]
theorem an_pos {a : Int32} (h : rng (-35) 35 a) : ¬ nI 1000 + a ≤ 0 := by
  obtain ⟨h1, h2⟩ := h
  have e0 : (nI 1000).toInt = 1000 := by decide
  rw [i32_le, i32_z, toInt_add (by omega) (by omega), e0]; omega
theorem V_ba (h : HdR f vq) (ha : AnR f vr p k) : lBa vq vr k = cBa f p := by
  unfold lBa cBa cAn
  rcases ha with ⟨e, ha⟩ | ⟨e, ha⟩
  · have hz : nI 0 ≤ 0 := by decide
    rw [ha 0 (by decide), ha 1 (by decide), ha 2 (by decide), e]
    simp only [if_pos hz, if_pos nI_0]
  · have e1 : ¬ nI 1 = 0 := by decide
    rw [(ha 0 (by decide)).1, (ha 1 (by decide)).1, (ha 2 (by decide)).1, an_add, an_add, an_add, e]
    rw [if_neg (an_pos (ha 0 (by decide)).2), if_neg (an_pos (ha 1 (by decide)).2), if_neg (an_pos (ha 2 (by decide)).2), or3, if_neg e1, if_neg e1, H_set h (by decide), lSz_e, lSz_e, lSz_e]
    exact (if_same (imax3 (rng_pos (H_1 h)))).symm
theorem V_an (ha : AnR f vr p k) (hc : c < 3) : vr (3 * k + c) ≤ 0 ↔ cAn f p = 0 := by
  unfold cAn
  rcases ha with ⟨e, ha⟩ | ⟨e, ha⟩
  · rw [ha c hc, e, if_pos nI_0]; exact ⟨fun _ => nI_0, fun _ => by decide⟩
  · rw [(ha c hc).1, e, if_neg (show ¬ nI 1 = 0 by decide)]
    exact ⟨fun z => absurd z (an_pos (ha c hc).2), fun z => absurd z (by decide)⟩
theorem V_ju (h : Re n f vq vf vd vw vl vr) (hp : p < n) : lJu vq vd vl n p = cJu f n p := by
  have hn := R_n h
  unfold lJu cJu
  by_cases c1 : n ≤ p + 1
  · rw [if_pos c1, if_pos]
    unfold hasS
    rw [if_neg (nI_pos (by omega)), if_pos (nI_le c1 (by omega))]; exact nI_0
  · have hp1 : p + 1 < n := by omega
    rw [if_neg c1, if_neg (hasS_ne (by omega) hp1), or3]
    have key : ∀ c : Nat, c < 3 → lSz (lPr vq vd p c (vl (3 * p + c)) - lPr vq vd (p + 1) c (vl (3 * p + 3 + c))) = iabs (cPn f (p + 1) c - cPn f p c) := by
      intro c hc
      rw [show 3 * p + 3 + c = 3 * (p + 1) + c by omega, V_pn (R_h h) (S_c (R_s h hp) hc) hc, V_pn (R_h h) (S_c (R_s h hp1) hc) hc, ← lSz_e]
      exact lSz_sw (cPn_rng _ _ _) (cPn_rng _ _ _)
    rw [key 0 (by decide), key 1 (by decide), key 2 (by decide), H_set (R_h h) (by decide)]
    exact (if_same (imax3 (rng_pos (H_2 (R_h h))))).symm
theorem V_ft (h : Re n f vq vf vd vw vl vr) : ∀ k, k ≤ n → lFt vf k = cFt f k
  | 0, _ => rfl
  | k + 1, hk => by
    show lFt vf k + vf k = cFt f k + f (13 + 14 * k + 0)
    rw [V_ft h k (by omega), S_f (R_s h (by omega))]
theorem V_s1 (h : Re n f vq vf vd vw vl vr) : ∀ k, k ≤ n → lS1 vq vr k = cSt (fun p => cBa f p) k
  | 0, _ => rfl
  | k + 1, hk => by
    rw [lS1, cSt, V_s1 h k (by omega), V_ba (R_h h) (S_a (R_s h (p := k) (by omega)))]
    by_cases c : cBa f k = 0
    · rw [if_pos c, if_pos c, nI_0, Int32.or_zero]
    · rw [if_neg c, if_neg c]
theorem V_s2 (h : Re n f vq vf vd vw vl vr) : ∀ k, k ≤ n → lS2 vr k = cSt (fun p => cAn f p) k
  | 0, _ => rfl
  | k + 1, hk => by
    rw [lS2, cSt, V_s2 h k (by omega)]
    have e : vr (3 * k) ≤ 0 ↔ cAn f k = 0 := V_an (S_a (R_s h (p := k) (by omega))) (c := 0) (by decide)
    by_cases c : cAn f k = 0
    · rw [if_pos c, if_pos (e.mpr c), nI_0, Int32.or_zero]
    · rw [if_neg c, if_neg (fun z => c (e.mp z))]
theorem V_s3 (h : Re n f vq vf vd vw vl vr) : ∀ k, k ≤ n → lS3 vq vd vl n k = cSt (fun p => cJu f n p) k
  | 0, _ => rfl
  | k + 1, hk => by
    rw [lS3, cSt, V_s3 h k (by omega), V_ju h (p := k) (by omega)]
    by_cases c : cJu f n k = 0
    · rw [if_pos c, if_pos c, nI_0, Int32.or_zero]
    · rw [if_neg c, if_neg c]
theorem V_oo (h : Re n f vq vf vd vw vl vr) (hp : p < n) : cOo f p = if lSz (lOf vq vd vw vl p 0) ≤ vq 1 ∧ lSz (lOf vq vd vw vl p 1) ≤ vq 1 ∧ lSz (lOf vq vd vw vl p 2) ≤ vq 1 then nI 0 else nI 1 := by
  have hh := R_h h
  have hs := R_s h hp
  unfold cOo
  rw [V_of hh (S_c hs (c := 0) (by decide)) (by decide), V_of hh (S_c hs (c := 1) (by decide)) (by decide), V_of hh (S_c hs (c := 2) (by decide)) (by decide), lSz_e, lSz_e, lSz_e, H_set hh (by decide)]
  exact if_same (imax3 (rng_pos (H_1 hh)))
theorem V_s4 (h : Re n f vq vf vd vw vl vr) : ∀ k, k ≤ n → lS4 vq vd vw vl k = cSt (fun p => cOo f p) k
  | 0, _ => rfl
  | k + 1, hk => by
    rw [lS4, cSt, V_s4 h k (by omega), orb, V_oo h (p := k) (by omega)]
    by_cases c : lSz (lOf vq vd vw vl k 0) ≤ vq 1 ∧ lSz (lOf vq vd vw vl k 1) ≤ vq 1 ∧ lSz (lOf vq vd vw vl k 2) ≤ vq 1
    · rw [if_pos c, if_pos c, if_pos nI_0]
    · rw [if_neg c, if_neg c, if_neg (by decide)]
end
